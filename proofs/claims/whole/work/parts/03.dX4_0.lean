theorem dX4_init_0 : decode cX4_init 0 = .ok (.aload_n 0, 1) := by decide +kernel
theorem dX4_init_1 : decode cX4_init 1 = .ok (.invokespecial 3, 3) := by decide +kernel
theorem dX4_init_4 : decode cX4_init 4 = .ok (.aload_n 0, 1) := by decide +kernel
theorem dX4_init_5 : decode cX4_init 5 = .ok (.bipush 80, 2) := by decide +kernel
theorem dX4_init_7 : decode cX4_init 7 = .ok (.newarray .byte, 2) := by decide +kernel
theorem dX4_init_9 : decode cX4_init 9 = .ok (.putfield 9, 3) := by decide +kernel
theorem dX4_init_12 : decode cX4_init 12 = .ok (.aload_n 0, 1) := by decide +kernel
theorem dX4_init_13 : decode cX4_init 13 = .ok (.iconst 0, 1) := by decide +kernel
theorem dX4_init_14 : decode cX4_init 14 = .ok (.putfield 15, 3) := by decide +kernel
theorem dX4_init_17 : decode cX4_init 17 = .ok (.aload_n 0, 1) := by decide +kernel
theorem dX4_init_18 : decode cX4_init 18 = .ok (.iconst 0, 1) := by decide +kernel
theorem dX4_init_19 : decode cX4_init 19 = .ok (.putfield 19, 3) := by decide +kernel
theorem dX4_init_22 : decode cX4_init 22 = .ok (.aload_n 0, 1) := by decide +kernel
theorem dX4_init_23 : decode cX4_init 23 = .ok (.iconst 0, 1) := by decide +kernel
theorem dX4_init_24 : decode cX4_init 24 = .ok (.putfield 22, 3) := by decide +kernel
theorem dX4_init_27 : decode cX4_init 27 = .ok (.aload_n 0, 1) := by decide +kernel
theorem dX4_init_28 : decode cX4_init 28 = .ok (.bipush 6, 2) := by decide +kernel
theorem dX4_init_30 : decode cX4_init 30 = .ok (.newarray .int, 2) := by decide +kernel
theorem dX4_init_32 : decode cX4_init 32 = .ok (.putfield 25, 3) := by decide +kernel
theorem dX4_init_35 : decode cX4_init 35 = .ok (.return_, 1) := by decide +kernel
theorem dX4_printable_0 : decode cX4_printable 0 = .ok (.iconst 0, 1) := by decide +kernel
theorem dX4_printable_1 : decode cX4_printable 1 = .ok (.istore_n 3, 1) := by decide +kernel
theorem dX4_printable_2 : decode cX4_printable 2 = .ok (.iload_n 3, 1) := by decide +kernel
theorem dX4_printable_3 : decode cX4_printable 3 = .ok (.iload_n 2, 1) := by decide +kernel
theorem dX4_printable_4 : decode cX4_printable 4 = .ok (.if_icmp .ge 41, 3) := by decide +kernel
theorem dX4_printable_7 : decode cX4_printable 7 = .ok (.lload_n 0, 1) := by decide +kernel
theorem dX4_printable_8 : decode cX4_printable 8 = .ok (.bipush 8, 2) := by decide +kernel
theorem dX4_printable_10 : decode cX4_printable 10 = .ok (.iload_n 3, 1) := by decide +kernel
theorem dX4_printable_11 : decode cX4_printable 11 = .ok (.imul, 1) := by decide +kernel
theorem dX4_printable_12 : decode cX4_printable 12 = .ok (.lushr, 1) := by decide +kernel
theorem dX4_printable_13 : decode cX4_printable 13 = .ok (.ldc2_w 29, 3) := by decide +kernel
theorem dX4_printable_16 : decode cX4_printable 16 = .ok (.land, 1) := by decide +kernel
theorem dX4_printable_17 : decode cX4_printable 17 = .ok (.lstore 4, 2) := by decide +kernel
theorem dX4_printable_19 : decode cX4_printable 19 = .ok (.lload 4, 2) := by decide +kernel
theorem dX4_printable_21 : decode cX4_printable 21 = .ok (.ldc2_w 31, 3) := by decide +kernel
theorem dX4_printable_24 : decode cX4_printable 24 = .ok (.lcmp, 1) := by decide +kernel
theorem dX4_printable_25 : decode cX4_printable 25 = .ok (.ifCond .lt 12, 3) := by decide +kernel
theorem dX4_printable_28 : decode cX4_printable 28 = .ok (.lload 4, 2) := by decide +kernel
theorem dX4_printable_30 : decode cX4_printable 30 = .ok (.ldc2_w 33, 3) := by decide +kernel
theorem dX4_printable_33 : decode cX4_printable 33 = .ok (.lcmp, 1) := by decide +kernel
theorem dX4_printable_34 : decode cX4_printable 34 = .ok (.ifCond .le 5, 3) := by decide +kernel
theorem dX4_printable_37 : decode cX4_printable 37 = .ok (.iconst 0, 1) := by decide +kernel
theorem dX4_printable_38 : decode cX4_printable 38 = .ok (.ireturn, 1) := by decide +kernel
theorem dX4_printable_39 : decode cX4_printable 39 = .ok (.iinc 3 1, 3) := by decide +kernel
theorem dX4_printable_42 : decode cX4_printable 42 = .ok (.goto (-40), 3) := by decide +kernel
theorem dX4_printable_45 : decode cX4_printable 45 = .ok (.iconst 1, 1) := by decide +kernel
theorem dX4_printable_46 : decode cX4_printable 46 = .ok (.ireturn, 1) := by decide +kernel
theorem dX4_append_0 : decode cX4_append 0 = .ok (.iload_n 3, 1) := by decide +kernel
theorem dX4_append_1 : decode cX4_append 1 = .ok (.iconst 1, 1) := by decide +kernel
theorem dX4_append_2 : decode cX4_append 2 = .ok (.isub, 1) := by decide +kernel
theorem dX4_append_3 : decode cX4_append 3 = .ok (.istore 4, 2) := by decide +kernel
theorem dX4_append_5 : decode cX4_append 5 = .ok (.iload 4, 2) := by decide +kernel
theorem dX4_append_7 : decode cX4_append 7 = .ok (.ifCond .lt 46, 3) := by decide +kernel
theorem dX4_append_10 : decode cX4_append 10 = .ok (.aload_n 0, 1) := by decide +kernel
theorem dX4_append_11 : decode cX4_append 11 = .ok (.getfield 15, 3) := by decide +kernel
theorem dX4_append_14 : decode cX4_append 14 = .ok (.bipush 80, 2) := by decide +kernel
theorem dX4_append_16 : decode cX4_append 16 = .ok (.if_icmp .ge 37, 3) := by decide +kernel
theorem dX4_append_19 : decode cX4_append 19 = .ok (.aload_n 0, 1) := by decide +kernel
theorem dX4_append_20 : decode cX4_append 20 = .ok (.getfield 9, 3) := by decide +kernel
theorem dX4_append_23 : decode cX4_append 23 = .ok (.aload_n 0, 1) := by decide +kernel
theorem dX4_append_24 : decode cX4_append 24 = .ok (.getfield 15, 3) := by decide +kernel
theorem dX4_append_27 : decode cX4_append 27 = .ok (.lload_n 1, 1) := by decide +kernel
theorem dX4_append_28 : decode cX4_append 28 = .ok (.bipush 8, 2) := by decide +kernel
theorem dX4_append_30 : decode cX4_append 30 = .ok (.iload 4, 2) := by decide +kernel
theorem dX4_append_32 : decode cX4_append 32 = .ok (.imul, 1) := by decide +kernel
theorem dX4_append_33 : decode cX4_append 33 = .ok (.lushr, 1) := by decide +kernel
theorem dX4_append_34 : decode cX4_append 34 = .ok (.l2i, 1) := by decide +kernel
theorem dX4_append_35 : decode cX4_append 35 = .ok (.i2b, 1) := by decide +kernel
theorem dX4_append_36 : decode cX4_append 36 = .ok (.bastore, 1) := by decide +kernel
theorem dX4_append_37 : decode cX4_append 37 = .ok (.aload_n 0, 1) := by decide +kernel
theorem dX4_append_38 : decode cX4_append 38 = .ok (.dup, 1) := by decide +kernel
theorem dX4_append_39 : decode cX4_append 39 = .ok (.getfield 15, 3) := by decide +kernel
theorem dX4_append_42 : decode cX4_append 42 = .ok (.iconst 1, 1) := by decide +kernel
theorem dX4_append_43 : decode cX4_append 43 = .ok (.iadd, 1) := by decide +kernel
theorem dX4_append_44 : decode cX4_append 44 = .ok (.putfield 15, 3) := by decide +kernel
theorem dX4_append_47 : decode cX4_append 47 = .ok (.iinc 4 (-1), 3) := by decide +kernel
theorem dX4_append_50 : decode cX4_append 50 = .ok (.goto (-45), 3) := by decide +kernel
theorem dX4_append_53 : decode cX4_append 53 = .ok (.return_, 1) := by decide +kernel
theorem dX4_read_0 : decode cX4_read 0 = .ok (.aload_n 0, 1) := by decide +kernel
theorem dX4_read_1 : decode cX4_read 1 = .ok (.iconst 0, 1) := by decide +kernel
theorem dX4_read_2 : decode cX4_read 2 = .ok (.putfield 19, 3) := by decide +kernel
theorem dX4_read_5 : decode cX4_read 5 = .ok (.aload_n 0, 1) := by decide +kernel
theorem dX4_read_6 : decode cX4_read 6 = .ok (.iconst 0, 1) := by decide +kernel
theorem dX4_read_7 : decode cX4_read 7 = .ok (.putfield 22, 3) := by decide +kernel
theorem dX4_read_10 : decode cX4_read 10 = .ok (.aload_n 1, 1) := by decide +kernel
theorem dX4_read_11 : decode cX4_read 11 = .ok (.iconst 0, 1) := by decide +kernel
theorem dX4_read_12 : decode cX4_read 12 = .ok (.putfield 35, 3) := by decide +kernel
theorem dX4_read_15 : decode cX4_read 15 = .ok (.aload_n 0, 1) := by decide +kernel
theorem dX4_read_16 : decode cX4_read 16 = .ok (.aload_n 1, 1) := by decide +kernel
theorem dX4_read_17 : decode cX4_read 17 = .ok (.invokevirtual 40, 3) := by decide +kernel
theorem dX4_read_20 : decode cX4_read 20 = .ok (.istore_n 2, 1) := by decide +kernel
theorem dX4_read_21 : decode cX4_read 21 = .ok (.iconst 1, 1) := by decide +kernel
theorem dX4_read_22 : decode cX4_read 22 = .ok (.istore_n 3, 1) := by decide +kernel
theorem dX4_read_23 : decode cX4_read 23 = .ok (.iload_n 3, 1) := by decide +kernel
theorem dX4_read_24 : decode cX4_read 24 = .ok (.bipush 6, 2) := by decide +kernel
theorem dX4_read_26 : decode cX4_read 26 = .ok (.if_icmp .ge 38, 3) := by decide +kernel
theorem dX4_read_29 : decode cX4_read 29 = .ok (.iload_n 2, 1) := by decide +kernel
theorem dX4_read_30 : decode cX4_read 30 = .ok (.ifCond .eq 34, 3) := by decide +kernel
theorem dX4_read_33 : decode cX4_read 33 = .ok (.aload_n 0, 1) := by decide +kernel
theorem dX4_read_34 : decode cX4_read 34 = .ok (.invokevirtual 44, 3) := by decide +kernel
theorem dX4_read_37 : decode cX4_read 37 = .ok (.bipush 59, 2) := by decide +kernel
theorem dX4_read_39 : decode cX4_read 39 = .ok (.if_icmp .ne 25, 3) := by decide +kernel
theorem dX4_read_42 : decode cX4_read 42 = .ok (.aload_n 0, 1) := by decide +kernel
theorem dX4_read_43 : decode cX4_read 43 = .ok (.dup, 1) := by decide +kernel
theorem dX4_read_44 : decode cX4_read 44 = .ok (.getfield 19, 3) := by decide +kernel
theorem dX4_read_47 : decode cX4_read 47 = .ok (.iconst 1, 1) := by decide +kernel
theorem dX4_read_48 : decode cX4_read 48 = .ok (.iadd, 1) := by decide +kernel
theorem dX4_read_49 : decode cX4_read 49 = .ok (.putfield 19, 3) := by decide +kernel
theorem dX4_read_52 : decode cX4_read 52 = .ok (.aload_n 0, 1) := by decide +kernel
theorem dX4_read_53 : decode cX4_read 53 = .ok (.aload_n 1, 1) := by decide +kernel
theorem dX4_read_54 : decode cX4_read 54 = .ok (.invokevirtual 40, 3) := by decide +kernel
theorem dX4_read_57 : decode cX4_read 57 = .ok (.istore_n 2, 1) := by decide +kernel
theorem dX4_read_58 : decode cX4_read 58 = .ok (.iinc 3 1, 3) := by decide +kernel
theorem dX4_read_61 : decode cX4_read 61 = .ok (.goto (-38), 3) := by decide +kernel
theorem dX4_read_64 : decode cX4_read 64 = .ok (.iload_n 2, 1) := by decide +kernel
theorem dX4_read_65 : decode cX4_read 65 = .ok (.ifCond .eq 11, 3) := by decide +kernel
theorem dX4_read_68 : decode cX4_read 68 = .ok (.aload_n 0, 1) := by decide +kernel
theorem dX4_read_69 : decode cX4_read 69 = .ok (.invokevirtual 44, 3) := by decide +kernel
theorem dX4_read_72 : decode cX4_read 72 = .ok (.iconst (-1), 1) := by decide +kernel
theorem dX4_read_73 : decode cX4_read 73 = .ok (.if_icmp .eq 11, 3) := by decide +kernel
theorem dX4_read_76 : decode cX4_read 76 = .ok (.bipush (-20), 2) := by decide +kernel
theorem dX4_read_78 : decode cX4_read 78 = .ok (.aload_n 0, 1) := by decide +kernel
theorem dX4_read_79 : decode cX4_read 79 = .ok (.getfield 19, 3) := by decide +kernel
theorem dX4_read_82 : decode cX4_read 82 = .ok (.isub, 1) := by decide +kernel
theorem dX4_read_83 : decode cX4_read 83 = .ok (.ireturn, 1) := by decide +kernel
theorem dX4_read_84 : decode cX4_read 84 = .ok (.aload_n 0, 1) := by decide +kernel
theorem dX4_read_85 : decode cX4_read 85 = .ok (.aload_n 1, 1) := by decide +kernel
theorem dX4_read_86 : decode cX4_read 86 = .ok (.invokevirtual 48, 3) := by decide +kernel
theorem dX4_read_89 : decode cX4_read 89 = .ok (.ireturn, 1) := by decide +kernel
theorem dX4_answerOf_0 : decode cX4_answerOf 0 = .ok (.iconst 0, 1) := by decide +kernel
theorem dX4_answerOf_1 : decode cX4_answerOf 1 = .ok (.istore_n 2, 1) := by decide +kernel
theorem dX4_answerOf_2 : decode cX4_answerOf 2 = .ok (.iload_n 2, 1) := by decide +kernel
theorem dX4_answerOf_3 : decode cX4_answerOf 3 = .ok (.aload_n 1, 1) := by decide +kernel
theorem dX4_answerOf_4 : decode cX4_answerOf 4 = .ok (.getfield 35, 3) := by decide +kernel
theorem dX4_answerOf_7 : decode cX4_answerOf 7 = .ok (.if_icmp .ge 42, 3) := by decide +kernel
theorem dX4_answerOf_10 : decode cX4_answerOf 10 = .ok (.aload_n 1, 1) := by decide +kernel
theorem dX4_answerOf_11 : decode cX4_answerOf 11 = .ok (.getfield 52, 3) := by decide +kernel
theorem dX4_answerOf_14 : decode cX4_answerOf 14 = .ok (.iload_n 2, 1) := by decide +kernel
theorem dX4_answerOf_15 : decode cX4_answerOf 15 = .ok (.iaload, 1) := by decide +kernel
theorem dX4_answerOf_16 : decode cX4_answerOf 16 = .ok (.iconst 3, 1) := by decide +kernel
theorem dX4_answerOf_17 : decode cX4_answerOf 17 = .ok (.if_icmp .ne 26, 3) := by decide +kernel
theorem dX4_answerOf_20 : decode cX4_answerOf 20 = .ok (.aload_n 1, 1) := by decide +kernel
theorem dX4_answerOf_21 : decode cX4_answerOf 21 = .ok (.getfield 55, 3) := by decide +kernel
theorem dX4_answerOf_24 : decode cX4_answerOf 24 = .ok (.iload_n 2, 1) := by decide +kernel
theorem dX4_answerOf_25 : decode cX4_answerOf 25 = .ok (.iaload, 1) := by decide +kernel
theorem dX4_answerOf_26 : decode cX4_answerOf 26 = .ok (.aload_n 1, 1) := by decide +kernel
theorem dX4_answerOf_27 : decode cX4_answerOf 27 = .ok (.getfield 35, 3) := by decide +kernel
theorem dX4_answerOf_30 : decode cX4_answerOf 30 = .ok (.if_icmp .lt 13, 3) := by decide +kernel
theorem dX4_answerOf_33 : decode cX4_answerOf 33 = .ok (.bipush (-20), 2) := by decide +kernel
theorem dX4_answerOf_35 : decode cX4_answerOf 35 = .ok (.aload_n 0, 1) := by decide +kernel
theorem dX4_answerOf_36 : decode cX4_answerOf 36 = .ok (.getfield 25, 3) := by decide +kernel
theorem dX4_answerOf_39 : decode cX4_answerOf 39 = .ok (.iload_n 2, 1) := by decide +kernel
theorem dX4_answerOf_40 : decode cX4_answerOf 40 = .ok (.iaload, 1) := by decide +kernel
theorem dX4_answerOf_41 : decode cX4_answerOf 41 = .ok (.isub, 1) := by decide +kernel
theorem dX4_answerOf_42 : decode cX4_answerOf 42 = .ok (.ireturn, 1) := by decide +kernel
theorem dX4_answerOf_43 : decode cX4_answerOf 43 = .ok (.iinc 2 1, 3) := by decide +kernel
theorem dX4_answerOf_46 : decode cX4_answerOf 46 = .ok (.goto (-44), 3) := by decide +kernel
theorem dX4_answerOf_49 : decode cX4_answerOf 49 = .ok (.aload_n 1, 1) := by decide +kernel
theorem dX4_answerOf_50 : decode cX4_answerOf 50 = .ok (.getfield 35, 3) := by decide +kernel
theorem dX4_answerOf_53 : decode cX4_answerOf 53 = .ok (.ireturn, 1) := by decide +kernel
theorem dX4_readClause_0 : decode cX4_readClause 0 = .ok (.aload_n 1, 1) := by decide +kernel
theorem dX4_readClause_1 : decode cX4_readClause 1 = .ok (.getfield 35, 3) := by decide +kernel
theorem dX4_readClause_4 : decode cX4_readClause 4 = .ok (.istore_n 2, 1) := by decide +kernel
theorem dX4_readClause_5 : decode cX4_readClause 5 = .ok (.iload_n 2, 1) := by decide +kernel
theorem dX4_readClause_6 : decode cX4_readClause 6 = .ok (.bipush 6, 2) := by decide +kernel
theorem dX4_readClause_8 : decode cX4_readClause 8 = .ok (.if_icmp .ge 30, 3) := by decide +kernel
theorem dX4_readClause_11 : decode cX4_readClause 11 = .ok (.aload_n 0, 1) := by decide +kernel
theorem dX4_readClause_12 : decode cX4_readClause 12 = .ok (.aload_n 1, 1) := by decide +kernel
theorem dX4_readClause_13 : decode cX4_readClause 13 = .ok (.iload_n 2, 1) := by decide +kernel
theorem dX4_readClause_14 : decode cX4_readClause 14 = .ok (.invokevirtual 58, 3) := by decide +kernel
theorem dX4_readClause_17 : decode cX4_readClause 17 = .ok (.ifCond .eq 21, 3) := by decide +kernel
theorem dX4_readClause_20 : decode cX4_readClause 20 = .ok (.aload_n 0, 1) := by decide +kernel
theorem dX4_readClause_21 : decode cX4_readClause 21 = .ok (.aload_n 1, 1) := by decide +kernel
theorem dX4_readClause_22 : decode cX4_readClause 22 = .ok (.iload_n 2, 1) := by decide +kernel
theorem dX4_readClause_23 : decode cX4_readClause 23 = .ok (.invokevirtual 62, 3) := by decide +kernel
theorem dX4_readClause_26 : decode cX4_readClause 26 = .ok (.ifCond .eq 12, 3) := by decide +kernel
theorem dX4_readClause_29 : decode cX4_readClause 29 = .ok (.aload_n 0, 1) := by decide +kernel
theorem dX4_readClause_30 : decode cX4_readClause 30 = .ok (.invokevirtual 44, 3) := by decide +kernel
theorem dX4_readClause_33 : decode cX4_readClause 33 = .ok (.bipush 58, 2) := by decide +kernel
theorem dX4_readClause_35 : decode cX4_readClause 35 = .ok (.if_icmp .eq 5, 3) := by decide +kernel
theorem dX4_readClause_38 : decode cX4_readClause 38 = .ok (.iconst 0, 1) := by decide +kernel
theorem dX4_readClause_39 : decode cX4_readClause 39 = .ok (.ireturn, 1) := by decide +kernel
theorem dX4_readClause_40 : decode cX4_readClause 40 = .ok (.aload_n 0, 1) := by decide +kernel
theorem dX4_readClause_41 : decode cX4_readClause 41 = .ok (.dup, 1) := by decide +kernel
theorem dX4_readClause_42 : decode cX4_readClause 42 = .ok (.getfield 19, 3) := by decide +kernel
theorem dX4_readClause_45 : decode cX4_readClause 45 = .ok (.iconst 1, 1) := by decide +kernel
theorem dX4_readClause_46 : decode cX4_readClause 46 = .ok (.iadd, 1) := by decide +kernel
theorem dX4_readClause_47 : decode cX4_readClause 47 = .ok (.putfield 19, 3) := by decide +kernel
theorem dX4_readClause_50 : decode cX4_readClause 50 = .ok (.aload_n 0, 1) := by decide +kernel
theorem dX4_readClause_51 : decode cX4_readClause 51 = .ok (.aload_n 1, 1) := by decide +kernel
theorem dX4_readClause_52 : decode cX4_readClause 52 = .ok (.iload_n 2, 1) := by decide +kernel
theorem dX4_readClause_53 : decode cX4_readClause 53 = .ok (.invokevirtual 65, 3) := by decide +kernel
theorem dX4_readClause_56 : decode cX4_readClause 56 = .ok (.aload_n 1, 1) := by decide +kernel
theorem dX4_readClause_57 : decode cX4_readClause 57 = .ok (.getfield 69, 3) := by decide +kernel
theorem dX4_readClause_60 : decode cX4_readClause 60 = .ok (.iload_n 2, 1) := by decide +kernel
theorem dX4_readClause_61 : decode cX4_readClause 61 = .ok (.iaload, 1) := by decide +kernel
theorem dX4_readClause_62 : decode cX4_readClause 62 = .ok (.ifCond .ne 5, 3) := by decide +kernel
theorem dX4_readClause_65 : decode cX4_readClause 65 = .ok (.iconst 0, 1) := by decide +kernel
theorem dX4_readClause_66 : decode cX4_readClause 66 = .ok (.ireturn, 1) := by decide +kernel
theorem dX4_readClause_67 : decode cX4_readClause 67 = .ok (.aload_n 1, 1) := by decide +kernel
theorem dX4_readClause_68 : decode cX4_readClause 68 = .ok (.dup, 1) := by decide +kernel
theorem dX4_readClause_69 : decode cX4_readClause 69 = .ok (.getfield 35, 3) := by decide +kernel
theorem dX4_readClause_72 : decode cX4_readClause 72 = .ok (.iconst 1, 1) := by decide +kernel
theorem dX4_readClause_73 : decode cX4_readClause 73 = .ok (.iadd, 1) := by decide +kernel
theorem dX4_readClause_74 : decode cX4_readClause 74 = .ok (.putfield 35, 3) := by decide +kernel
theorem dX4_readClause_77 : decode cX4_readClause 77 = .ok (.iconst 1, 1) := by decide +kernel
theorem dX4_readClause_78 : decode cX4_readClause 78 = .ok (.ireturn, 1) := by decide +kernel
theorem dX4_readMembers_0 : decode cX4_readMembers 0 = .ok (.aload_n 0, 1) := by decide +kernel
theorem dX4_readMembers_1 : decode cX4_readMembers 1 = .ok (.invokevirtual 44, 3) := by decide +kernel
theorem dX4_readMembers_4 : decode cX4_readMembers 4 = .ok (.pop, 1) := by decide +kernel
theorem dX4_readMembers_5 : decode cX4_readMembers 5 = .ok (.aload_n 0, 1) := by decide +kernel
theorem dX4_readMembers_6 : decode cX4_readMembers 6 = .ok (.getfield 19, 3) := by decide +kernel
theorem dX4_readMembers_9 : decode cX4_readMembers 9 = .ok (.istore_n 3, 1) := by decide +kernel
theorem dX4_readMembers_10 : decode cX4_readMembers 10 = .ok (.iconst 0, 1) := by decide +kernel
theorem dX4_readMembers_11 : decode cX4_readMembers 11 = .ok (.istore 4, 2) := by decide +kernel
theorem dX4_readMembers_13 : decode cX4_readMembers 13 = .ok (.aload_n 0, 1) := by decide +kernel
theorem dX4_readMembers_14 : decode cX4_readMembers 14 = .ok (.getfield 19, 3) := by decide +kernel
theorem dX4_readMembers_17 : decode cX4_readMembers 17 = .ok (.aload_n 0, 1) := by decide +kernel
theorem dX4_readMembers_18 : decode cX4_readMembers 18 = .ok (.getfield 15, 3) := by decide +kernel
theorem dX4_readMembers_21 : decode cX4_readMembers 21 = .ok (.if_icmp .ge 69, 3) := by decide +kernel
theorem dX4_readMembers_24 : decode cX4_readMembers 24 = .ok (.aload_n 0, 1) := by decide +kernel
theorem dX4_readMembers_25 : decode cX4_readMembers 25 = .ok (.getfield 9, 3) := by decide +kernel
theorem dX4_readMembers_28 : decode cX4_readMembers 28 = .ok (.aload_n 0, 1) := by decide +kernel
theorem dX4_readMembers_29 : decode cX4_readMembers 29 = .ok (.getfield 19, 3) := by decide +kernel
theorem dX4_readMembers_32 : decode cX4_readMembers 32 = .ok (.baload, 1) := by decide +kernel
theorem dX4_readMembers_33 : decode cX4_readMembers 33 = .ok (.bipush 48, 2) := by decide +kernel
theorem dX4_readMembers_35 : decode cX4_readMembers 35 = .ok (.if_icmp .lt 55, 3) := by decide +kernel
theorem dX4_readMembers_38 : decode cX4_readMembers 38 = .ok (.aload_n 0, 1) := by decide +kernel
theorem dX4_readMembers_39 : decode cX4_readMembers 39 = .ok (.getfield 9, 3) := by decide +kernel
theorem dX4_readMembers_42 : decode cX4_readMembers 42 = .ok (.aload_n 0, 1) := by decide +kernel
theorem dX4_readMembers_43 : decode cX4_readMembers 43 = .ok (.getfield 19, 3) := by decide +kernel
theorem dX4_readMembers_46 : decode cX4_readMembers 46 = .ok (.baload, 1) := by decide +kernel
theorem dX4_readMembers_47 : decode cX4_readMembers 47 = .ok (.bipush 57, 2) := by decide +kernel
theorem dX4_readMembers_49 : decode cX4_readMembers 49 = .ok (.if_icmp .gt 41, 3) := by decide +kernel
theorem dX4_readMembers_52 : decode cX4_readMembers 52 = .ok (.iload 4, 2) := by decide +kernel
theorem dX4_readMembers_54 : decode cX4_readMembers 54 = .ok (.bipush 10, 2) := by decide +kernel
theorem dX4_readMembers_56 : decode cX4_readMembers 56 = .ok (.imul, 1) := by decide +kernel
theorem dX4_readMembers_57 : decode cX4_readMembers 57 = .ok (.aload_n 0, 1) := by decide +kernel
theorem dX4_readMembers_58 : decode cX4_readMembers 58 = .ok (.getfield 9, 3) := by decide +kernel
theorem dX4_readMembers_61 : decode cX4_readMembers 61 = .ok (.aload_n 0, 1) := by decide +kernel
theorem dX4_readMembers_62 : decode cX4_readMembers 62 = .ok (.getfield 19, 3) := by decide +kernel
theorem dX4_readMembers_65 : decode cX4_readMembers 65 = .ok (.baload, 1) := by decide +kernel
theorem dX4_readMembers_66 : decode cX4_readMembers 66 = .ok (.iadd, 1) := by decide +kernel
theorem dX4_readMembers_67 : decode cX4_readMembers 67 = .ok (.bipush 48, 2) := by decide +kernel
theorem dX4_readMembers_69 : decode cX4_readMembers 69 = .ok (.isub, 1) := by decide +kernel
theorem dX4_readMembers_70 : decode cX4_readMembers 70 = .ok (.bipush 21, 2) := by decide +kernel
theorem dX4_readMembers_72 : decode cX4_readMembers 72 = .ok (.invokestatic 72, 3) := by decide +kernel
theorem dX4_readMembers_75 : decode cX4_readMembers 75 = .ok (.istore 4, 2) := by decide +kernel
theorem dX4_readMembers_77 : decode cX4_readMembers 77 = .ok (.aload_n 0, 1) := by decide +kernel
theorem dX4_readMembers_78 : decode cX4_readMembers 78 = .ok (.dup, 1) := by decide +kernel
theorem dX4_readMembers_79 : decode cX4_readMembers 79 = .ok (.getfield 19, 3) := by decide +kernel
theorem dX4_readMembers_82 : decode cX4_readMembers 82 = .ok (.iconst 1, 1) := by decide +kernel
theorem dX4_readMembers_83 : decode cX4_readMembers 83 = .ok (.iadd, 1) := by decide +kernel
theorem dX4_readMembers_84 : decode cX4_readMembers 84 = .ok (.putfield 19, 3) := by decide +kernel
theorem dX4_readMembers_87 : decode cX4_readMembers 87 = .ok (.goto (-74), 3) := by decide +kernel
theorem dX4_readMembers_90 : decode cX4_readMembers 90 = .ok (.aload_n 1, 1) := by decide +kernel
theorem dX4_readMembers_91 : decode cX4_readMembers 91 = .ok (.getfield 78, 3) := by decide +kernel
theorem dX4_readMembers_94 : decode cX4_readMembers 94 = .ok (.iload_n 2, 1) := by decide +kernel
theorem dX4_readMembers_95 : decode cX4_readMembers 95 = .ok (.iload 4, 2) := by decide +kernel
theorem dX4_readMembers_97 : decode cX4_readMembers 97 = .ok (.iastore, 1) := by decide +kernel
theorem dX4_readMembers_98 : decode cX4_readMembers 98 = .ok (.iload 4, 2) := by decide +kernel
theorem dX4_readMembers_100 : decode cX4_readMembers 100 = .ok (.iconst 1, 1) := by decide +kernel
theorem dX4_readMembers_101 : decode cX4_readMembers 101 = .ok (.if_icmp .lt 10, 3) := by decide +kernel
theorem dX4_readMembers_104 : decode cX4_readMembers 104 = .ok (.iload 4, 2) := by decide +kernel
theorem dX4_readMembers_106 : decode cX4_readMembers 106 = .ok (.bipush 20, 2) := by decide +kernel
theorem dX4_readMembers_108 : decode cX4_readMembers 108 = .ok (.if_icmp .le 10, 3) := by decide +kernel
theorem dX4_readMembers_111 : decode cX4_readMembers 111 = .ok (.aload_n 0, 1) := by decide +kernel
theorem dX4_readMembers_112 : decode cX4_readMembers 112 = .ok (.iload_n 3, 1) := by decide +kernel
theorem dX4_readMembers_113 : decode cX4_readMembers 113 = .ok (.putfield 19, 3) := by decide +kernel
theorem dX4_readMembers_116 : decode cX4_readMembers 116 = .ok (.iconst 0, 1) := by decide +kernel
theorem dX4_readMembers_117 : decode cX4_readMembers 117 = .ok (.ireturn, 1) := by decide +kernel
theorem dX4_readMembers_118 : decode cX4_readMembers 118 = .ok (.iconst 1, 1) := by decide +kernel
theorem dX4_readMembers_119 : decode cX4_readMembers 119 = .ok (.ireturn, 1) := by decide +kernel
theorem dX4_readMove_0 : decode cX4_readMove 0 = .ok (.aload_n 0, 1) := by decide +kernel
theorem dX4_readMove_1 : decode cX4_readMove 1 = .ok (.invokevirtual 44, 3) := by decide +kernel
theorem dX4_readMove_4 : decode cX4_readMove 4 = .ok (.invokestatic 81, 3) := by decide +kernel
theorem dX4_readMove_7 : decode cX4_readMove 7 = .ok (.istore_n 3, 1) := by decide +kernel
theorem dX4_readMove_8 : decode cX4_readMove 8 = .ok (.iload_n 3, 1) := by decide +kernel
theorem dX4_readMove_9 : decode cX4_readMove 9 = .ok (.iconst (-1), 1) := by decide +kernel
theorem dX4_readMove_10 : decode cX4_readMove 10 = .ok (.if_icmp .eq 16, 3) := by decide +kernel
theorem dX4_readMove_13 : decode cX4_readMove 13 = .ok (.iload_n 3, 1) := by decide +kernel
theorem dX4_readMove_14 : decode cX4_readMove 14 = .ok (.iconst 4, 1) := by decide +kernel
theorem dX4_readMove_15 : decode cX4_readMove 15 = .ok (.if_icmp .ne 13, 3) := by decide +kernel
theorem dX4_readMove_18 : decode cX4_readMove 18 = .ok (.aload_n 0, 1) := by decide +kernel
theorem dX4_readMove_19 : decode cX4_readMove 19 = .ok (.getfield 22, 3) := by decide +kernel
theorem dX4_readMove_22 : decode cX4_readMove 22 = .ok (.iconst 2, 1) := by decide +kernel
theorem dX4_readMove_23 : decode cX4_readMove 23 = .ok (.if_icmp .ne 5, 3) := by decide +kernel
theorem dX4_readMove_26 : decode cX4_readMove 26 = .ok (.iconst 0, 1) := by decide +kernel
theorem dX4_readMove_27 : decode cX4_readMove 27 = .ok (.ireturn, 1) := by decide +kernel
theorem dX4_readMove_28 : decode cX4_readMove 28 = .ok (.aload_n 1, 1) := by decide +kernel
theorem dX4_readMove_29 : decode cX4_readMove 29 = .ok (.getfield 52, 3) := by decide +kernel
theorem dX4_readMove_32 : decode cX4_readMove 32 = .ok (.iload_n 2, 1) := by decide +kernel
theorem dX4_readMove_33 : decode cX4_readMove 33 = .ok (.iload_n 3, 1) := by decide +kernel
theorem dX4_readMove_34 : decode cX4_readMove 34 = .ok (.iastore, 1) := by decide +kernel
theorem dX4_readMove_35 : decode cX4_readMove 35 = .ok (.aload_n 1, 1) := by decide +kernel
theorem dX4_readMove_36 : decode cX4_readMove 36 = .ok (.getfield 55, 3) := by decide +kernel
theorem dX4_readMove_39 : decode cX4_readMove 39 = .ok (.iload_n 2, 1) := by decide +kernel
theorem dX4_readMove_40 : decode cX4_readMove 40 = .ok (.iconst 0, 1) := by decide +kernel
theorem dX4_readMove_41 : decode cX4_readMove 41 = .ok (.iastore, 1) := by decide +kernel
theorem dX4_readMove_42 : decode cX4_readMove 42 = .ok (.aload_n 0, 1) := by decide +kernel
theorem dX4_readMove_43 : decode cX4_readMove 43 = .ok (.dup, 1) := by decide +kernel
theorem dX4_readMove_44 : decode cX4_readMove 44 = .ok (.getfield 19, 3) := by decide +kernel
theorem dX4_readMove_47 : decode cX4_readMove 47 = .ok (.iconst 1, 1) := by decide +kernel
theorem dX4_readMove_48 : decode cX4_readMove 48 = .ok (.iadd, 1) := by decide +kernel
theorem dX4_readMove_49 : decode cX4_readMove 49 = .ok (.putfield 19, 3) := by decide +kernel
theorem dX4_readMove_52 : decode cX4_readMove 52 = .ok (.iload_n 3, 1) := by decide +kernel
theorem dX4_readMove_53 : decode cX4_readMove 53 = .ok (.lookupswitch 59 #[(3, 27), (4, 38)], 27) := by decide +kernel
theorem dX4_readMove_80 : decode cX4_readMove 80 = .ok (.aload_n 0, 1) := by decide +kernel
theorem dX4_readMove_81 : decode cX4_readMove 81 = .ok (.aload_n 1, 1) := by decide +kernel
theorem dX4_readMove_82 : decode cX4_readMove 82 = .ok (.iload_n 2, 1) := by decide +kernel
theorem dX4_readMove_83 : decode cX4_readMove 83 = .ok (.bipush 48, 2) := by decide +kernel
theorem dX4_readMove_85 : decode cX4_readMove 85 = .ok (.bipush 53, 2) := by decide +kernel
theorem dX4_readMove_87 : decode cX4_readMove 87 = .ok (.invokevirtual 85, 3) := by decide +kernel
theorem dX4_readMove_90 : decode cX4_readMove 90 = .ok (.ireturn, 1) := by decide +kernel
theorem dX4_readMove_91 : decode cX4_readMove 91 = .ok (.aload_n 0, 1) := by decide +kernel
theorem dX4_readMove_92 : decode cX4_readMove 92 = .ok (.dup, 1) := by decide +kernel
theorem dX4_readMove_93 : decode cX4_readMove 93 = .ok (.getfield 22, 3) := by decide +kernel
theorem dX4_readMove_96 : decode cX4_readMove 96 = .ok (.iconst 1, 1) := by decide +kernel
theorem dX4_readMove_97 : decode cX4_readMove 97 = .ok (.iadd, 1) := by decide +kernel
theorem dX4_readMove_98 : decode cX4_readMove 98 = .ok (.putfield 22, 3) := by decide +kernel
theorem dX4_readMove_101 : decode cX4_readMove 101 = .ok (.aload_n 0, 1) := by decide +kernel
theorem dX4_readMove_102 : decode cX4_readMove 102 = .ok (.aload_n 1, 1) := by decide +kernel
theorem dX4_readMove_103 : decode cX4_readMove 103 = .ok (.iload_n 2, 1) := by decide +kernel
theorem dX4_readMove_104 : decode cX4_readMove 104 = .ok (.bipush 49, 2) := by decide +kernel
theorem dX4_readMove_106 : decode cX4_readMove 106 = .ok (.bipush 51, 2) := by decide +kernel
theorem dX4_readMove_108 : decode cX4_readMove 108 = .ok (.invokevirtual 85, 3) := by decide +kernel
theorem dX4_readMove_111 : decode cX4_readMove 111 = .ok (.ireturn, 1) := by decide +kernel
theorem dX4_readMove_112 : decode cX4_readMove 112 = .ok (.iconst 1, 1) := by decide +kernel
theorem dX4_readMove_113 : decode cX4_readMove 113 = .ok (.ireturn, 1) := by decide +kernel
theorem dX4_readDigit_0 : decode cX4_readDigit 0 = .ok (.aload_n 0, 1) := by decide +kernel
theorem dX4_readDigit_1 : decode cX4_readDigit 1 = .ok (.invokevirtual 44, 3) := by decide +kernel
theorem dX4_readDigit_4 : decode cX4_readDigit 4 = .ok (.istore 5, 2) := by decide +kernel
theorem dX4_readDigit_6 : decode cX4_readDigit 6 = .ok (.iload 5, 2) := by decide +kernel
theorem dX4_readDigit_8 : decode cX4_readDigit 8 = .ok (.iload_n 3, 1) := by decide +kernel
theorem dX4_readDigit_9 : decode cX4_readDigit 9 = .ok (.if_icmp .lt 10, 3) := by decide +kernel
theorem dX4_readDigit_12 : decode cX4_readDigit 12 = .ok (.iload 5, 2) := by decide +kernel
theorem dX4_readDigit_14 : decode cX4_readDigit 14 = .ok (.iload 4, 2) := by decide +kernel
theorem dX4_readDigit_16 : decode cX4_readDigit 16 = .ok (.if_icmp .le 5, 3) := by decide +kernel
theorem dX4_readDigit_19 : decode cX4_readDigit 19 = .ok (.iconst 0, 1) := by decide +kernel
theorem dX4_readDigit_20 : decode cX4_readDigit 20 = .ok (.ireturn, 1) := by decide +kernel
theorem dX4_readDigit_21 : decode cX4_readDigit 21 = .ok (.aload_n 1, 1) := by decide +kernel
theorem dX4_readDigit_22 : decode cX4_readDigit 22 = .ok (.getfield 55, 3) := by decide +kernel
theorem dX4_readDigit_25 : decode cX4_readDigit 25 = .ok (.iload_n 2, 1) := by decide +kernel
theorem dX4_readDigit_26 : decode cX4_readDigit 26 = .ok (.iload 5, 2) := by decide +kernel
theorem dX4_readDigit_28 : decode cX4_readDigit 28 = .ok (.bipush 48, 2) := by decide +kernel
theorem dX4_readDigit_30 : decode cX4_readDigit 30 = .ok (.isub, 1) := by decide +kernel
theorem dX4_readDigit_31 : decode cX4_readDigit 31 = .ok (.iastore, 1) := by decide +kernel
theorem dX4_readDigit_32 : decode cX4_readDigit 32 = .ok (.aload_n 0, 1) := by decide +kernel
theorem dX4_readDigit_33 : decode cX4_readDigit 33 = .ok (.getfield 25, 3) := by decide +kernel
theorem dX4_readDigit_36 : decode cX4_readDigit 36 = .ok (.iload_n 2, 1) := by decide +kernel
theorem dX4_readDigit_37 : decode cX4_readDigit 37 = .ok (.aload_n 0, 1) := by decide +kernel
theorem dX4_readDigit_38 : decode cX4_readDigit 38 = .ok (.getfield 19, 3) := by decide +kernel
theorem dX4_readDigit_41 : decode cX4_readDigit 41 = .ok (.iastore, 1) := by decide +kernel
theorem dX4_readDigit_42 : decode cX4_readDigit 42 = .ok (.aload_n 0, 1) := by decide +kernel
theorem dX4_readDigit_43 : decode cX4_readDigit 43 = .ok (.dup, 1) := by decide +kernel
theorem dX4_readDigit_44 : decode cX4_readDigit 44 = .ok (.getfield 19, 3) := by decide +kernel
theorem dX4_readDigit_47 : decode cX4_readDigit 47 = .ok (.iconst 1, 1) := by decide +kernel
theorem dX4_readDigit_48 : decode cX4_readDigit 48 = .ok (.iadd, 1) := by decide +kernel
theorem dX4_readDigit_49 : decode cX4_readDigit 49 = .ok (.putfield 19, 3) := by decide +kernel
theorem dX4_readDigit_52 : decode cX4_readDigit 52 = .ok (.iconst 1, 1) := by decide +kernel
theorem dX4_readDigit_53 : decode cX4_readDigit 53 = .ok (.ireturn, 1) := by decide +kernel
theorem dX4_readNames_0 : decode cX4_readNames 0 = .ok (.aload_n 1, 1) := by decide +kernel
theorem dX4_readNames_1 : decode cX4_readNames 1 = .ok (.getfield 69, 3) := by decide +kernel
theorem dX4_readNames_4 : decode cX4_readNames 4 = .ok (.iload_n 2, 1) := by decide +kernel
theorem dX4_readNames_5 : decode cX4_readNames 5 = .ok (.iconst 0, 1) := by decide +kernel
theorem dX4_readNames_6 : decode cX4_readNames 6 = .ok (.iastore, 1) := by decide +kernel
theorem dX4_readNames_7 : decode cX4_readNames 7 = .ok (.iconst 0, 1) := by decide +kernel
theorem dX4_readNames_8 : decode cX4_readNames 8 = .ok (.istore_n 3, 1) := by decide +kernel
theorem dX4_readNames_9 : decode cX4_readNames 9 = .ok (.iload_n 3, 1) := by decide +kernel
theorem dX4_readNames_10 : decode cX4_readNames 10 = .ok (.iconst 5, 1) := by decide +kernel
theorem dX4_readNames_11 : decode cX4_readNames 11 = .ok (.if_icmp .ge 69, 3) := by decide +kernel
theorem dX4_readNames_14 : decode cX4_readNames 14 = .ok (.aload_n 0, 1) := by decide +kernel
theorem dX4_readNames_15 : decode cX4_readNames 15 = .ok (.invokevirtual 44, 3) := by decide +kernel
theorem dX4_readNames_18 : decode cX4_readNames 18 = .ok (.bipush 97, 2) := by decide +kernel
theorem dX4_readNames_20 : decode cX4_readNames 20 = .ok (.isub, 1) := by decide +kernel
theorem dX4_readNames_21 : decode cX4_readNames 21 = .ok (.istore 4, 2) := by decide +kernel
theorem dX4_readNames_23 : decode cX4_readNames 23 = .ok (.iload 4, 2) := by decide +kernel
theorem dX4_readNames_25 : decode cX4_readNames 25 = .ok (.invokestatic 89, 3) := by decide +kernel
theorem dX4_readNames_28 : decode cX4_readNames 28 = .ok (.ifCond .eq 14, 3) := by decide +kernel
theorem dX4_readNames_31 : decode cX4_readNames 31 = .ok (.aload_n 1, 1) := by decide +kernel
theorem dX4_readNames_32 : decode cX4_readNames 32 = .ok (.iload_n 2, 1) := by decide +kernel
theorem dX4_readNames_33 : decode cX4_readNames 33 = .ok (.iload 4, 2) := by decide +kernel
theorem dX4_readNames_35 : decode cX4_readNames 35 = .ok (.invokevirtual 93, 3) := by decide +kernel
theorem dX4_readNames_38 : decode cX4_readNames 38 = .ok (.iconst (-1), 1) := by decide +kernel
theorem dX4_readNames_39 : decode cX4_readNames 39 = .ok (.if_icmp .eq 4, 3) := by decide +kernel
theorem dX4_readNames_42 : decode cX4_readNames 42 = .ok (.return_, 1) := by decide +kernel
theorem dX4_readNames_43 : decode cX4_readNames 43 = .ok (.aload_n 1, 1) := by decide +kernel
theorem dX4_readNames_44 : decode cX4_readNames 44 = .ok (.getfield 96, 3) := by decide +kernel
theorem dX4_readNames_47 : decode cX4_readNames 47 = .ok (.iload_n 2, 1) := by decide +kernel
theorem dX4_readNames_48 : decode cX4_readNames 48 = .ok (.iconst 5, 1) := by decide +kernel
theorem dX4_readNames_49 : decode cX4_readNames 49 = .ok (.imul, 1) := by decide +kernel
theorem dX4_readNames_50 : decode cX4_readNames 50 = .ok (.iload_n 3, 1) := by decide +kernel
theorem dX4_readNames_51 : decode cX4_readNames 51 = .ok (.iadd, 1) := by decide +kernel
theorem dX4_readNames_52 : decode cX4_readNames 52 = .ok (.iload 4, 2) := by decide +kernel
theorem dX4_readNames_54 : decode cX4_readNames 54 = .ok (.iastore, 1) := by decide +kernel
theorem dX4_readNames_55 : decode cX4_readNames 55 = .ok (.aload_n 1, 1) := by decide +kernel
theorem dX4_readNames_56 : decode cX4_readNames 56 = .ok (.getfield 69, 3) := by decide +kernel
theorem dX4_readNames_59 : decode cX4_readNames 59 = .ok (.iload_n 2, 1) := by decide +kernel
theorem dX4_readNames_60 : decode cX4_readNames 60 = .ok (.iload_n 3, 1) := by decide +kernel
theorem dX4_readNames_61 : decode cX4_readNames 61 = .ok (.iconst 1, 1) := by decide +kernel
theorem dX4_readNames_62 : decode cX4_readNames 62 = .ok (.iadd, 1) := by decide +kernel
theorem dX4_readNames_63 : decode cX4_readNames 63 = .ok (.iastore, 1) := by decide +kernel
theorem dX4_readNames_64 : decode cX4_readNames 64 = .ok (.aload_n 0, 1) := by decide +kernel
theorem dX4_readNames_65 : decode cX4_readNames 65 = .ok (.dup, 1) := by decide +kernel
theorem dX4_readNames_66 : decode cX4_readNames 66 = .ok (.getfield 19, 3) := by decide +kernel
theorem dX4_readNames_69 : decode cX4_readNames 69 = .ok (.iconst 1, 1) := by decide +kernel
theorem dX4_readNames_70 : decode cX4_readNames 70 = .ok (.iadd, 1) := by decide +kernel
theorem dX4_readNames_71 : decode cX4_readNames 71 = .ok (.putfield 19, 3) := by decide +kernel
theorem dX4_readNames_74 : decode cX4_readNames 74 = .ok (.iinc 3 1, 3) := by decide +kernel
theorem dX4_readNames_77 : decode cX4_readNames 77 = .ok (.goto (-68), 3) := by decide +kernel
theorem dX4_readNames_80 : decode cX4_readNames 80 = .ok (.return_, 1) := by decide +kernel
theorem dX4_sign_0 : decode cX4_sign 0 = .ok (.aload_n 0, 1) := by decide +kernel
theorem dX4_sign_1 : decode cX4_sign 1 = .ok (.getfield 19, 3) := by decide +kernel
theorem dX4_sign_4 : decode cX4_sign 4 = .ok (.aload_n 0, 1) := by decide +kernel
theorem dX4_sign_5 : decode cX4_sign 5 = .ok (.getfield 15, 3) := by decide +kernel
theorem dX4_sign_8 : decode cX4_sign 8 = .ok (.if_icmp .ge 30, 3) := by decide +kernel
theorem dX4_sign_11 : decode cX4_sign 11 = .ok (.aload_n 0, 1) := by decide +kernel
theorem dX4_sign_12 : decode cX4_sign 12 = .ok (.getfield 9, 3) := by decide +kernel
theorem dX4_sign_15 : decode cX4_sign 15 = .ok (.aload_n 0, 1) := by decide +kernel
theorem dX4_sign_16 : decode cX4_sign 16 = .ok (.getfield 19, 3) := by decide +kernel
theorem dX4_sign_19 : decode cX4_sign 19 = .ok (.baload, 1) := by decide +kernel
theorem dX4_sign_20 : decode cX4_sign 20 = .ok (.bipush 32, 2) := by decide +kernel
theorem dX4_sign_22 : decode cX4_sign 22 = .ok (.if_icmp .ne 16, 3) := by decide +kernel
theorem dX4_sign_25 : decode cX4_sign 25 = .ok (.aload_n 0, 1) := by decide +kernel
theorem dX4_sign_26 : decode cX4_sign 26 = .ok (.dup, 1) := by decide +kernel
theorem dX4_sign_27 : decode cX4_sign 27 = .ok (.getfield 19, 3) := by decide +kernel
theorem dX4_sign_30 : decode cX4_sign 30 = .ok (.iconst 1, 1) := by decide +kernel
theorem dX4_sign_31 : decode cX4_sign 31 = .ok (.iadd, 1) := by decide +kernel
theorem dX4_sign_32 : decode cX4_sign 32 = .ok (.putfield 19, 3) := by decide +kernel
theorem dX4_sign_35 : decode cX4_sign 35 = .ok (.goto (-35), 3) := by decide +kernel
theorem dX4_sign_38 : decode cX4_sign 38 = .ok (.aload_n 0, 1) := by decide +kernel
theorem dX4_sign_39 : decode cX4_sign 39 = .ok (.getfield 19, 3) := by decide +kernel
theorem dX4_sign_42 : decode cX4_sign 42 = .ok (.aload_n 0, 1) := by decide +kernel
theorem dX4_sign_43 : decode cX4_sign 43 = .ok (.getfield 15, 3) := by decide +kernel
theorem dX4_sign_46 : decode cX4_sign 46 = .ok (.if_icmp .ge 15, 3) := by decide +kernel
theorem dX4_sign_49 : decode cX4_sign 49 = .ok (.aload_n 0, 1) := by decide +kernel
theorem dX4_sign_50 : decode cX4_sign 50 = .ok (.getfield 9, 3) := by decide +kernel
theorem dX4_sign_53 : decode cX4_sign 53 = .ok (.aload_n 0, 1) := by decide +kernel
theorem dX4_sign_54 : decode cX4_sign 54 = .ok (.getfield 19, 3) := by decide +kernel
theorem dX4_sign_57 : decode cX4_sign 57 = .ok (.baload, 1) := by decide +kernel
theorem dX4_sign_58 : decode cX4_sign 58 = .ok (.goto 4, 3) := by decide +kernel
theorem dX4_sign_61 : decode cX4_sign 61 = .ok (.iconst (-1), 1) := by decide +kernel
theorem dX4_sign_62 : decode cX4_sign 62 = .ok (.ireturn, 1) := by decide +kernel
theorem dX4_moveOf_0 : decode cX4_moveOf 0 = .ok (.iload_n 0, 1) := by decide +kernel
theorem dX4_moveOf_1 : decode cX4_moveOf 1 = .ok (.tableswitch 65 102 111 #[55, 65, 65, 65, 65, 63, 59, 65, 57, 61], 55) := by decide +kernel
theorem dX4_moveOf_56 : decode cX4_moveOf 56 = .ok (.iconst 0, 1) := by decide +kernel
theorem dX4_moveOf_57 : decode cX4_moveOf 57 = .ok (.ireturn, 1) := by decide +kernel
theorem dX4_moveOf_58 : decode cX4_moveOf 58 = .ok (.iconst 1, 1) := by decide +kernel
theorem dX4_moveOf_59 : decode cX4_moveOf 59 = .ok (.ireturn, 1) := by decide +kernel
theorem dX4_moveOf_60 : decode cX4_moveOf 60 = .ok (.iconst 2, 1) := by decide +kernel

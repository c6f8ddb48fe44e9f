theorem dX7_writes_155 : decode cX7_writes 155 = .ok (.ifCond .eq 12, 3) := by decide +kernel
theorem dX7_writes_158 : decode cX7_writes 158 = .ok (.aload_n 0, 1) := by decide +kernel
theorem dX7_writes_159 : decode cX7_writes 159 = .ok (.iload_n 1, 1) := by decide +kernel
theorem dX7_writes_160 : decode cX7_writes 160 = .ok (.iload_n 2, 1) := by decide +kernel
theorem dX7_writes_161 : decode cX7_writes 161 = .ok (.invokevirtual 223, 3) := by decide +kernel
theorem dX7_writes_164 : decode cX7_writes 164 = .ok (.goto 9, 3) := by decide +kernel
theorem dX7_writes_167 : decode cX7_writes 167 = .ok (.aload_n 0, 1) := by decide +kernel
theorem dX7_writes_168 : decode cX7_writes 168 = .ok (.iload_n 1, 1) := by decide +kernel
theorem dX7_writes_169 : decode cX7_writes 169 = .ok (.iload_n 2, 1) := by decide +kernel
theorem dX7_writes_170 : decode cX7_writes 170 = .ok (.invokevirtual 196, 3) := by decide +kernel
theorem dX7_writes_173 : decode cX7_writes 173 = .ok (.ireturn, 1) := by decide +kernel
theorem dX7_writes_174 : decode cX7_writes 174 = .ok (.aload_n 0, 1) := by decide +kernel
theorem dX7_writes_175 : decode cX7_writes 175 = .ok (.iload_n 1, 1) := by decide +kernel
theorem dX7_writes_176 : decode cX7_writes 176 = .ok (.iload_n 2, 1) := by decide +kernel
theorem dX7_writes_177 : decode cX7_writes 177 = .ok (.invokevirtual 196, 3) := by decide +kernel
theorem dX7_writes_180 : decode cX7_writes 180 = .ok (.ireturn, 1) := by decide +kernel
theorem dX7_go_0 : decode cX7_go 0 = .ok (.aload_n 0, 1) := by decide +kernel
theorem dX7_go_1 : decode cX7_go 1 = .ok (.invokevirtual 229, 3) := by decide +kernel
theorem dX7_go_4 : decode cX7_go 4 = .ok (.aload_n 0, 1) := by decide +kernel
theorem dX7_go_5 : decode cX7_go 5 = .ok (.invokevirtual 232, 3) := by decide +kernel
theorem dX7_go_8 : decode cX7_go 8 = .ok (.istore_n 3, 1) := by decide +kernel
theorem dX7_go_9 : decode cX7_go 9 = .ok (.aload_n 0, 1) := by decide +kernel
theorem dX7_go_10 : decode cX7_go 10 = .ok (.iconst 0, 1) := by decide +kernel
theorem dX7_go_11 : decode cX7_go 11 = .ok (.putfield 210, 3) := by decide +kernel
theorem dX7_go_14 : decode cX7_go 14 = .ok (.iconst 0, 1) := by decide +kernel
theorem dX7_go_15 : decode cX7_go 15 = .ok (.istore 4, 2) := by decide +kernel
theorem dX7_go_17 : decode cX7_go 17 = .ok (.iload 4, 2) := by decide +kernel
theorem dX7_go_19 : decode cX7_go 19 = .ok (.aload_n 0, 1) := by decide +kernel
theorem dX7_go_20 : decode cX7_go 20 = .ok (.getfield 109, 3) := by decide +kernel
theorem dX7_go_23 : decode cX7_go 23 = .ok (.if_icmp .ge 25, 3) := by decide +kernel
theorem dX7_go_26 : decode cX7_go 26 = .ok (.aload_n 0, 1) := by decide +kernel
theorem dX7_go_27 : decode cX7_go 27 = .ok (.getfield 64, 3) := by decide +kernel
theorem dX7_go_30 : decode cX7_go 30 = .ok (.iload 4, 2) := by decide +kernel
theorem dX7_go_32 : decode cX7_go 32 = .ok (.aload_n 0, 1) := by decide +kernel
theorem dX7_go_33 : decode cX7_go 33 = .ok (.iload 4, 2) := by decide +kernel
theorem dX7_go_35 : decode cX7_go 35 = .ok (.iload_n 1, 1) := by decide +kernel
theorem dX7_go_36 : decode cX7_go 36 = .ok (.iload_n 2, 1) := by decide +kernel
theorem dX7_go_37 : decode cX7_go 37 = .ok (.iload_n 3, 1) := by decide +kernel
theorem dX7_go_38 : decode cX7_go 38 = .ok (.invokevirtual 235, 3) := by decide +kernel
theorem dX7_go_41 : decode cX7_go 41 = .ok (.iastore, 1) := by decide +kernel
theorem dX7_go_42 : decode cX7_go 42 = .ok (.iinc 4 1, 3) := by decide +kernel
theorem dX7_go_45 : decode cX7_go 45 = .ok (.goto (-28), 3) := by decide +kernel
theorem dX7_go_48 : decode cX7_go 48 = .ok (.iconst 0, 1) := by decide +kernel
theorem dX7_go_49 : decode cX7_go 49 = .ok (.istore 4, 2) := by decide +kernel
theorem dX7_go_51 : decode cX7_go 51 = .ok (.iload 4, 2) := by decide +kernel
theorem dX7_go_53 : decode cX7_go 53 = .ok (.aload_n 0, 1) := by decide +kernel
theorem dX7_go_54 : decode cX7_go 54 = .ok (.getfield 109, 3) := by decide +kernel
theorem dX7_go_57 : decode cX7_go 57 = .ok (.if_icmp .ge 23, 3) := by decide +kernel
theorem dX7_go_60 : decode cX7_go 60 = .ok (.aload_n 0, 1) := by decide +kernel
theorem dX7_go_61 : decode cX7_go 61 = .ok (.getfield 61, 3) := by decide +kernel
theorem dX7_go_64 : decode cX7_go 64 = .ok (.iload 4, 2) := by decide +kernel
theorem dX7_go_66 : decode cX7_go 66 = .ok (.aload_n 0, 1) := by decide +kernel
theorem dX7_go_67 : decode cX7_go 67 = .ok (.getfield 64, 3) := by decide +kernel
theorem dX7_go_70 : decode cX7_go 70 = .ok (.iload 4, 2) := by decide +kernel
theorem dX7_go_72 : decode cX7_go 72 = .ok (.iaload, 1) := by decide +kernel
theorem dX7_go_73 : decode cX7_go 73 = .ok (.iastore, 1) := by decide +kernel
theorem dX7_go_74 : decode cX7_go 74 = .ok (.iinc 4 1, 3) := by decide +kernel
theorem dX7_go_77 : decode cX7_go 77 = .ok (.goto (-26), 3) := by decide +kernel
theorem dX7_go_80 : decode cX7_go 80 = .ok (.aload_n 0, 1) := by decide +kernel
theorem dX7_go_81 : decode cX7_go 81 = .ok (.invokevirtual 229, 3) := by decide +kernel
theorem dX7_go_84 : decode cX7_go 84 = .ok (.return_, 1) := by decide +kernel
theorem dX7_chosenIn_0 : decode cX7_chosenIn 0 = .ok (.iconst 0, 1) := by decide +kernel
theorem dX7_chosenIn_1 : decode cX7_chosenIn 1 = .ok (.istore_n 2, 1) := by decide +kernel
theorem dX7_chosenIn_2 : decode cX7_chosenIn 2 = .ok (.iconst 1, 1) := by decide +kernel
theorem dX7_chosenIn_3 : decode cX7_chosenIn 3 = .ok (.istore_n 3, 1) := by decide +kernel
theorem dX7_chosenIn_4 : decode cX7_chosenIn 4 = .ok (.iload_n 3, 1) := by decide +kernel
theorem dX7_chosenIn_5 : decode cX7_chosenIn 5 = .ok (.iconst 5, 1) := by decide +kernel
theorem dX7_chosenIn_6 : decode cX7_chosenIn 6 = .ok (.if_icmp .ge 30, 3) := by decide +kernel
theorem dX7_chosenIn_9 : decode cX7_chosenIn 9 = .ok (.aload_n 0, 1) := by decide +kernel
theorem dX7_chosenIn_10 : decode cX7_chosenIn 10 = .ok (.getfield 67, 3) := by decide +kernel
theorem dX7_chosenIn_13 : decode cX7_chosenIn 13 = .ok (.iload_n 3, 1) := by decide +kernel
theorem dX7_chosenIn_14 : decode cX7_chosenIn 14 = .ok (.iaload, 1) := by decide +kernel
theorem dX7_chosenIn_15 : decode cX7_chosenIn 15 = .ok (.aload_n 0, 1) := by decide +kernel
theorem dX7_chosenIn_16 : decode cX7_chosenIn 16 = .ok (.getfield 67, 3) := by decide +kernel
theorem dX7_chosenIn_19 : decode cX7_chosenIn 19 = .ok (.iload_n 2, 1) := by decide +kernel
theorem dX7_chosenIn_20 : decode cX7_chosenIn 20 = .ok (.iaload, 1) := by decide +kernel
theorem dX7_chosenIn_21 : decode cX7_chosenIn 21 = .ok (.if_icmp .le 7, 3) := by decide +kernel
theorem dX7_chosenIn_24 : decode cX7_chosenIn 24 = .ok (.iload_n 3, 1) := by decide +kernel
theorem dX7_chosenIn_25 : decode cX7_chosenIn 25 = .ok (.goto 4, 3) := by decide +kernel
theorem dX7_chosenIn_28 : decode cX7_chosenIn 28 = .ok (.iload_n 2, 1) := by decide +kernel
theorem dX7_chosenIn_29 : decode cX7_chosenIn 29 = .ok (.istore_n 2, 1) := by decide +kernel
theorem dX7_chosenIn_30 : decode cX7_chosenIn 30 = .ok (.iinc 3 1, 3) := by decide +kernel
theorem dX7_chosenIn_33 : decode cX7_chosenIn 33 = .ok (.goto (-29), 3) := by decide +kernel
theorem dX7_chosenIn_36 : decode cX7_chosenIn 36 = .ok (.aload_n 0, 1) := by decide +kernel
theorem dX7_chosenIn_37 : decode cX7_chosenIn 37 = .ok (.getfield 67, 3) := by decide +kernel
theorem dX7_chosenIn_40 : decode cX7_chosenIn 40 = .ok (.iload_n 2, 1) := by decide +kernel
theorem dX7_chosenIn_41 : decode cX7_chosenIn 41 = .ok (.iaload, 1) := by decide +kernel
theorem dX7_chosenIn_42 : decode cX7_chosenIn 42 = .ok (.aload_n 0, 1) := by decide +kernel
theorem dX7_chosenIn_43 : decode cX7_chosenIn 43 = .ok (.iload_n 1, 1) := by decide +kernel
theorem dX7_chosenIn_44 : decode cX7_chosenIn 44 = .ok (.iconst 4, 1) := by decide +kernel
theorem dX7_chosenIn_45 : decode cX7_chosenIn 45 = .ok (.idiv, 1) := by decide +kernel
theorem dX7_chosenIn_46 : decode cX7_chosenIn 46 = .ok (.invokevirtual 184, 3) := by decide +kernel
theorem dX7_chosenIn_49 : decode cX7_chosenIn 49 = .ok (.if_icmp .lt 7, 3) := by decide +kernel
theorem dX7_chosenIn_52 : decode cX7_chosenIn 52 = .ok (.iload_n 2, 1) := by decide +kernel
theorem dX7_chosenIn_53 : decode cX7_chosenIn 53 = .ok (.goto 5, 3) := by decide +kernel
theorem dX7_chosenIn_56 : decode cX7_chosenIn 56 = .ok (.bipush (-4), 2) := by decide +kernel
theorem dX7_chosenIn_58 : decode cX7_chosenIn 58 = .ok (.ireturn, 1) := by decide +kernel
theorem dX7_takeNow_0 : decode cX7_takeNow 0 = .ok (.iconst 0, 1) := by decide +kernel
theorem dX7_takeNow_1 : decode cX7_takeNow 1 = .ok (.istore_n 1, 1) := by decide +kernel
theorem dX7_takeNow_2 : decode cX7_takeNow 2 = .ok (.iload_n 1, 1) := by decide +kernel
theorem dX7_takeNow_3 : decode cX7_takeNow 3 = .ok (.bipush 6, 2) := by decide +kernel
theorem dX7_takeNow_5 : decode cX7_takeNow 5 = .ok (.if_icmp .ge 21, 3) := by decide +kernel
theorem dX7_takeNow_8 : decode cX7_takeNow 8 = .ok (.aload_n 0, 1) := by decide +kernel
theorem dX7_takeNow_9 : decode cX7_takeNow 9 = .ok (.getfield 61, 3) := by decide +kernel
theorem dX7_takeNow_12 : decode cX7_takeNow 12 = .ok (.iload_n 1, 1) := by decide +kernel
theorem dX7_takeNow_13 : decode cX7_takeNow 13 = .ok (.aload_n 0, 1) := by decide +kernel
theorem dX7_takeNow_14 : decode cX7_takeNow 14 = .ok (.getfield 37, 3) := by decide +kernel
theorem dX7_takeNow_17 : decode cX7_takeNow 17 = .ok (.iload_n 1, 1) := by decide +kernel
theorem dX7_takeNow_18 : decode cX7_takeNow 18 = .ok (.iaload, 1) := by decide +kernel
theorem dX7_takeNow_19 : decode cX7_takeNow 19 = .ok (.iastore, 1) := by decide +kernel
theorem dX7_takeNow_20 : decode cX7_takeNow 20 = .ok (.iinc 1 1, 3) := by decide +kernel
theorem dX7_takeNow_23 : decode cX7_takeNow 23 = .ok (.goto (-21), 3) := by decide +kernel
theorem dX7_takeNow_26 : decode cX7_takeNow 26 = .ok (.aload_n 0, 1) := by decide +kernel
theorem dX7_takeNow_27 : decode cX7_takeNow 27 = .ok (.aload_n 0, 1) := by decide +kernel
theorem dX7_takeNow_28 : decode cX7_takeNow 28 = .ok (.getfield 103, 3) := by decide +kernel
theorem dX7_takeNow_31 : decode cX7_takeNow 31 = .ok (.putfield 213, 3) := by decide +kernel
theorem dX7_takeNow_34 : decode cX7_takeNow 34 = .ok (.return_, 1) := by decide +kernel
theorem dX7_takeNone_0 : decode cX7_takeNone 0 = .ok (.iconst 0, 1) := by decide +kernel
theorem dX7_takeNone_1 : decode cX7_takeNone 1 = .ok (.istore_n 1, 1) := by decide +kernel
theorem dX7_takeNone_2 : decode cX7_takeNone 2 = .ok (.iload_n 1, 1) := by decide +kernel
theorem dX7_takeNone_3 : decode cX7_takeNone 3 = .ok (.bipush 6, 2) := by decide +kernel
theorem dX7_takeNone_5 : decode cX7_takeNone 5 = .ok (.if_icmp .ge 17, 3) := by decide +kernel
theorem dX7_takeNone_8 : decode cX7_takeNone 8 = .ok (.aload_n 0, 1) := by decide +kernel
theorem dX7_takeNone_9 : decode cX7_takeNone 9 = .ok (.getfield 61, 3) := by decide +kernel
theorem dX7_takeNone_12 : decode cX7_takeNone 12 = .ok (.iload_n 1, 1) := by decide +kernel
theorem dX7_takeNone_13 : decode cX7_takeNone 13 = .ok (.bipush (-4), 2) := by decide +kernel
theorem dX7_takeNone_15 : decode cX7_takeNone 15 = .ok (.iastore, 1) := by decide +kernel
theorem dX7_takeNone_16 : decode cX7_takeNone 16 = .ok (.iinc 1 1, 3) := by decide +kernel
theorem dX7_takeNone_19 : decode cX7_takeNone 19 = .ok (.goto (-17), 3) := by decide +kernel
theorem dX7_takeNone_22 : decode cX7_takeNone 22 = .ok (.aload_n 0, 1) := by decide +kernel
theorem dX7_takeNone_23 : decode cX7_takeNone 23 = .ok (.iconst 0, 1) := by decide +kernel
theorem dX7_takeNone_24 : decode cX7_takeNone 24 = .ok (.putfield 213, 3) := by decide +kernel
theorem dX7_takeNone_27 : decode cX7_takeNone 27 = .ok (.return_, 1) := by decide +kernel
theorem dX7_ballots_0 : decode cX7_ballots 0 = .ok (.iload_n 1, 1) := by decide +kernel
theorem dX7_ballots_1 : decode cX7_ballots 1 = .ok (.i2l, 1) := by decide +kernel
theorem dX7_ballots_2 : decode cX7_ballots 2 = .ok (.lconst 1, 1) := by decide +kernel
theorem dX7_ballots_3 : decode cX7_ballots 3 = .ok (.ldc2_w 124, 3) := by decide +kernel
theorem dX7_ballots_6 : decode cX7_ballots 6 = .ok (.invokestatic 118, 3) := by decide +kernel
theorem dX7_ballots_9 : decode cX7_ballots 9 = .ok (.ifCond .ne 5, 3) := by decide +kernel
theorem dX7_ballots_12 : decode cX7_ballots 12 = .ok (.iconst (-1), 1) := by decide +kernel
theorem dX7_ballots_13 : decode cX7_ballots 13 = .ok (.ireturn, 1) := by decide +kernel
theorem dX7_ballots_14 : decode cX7_ballots 14 = .ok (.aload_n 0, 1) := by decide +kernel
theorem dX7_ballots_15 : decode cX7_ballots 15 = .ok (.getfield 109, 3) := by decide +kernel
theorem dX7_ballots_18 : decode cX7_ballots 18 = .ok (.ifCond .ne 6, 3) := by decide +kernel
theorem dX7_ballots_21 : decode cX7_ballots 21 = .ok (.bipush (-2), 2) := by decide +kernel
theorem dX7_ballots_23 : decode cX7_ballots 23 = .ok (.ireturn, 1) := by decide +kernel
theorem dX7_ballots_24 : decode cX7_ballots 24 = .ok (.aload_n 0, 1) := by decide +kernel
theorem dX7_ballots_25 : decode cX7_ballots 25 = .ok (.invokevirtual 239, 3) := by decide +kernel
theorem dX7_ballots_28 : decode cX7_ballots 28 = .ok (.iconst 0, 1) := by decide +kernel
theorem dX7_ballots_29 : decode cX7_ballots 29 = .ok (.istore_n 2, 1) := by decide +kernel
theorem dX7_ballots_30 : decode cX7_ballots 30 = .ok (.iload_n 2, 1) := by decide +kernel
theorem dX7_ballots_31 : decode cX7_ballots 31 = .ok (.iload_n 1, 1) := by decide +kernel
theorem dX7_ballots_32 : decode cX7_ballots 32 = .ok (.if_icmp .ge 67, 3) := by decide +kernel
theorem dX7_ballots_35 : decode cX7_ballots 35 = .ok (.aload_n 0, 1) := by decide +kernel
theorem dX7_ballots_36 : decode cX7_ballots 36 = .ok (.getfield 106, 3) := by decide +kernel
theorem dX7_ballots_39 : decode cX7_ballots 39 = .ok (.ifCond .ge 60, 3) := by decide +kernel
theorem dX7_ballots_42 : decode cX7_ballots 42 = .ok (.aload_n 0, 1) := by decide +kernel
theorem dX7_ballots_43 : decode cX7_ballots 43 = .ok (.getfield 100, 3) := by decide +kernel
theorem dX7_ballots_46 : decode cX7_ballots 46 = .ok (.bipush 32, 2) := by decide +kernel
theorem dX7_ballots_48 : decode cX7_ballots 48 = .ok (.if_icmp .ge 51, 3) := by decide +kernel
theorem dX7_ballots_51 : decode cX7_ballots 51 = .ok (.aload_n 0, 1) := by decide +kernel
theorem dX7_ballots_52 : decode cX7_ballots 52 = .ok (.aload_n 0, 1) := by decide +kernel
theorem dX7_ballots_53 : decode cX7_ballots 53 = .ok (.getfield 100, 3) := by decide +kernel
theorem dX7_ballots_56 : decode cX7_ballots 56 = .ok (.aload_n 0, 1) := by decide +kernel
theorem dX7_ballots_57 : decode cX7_ballots 57 = .ok (.getfield 100, 3) := by decide +kernel
theorem dX7_ballots_60 : decode cX7_ballots 60 = .ok (.ifCond .ne 7, 3) := by decide +kernel
theorem dX7_ballots_63 : decode cX7_ballots 63 = .ok (.iconst 1, 1) := by decide +kernel
theorem dX7_ballots_64 : decode cX7_ballots 64 = .ok (.goto 4, 3) := by decide +kernel
theorem dX7_ballots_67 : decode cX7_ballots 67 = .ok (.iconst 0, 1) := by decide +kernel
theorem dX7_ballots_68 : decode cX7_ballots 68 = .ok (.invokevirtual 242, 3) := by decide +kernel
theorem dX7_ballots_71 : decode cX7_ballots 71 = .ok (.aload_n 0, 1) := by decide +kernel
theorem dX7_ballots_72 : decode cX7_ballots 72 = .ok (.aload_n 0, 1) := by decide +kernel
theorem dX7_ballots_73 : decode cX7_ballots 73 = .ok (.aload_n 0, 1) := by decide +kernel
theorem dX7_ballots_74 : decode cX7_ballots 74 = .ok (.getfield 100, 3) := by decide +kernel
theorem dX7_ballots_77 : decode cX7_ballots 77 = .ok (.invokevirtual 246, 3) := by decide +kernel
theorem dX7_ballots_80 : decode cX7_ballots 80 = .ok (.putfield 106, 3) := by decide +kernel
theorem dX7_ballots_83 : decode cX7_ballots 83 = .ok (.aload_n 0, 1) := by decide +kernel
theorem dX7_ballots_84 : decode cX7_ballots 84 = .ok (.dup, 1) := by decide +kernel
theorem dX7_ballots_85 : decode cX7_ballots 85 = .ok (.getfield 100, 3) := by decide +kernel
theorem dX7_ballots_88 : decode cX7_ballots 88 = .ok (.iconst 1, 1) := by decide +kernel
theorem dX7_ballots_89 : decode cX7_ballots 89 = .ok (.iadd, 1) := by decide +kernel
theorem dX7_ballots_90 : decode cX7_ballots 90 = .ok (.putfield 100, 3) := by decide +kernel
theorem dX7_ballots_93 : decode cX7_ballots 93 = .ok (.iinc 2 1, 3) := by decide +kernel
theorem dX7_ballots_96 : decode cX7_ballots 96 = .ok (.goto (-66), 3) := by decide +kernel
theorem dX7_ballots_99 : decode cX7_ballots 99 = .ok (.iconst 0, 1) := by decide +kernel
theorem dX7_ballots_100 : decode cX7_ballots 100 = .ok (.istore_n 2, 1) := by decide +kernel
theorem dX7_ballots_101 : decode cX7_ballots 101 = .ok (.iload_n 2, 1) := by decide +kernel
theorem dX7_ballots_102 : decode cX7_ballots 102 = .ok (.bipush 6, 2) := by decide +kernel
theorem dX7_ballots_104 : decode cX7_ballots 104 = .ok (.if_icmp .ge 21, 3) := by decide +kernel
theorem dX7_ballots_107 : decode cX7_ballots 107 = .ok (.aload_n 0, 1) := by decide +kernel
theorem dX7_ballots_108 : decode cX7_ballots 108 = .ok (.getfield 37, 3) := by decide +kernel
theorem dX7_ballots_111 : decode cX7_ballots 111 = .ok (.iload_n 2, 1) := by decide +kernel
theorem dX7_ballots_112 : decode cX7_ballots 112 = .ok (.aload_n 0, 1) := by decide +kernel
theorem dX7_ballots_113 : decode cX7_ballots 113 = .ok (.getfield 61, 3) := by decide +kernel
theorem dX7_ballots_116 : decode cX7_ballots 116 = .ok (.iload_n 2, 1) := by decide +kernel
theorem dX7_ballots_117 : decode cX7_ballots 117 = .ok (.iaload, 1) := by decide +kernel
theorem dX7_ballots_118 : decode cX7_ballots 118 = .ok (.iastore, 1) := by decide +kernel
theorem dX7_ballots_119 : decode cX7_ballots 119 = .ok (.iinc 2 1, 3) := by decide +kernel
theorem dX7_ballots_122 : decode cX7_ballots 122 = .ok (.goto (-21), 3) := by decide +kernel
theorem dX7_ballots_125 : decode cX7_ballots 125 = .ok (.aload_n 0, 1) := by decide +kernel
theorem dX7_ballots_126 : decode cX7_ballots 126 = .ok (.aload_n 0, 1) := by decide +kernel
theorem dX7_ballots_127 : decode cX7_ballots 127 = .ok (.getfield 213, 3) := by decide +kernel
theorem dX7_ballots_130 : decode cX7_ballots 130 = .ok (.putfield 103, 3) := by decide +kernel
theorem dX7_ballots_133 : decode cX7_ballots 133 = .ok (.aload_n 0, 1) := by decide +kernel
theorem dX7_ballots_134 : decode cX7_ballots 134 = .ok (.getfield 100, 3) := by decide +kernel
theorem dX7_ballots_137 : decode cX7_ballots 137 = .ok (.ireturn, 1) := by decide +kernel
theorem dX7_count_0 : decode cX7_count 0 = .ok (.iload_n 1, 1) := by decide +kernel
theorem dX7_count_1 : decode cX7_count 1 = .ok (.invokestatic 188, 3) := by decide +kernel
theorem dX7_count_4 : decode cX7_count 4 = .ok (.ifCond .ne 5, 3) := by decide +kernel
theorem dX7_count_7 : decode cX7_count 7 = .ok (.iconst (-1), 1) := by decide +kernel
theorem dX7_count_8 : decode cX7_count 8 = .ok (.ireturn, 1) := by decide +kernel
theorem dX7_count_9 : decode cX7_count 9 = .ok (.aload_n 0, 1) := by decide +kernel
theorem dX7_count_10 : decode cX7_count 10 = .ok (.invokevirtual 239, 3) := by decide +kernel
theorem dX7_count_13 : decode cX7_count 13 = .ok (.aload_n 0, 1) := by decide +kernel
theorem dX7_count_14 : decode cX7_count 14 = .ok (.invokevirtual 229, 3) := by decide +kernel
theorem dX7_count_17 : decode cX7_count 17 = .ok (.aload_n 0, 1) := by decide +kernel
theorem dX7_count_18 : decode cX7_count 18 = .ok (.getfield 67, 3) := by decide +kernel
theorem dX7_count_21 : decode cX7_count 21 = .ok (.iload_n 1, 1) := by decide +kernel
theorem dX7_count_22 : decode cX7_count 22 = .ok (.iaload, 1) := by decide +kernel
theorem dX7_count_23 : decode cX7_count 23 = .ok (.ireturn, 1) := by decide +kernel
theorem dX7_chosen_0 : decode cX7_chosen 0 = .ok (.aload_n 0, 1) := by decide +kernel
theorem dX7_chosen_1 : decode cX7_chosen 1 = .ok (.getfield 106, 3) := by decide +kernel
theorem dX7_chosen_4 : decode cX7_chosen 4 = .ok (.ireturn, 1) := by decide +kernel
theorem dX7_many_0 : decode cX7_many 0 = .ok (.iload_n 1, 1) := by decide +kernel
theorem dX7_many_1 : decode cX7_many 1 = .ok (.tableswitch 92 0 4 #[35, 40, 45, 50, 55], 35) := by decide +kernel
theorem dX7_many_36 : decode cX7_many 36 = .ok (.aload_n 0, 1) := by decide +kernel
theorem dX7_many_37 : decode cX7_many 37 = .ok (.getfield 109, 3) := by decide +kernel
theorem dX7_many_40 : decode cX7_many 40 = .ok (.ireturn, 1) := by decide +kernel
theorem dX7_many_41 : decode cX7_many 41 = .ok (.aload_n 0, 1) := by decide +kernel
theorem dX7_many_42 : decode cX7_many 42 = .ok (.invokevirtual 112, 3) := by decide +kernel
theorem dX7_many_45 : decode cX7_many 45 = .ok (.ireturn, 1) := by decide +kernel
theorem dX7_many_46 : decode cX7_many 46 = .ok (.aload_n 0, 1) := by decide +kernel
theorem dX7_many_47 : decode cX7_many 47 = .ok (.getfield 100, 3) := by decide +kernel
theorem dX7_many_50 : decode cX7_many 50 = .ok (.ireturn, 1) := by decide +kernel
theorem dX7_many_51 : decode cX7_many 51 = .ok (.aload_n 0, 1) := by decide +kernel
theorem dX7_many_52 : decode cX7_many 52 = .ok (.getfield 103, 3) := by decide +kernel
theorem dX7_many_55 : decode cX7_many 55 = .ok (.ireturn, 1) := by decide +kernel
theorem dX7_many_56 : decode cX7_many 56 = .ok (.iconst 0, 1) := by decide +kernel
theorem dX7_many_57 : decode cX7_many 57 = .ok (.istore_n 2, 1) := by decide +kernel
theorem dX7_many_58 : decode cX7_many 58 = .ok (.iconst 0, 1) := by decide +kernel
theorem dX7_many_59 : decode cX7_many 59 = .ok (.istore_n 3, 1) := by decide +kernel
theorem dX7_many_60 : decode cX7_many 60 = .ok (.iload_n 3, 1) := by decide +kernel
theorem dX7_many_61 : decode cX7_many 61 = .ok (.iconst 5, 1) := by decide +kernel
theorem dX7_many_62 : decode cX7_many 62 = .ok (.if_icmp .ge 29, 3) := by decide +kernel
theorem dX7_many_65 : decode cX7_many 65 = .ok (.iload_n 2, 1) := by decide +kernel
theorem dX7_many_66 : decode cX7_many 66 = .ok (.aload_n 0, 1) := by decide +kernel
theorem dX7_many_67 : decode cX7_many 67 = .ok (.iload_n 3, 1) := by decide +kernel
theorem dX7_many_68 : decode cX7_many 68 = .ok (.aload_n 0, 1) := by decide +kernel
theorem dX7_many_69 : decode cX7_many 69 = .ok (.getfield 100, 3) := by decide +kernel
theorem dX7_many_72 : decode cX7_many 72 = .ok (.invokevirtual 193, 3) := by decide +kernel
theorem dX7_many_75 : decode cX7_many 75 = .ok (.ifCond .eq 7, 3) := by decide +kernel
theorem dX7_many_78 : decode cX7_many 78 = .ok (.iconst 1, 1) := by decide +kernel
theorem dX7_many_79 : decode cX7_many 79 = .ok (.goto 4, 3) := by decide +kernel
theorem dX7_many_82 : decode cX7_many 82 = .ok (.iconst 0, 1) := by decide +kernel
theorem dX7_many_83 : decode cX7_many 83 = .ok (.iadd, 1) := by decide +kernel
theorem dX7_many_84 : decode cX7_many 84 = .ok (.istore_n 2, 1) := by decide +kernel
theorem dX7_many_85 : decode cX7_many 85 = .ok (.iinc 3 1, 3) := by decide +kernel
theorem dX7_many_88 : decode cX7_many 88 = .ok (.goto (-28), 3) := by decide +kernel
theorem dX7_many_91 : decode cX7_many 91 = .ok (.iload_n 2, 1) := by decide +kernel
theorem dX7_many_92 : decode cX7_many 92 = .ok (.ireturn, 1) := by decide +kernel
theorem dX7_many_93 : decode cX7_many 93 = .ok (.iconst (-1), 1) := by decide +kernel
theorem dX7_many_94 : decode cX7_many 94 = .ok (.ireturn, 1) := by decide +kernel
theorem dX7_findEnd_0 : decode cX7_findEnd 0 = .ok (.aload_n 0, 1) := by decide +kernel
theorem dX7_findEnd_1 : decode cX7_findEnd 1 = .ok (.invokevirtual 249, 3) := by decide +kernel
theorem dX7_findEnd_4 : decode cX7_findEnd 4 = .ok (.aload_n 0, 1) := by decide +kernel
theorem dX7_findEnd_5 : decode cX7_findEnd 5 = .ok (.bipush (-4), 2) := by decide +kernel
theorem dX7_findEnd_7 : decode cX7_findEnd 7 = .ok (.putfield 252, 3) := by decide +kernel
theorem dX7_findEnd_10 : decode cX7_findEnd 10 = .ok (.aload_n 0, 1) := by decide +kernel
theorem dX7_findEnd_11 : decode cX7_findEnd 11 = .ok (.bipush (-4), 2) := by decide +kernel
theorem dX7_findEnd_13 : decode cX7_findEnd 13 = .ok (.putfield 255, 3) := by decide +kernel
theorem dX7_findEnd_16 : decode cX7_findEnd 16 = .ok (.iconst 0, 1) := by decide +kernel
theorem dX7_findEnd_17 : decode cX7_findEnd 17 = .ok (.istore_n 1, 1) := by decide +kernel
theorem dX7_findEnd_18 : decode cX7_findEnd 18 = .ok (.iload_n 1, 1) := by decide +kernel
theorem dX7_findEnd_19 : decode cX7_findEnd 19 = .ok (.bipush 32, 2) := by decide +kernel
theorem dX7_findEnd_21 : decode cX7_findEnd 21 = .ok (.if_icmp .ge 56, 3) := by decide +kernel
theorem dX7_findEnd_24 : decode cX7_findEnd 24 = .ok (.aload_n 0, 1) := by decide +kernel
theorem dX7_findEnd_25 : decode cX7_findEnd 25 = .ok (.getfield 252, 3) := by decide +kernel
theorem dX7_findEnd_28 : decode cX7_findEnd 28 = .ok (.ifCond .ge 49, 3) := by decide +kernel
theorem dX7_findEnd_31 : decode cX7_findEnd 31 = .ok (.aload_n 0, 1) := by decide +kernel
theorem dX7_findEnd_32 : decode cX7_findEnd 32 = .ok (.iload_n 1, 1) := by decide +kernel
theorem dX7_findEnd_33 : decode cX7_findEnd 33 = .ok (.iload_n 1, 1) := by decide +kernel
theorem dX7_findEnd_34 : decode cX7_findEnd 34 = .ok (.ifCond .ne 7, 3) := by decide +kernel
theorem dX7_findEnd_37 : decode cX7_findEnd 37 = .ok (.iconst 1, 1) := by decide +kernel
theorem dX7_findEnd_38 : decode cX7_findEnd 38 = .ok (.goto 4, 3) := by decide +kernel
theorem dX7_findEnd_41 : decode cX7_findEnd 41 = .ok (.iconst 0, 1) := by decide +kernel
theorem dX7_findEnd_42 : decode cX7_findEnd 42 = .ok (.invokevirtual 242, 3) := by decide +kernel
theorem dX7_findEnd_45 : decode cX7_findEnd 45 = .ok (.aload_n 0, 1) := by decide +kernel
theorem dX7_findEnd_46 : decode cX7_findEnd 46 = .ok (.aload_n 0, 1) := by decide +kernel
theorem dX7_findEnd_47 : decode cX7_findEnd 47 = .ok (.iload_n 1, 1) := by decide +kernel
theorem dX7_findEnd_48 : decode cX7_findEnd 48 = .ok (.invokevirtual 246, 3) := by decide +kernel
theorem dX7_findEnd_51 : decode cX7_findEnd 51 = .ok (.putfield 252, 3) := by decide +kernel
theorem dX7_findEnd_54 : decode cX7_findEnd 54 = .ok (.aload_n 0, 1) := by decide +kernel
theorem dX7_findEnd_55 : decode cX7_findEnd 55 = .ok (.aload_n 0, 1) := by decide +kernel
theorem dX7_findEnd_56 : decode cX7_findEnd 56 = .ok (.getfield 252, 3) := by decide +kernel
theorem dX7_findEnd_59 : decode cX7_findEnd 59 = .ok (.ifCond .ge 8, 3) := by decide +kernel
theorem dX7_findEnd_62 : decode cX7_findEnd 62 = .ok (.bipush (-4), 2) := by decide +kernel
theorem dX7_findEnd_64 : decode cX7_findEnd 64 = .ok (.goto 4, 3) := by decide +kernel
theorem dX7_findEnd_67 : decode cX7_findEnd 67 = .ok (.iload_n 1, 1) := by decide +kernel
theorem dX7_findEnd_68 : decode cX7_findEnd 68 = .ok (.putfield 255, 3) := by decide +kernel
theorem dX7_findEnd_71 : decode cX7_findEnd 71 = .ok (.iinc 1 1, 3) := by decide +kernel
theorem dX7_findEnd_74 : decode cX7_findEnd 74 = .ok (.goto (-56), 3) := by decide +kernel
theorem dX7_findEnd_77 : decode cX7_findEnd 77 = .ok (.return_, 1) := by decide +kernel
theorem dX7_ends_0 : decode cX7_ends 0 = .ok (.iload_n 1, 1) := by decide +kernel
theorem dX7_ends_1 : decode cX7_ends 1 = .ok (.i2l, 1) := by decide +kernel
theorem dX7_ends_2 : decode cX7_ends 2 = .ok (.lconst 0, 1) := by decide +kernel
theorem dX7_ends_3 : decode cX7_ends 3 = .ok (.lconst 1, 1) := by decide +kernel
theorem dX7_ends_4 : decode cX7_ends 4 = .ok (.invokestatic 118, 3) := by decide +kernel
theorem dX7_ends_7 : decode cX7_ends 7 = .ok (.ifCond .ne 5, 3) := by decide +kernel
theorem dX7_ends_10 : decode cX7_ends 10 = .ok (.iconst (-1), 1) := by decide +kernel
theorem dX7_ends_11 : decode cX7_ends 11 = .ok (.ireturn, 1) := by decide +kernel
theorem dX7_ends_12 : decode cX7_ends 12 = .ok (.aload_n 0, 1) := by decide +kernel
theorem dX7_ends_13 : decode cX7_ends 13 = .ok (.getfield 109, 3) := by decide +kernel
theorem dX7_ends_16 : decode cX7_ends 16 = .ok (.ifCond .ne 6, 3) := by decide +kernel
theorem dX7_ends_19 : decode cX7_ends 19 = .ok (.bipush (-2), 2) := by decide +kernel
theorem dX7_ends_21 : decode cX7_ends 21 = .ok (.ireturn, 1) := by decide +kernel
theorem dX7_ends_22 : decode cX7_ends 22 = .ok (.aload_n 0, 1) := by decide +kernel
theorem dX7_ends_23 : decode cX7_ends 23 = .ok (.invokevirtual 258, 3) := by decide +kernel
theorem dX7_ends_26 : decode cX7_ends 26 = .ok (.iload_n 1, 1) := by decide +kernel
theorem dX7_ends_27 : decode cX7_ends 27 = .ok (.ifCond .ne 10, 3) := by decide +kernel
theorem dX7_ends_30 : decode cX7_ends 30 = .ok (.aload_n 0, 1) := by decide +kernel
theorem dX7_ends_31 : decode cX7_ends 31 = .ok (.getfield 252, 3) := by decide +kernel
theorem dX7_ends_34 : decode cX7_ends 34 = .ok (.goto 7, 3) := by decide +kernel
theorem dX7_ends_37 : decode cX7_ends 37 = .ok (.aload_n 0, 1) := by decide +kernel
theorem dX7_ends_38 : decode cX7_ends 38 = .ok (.getfield 255, 3) := by decide +kernel
theorem dX7_ends_41 : decode cX7_ends 41 = .ok (.ireturn, 1) := by decide +kernel
theorem dX7_codeOf_0 : decode cX7_codeOf 0 = .ok (.iconst 0, 1) := by decide +kernel
theorem dX7_codeOf_1 : decode cX7_codeOf 1 = .ok (.istore_n 1, 1) := by decide +kernel
theorem dX7_codeOf_2 : decode cX7_codeOf 2 = .ok (.iconst 5, 1) := by decide +kernel
theorem dX7_codeOf_3 : decode cX7_codeOf 3 = .ok (.istore_n 2, 1) := by decide +kernel
theorem dX7_codeOf_4 : decode cX7_codeOf 4 = .ok (.iload_n 2, 1) := by decide +kernel
theorem dX7_codeOf_5 : decode cX7_codeOf 5 = .ok (.ifCond .lt 36, 3) := by decide +kernel
theorem dX7_codeOf_8 : decode cX7_codeOf 8 = .ok (.bipush 6, 2) := by decide +kernel
theorem dX7_codeOf_10 : decode cX7_codeOf 10 = .ok (.iload_n 1, 1) := by decide +kernel
theorem dX7_codeOf_11 : decode cX7_codeOf 11 = .ok (.imul, 1) := by decide +kernel
theorem dX7_codeOf_12 : decode cX7_codeOf 12 = .ok (.aload_n 0, 1) := by decide +kernel
theorem dX7_codeOf_13 : decode cX7_codeOf 13 = .ok (.getfield 61, 3) := by decide +kernel
theorem dX7_codeOf_16 : decode cX7_codeOf 16 = .ok (.iload_n 2, 1) := by decide +kernel
theorem dX7_codeOf_17 : decode cX7_codeOf 17 = .ok (.iaload, 1) := by decide +kernel
theorem dX7_codeOf_18 : decode cX7_codeOf 18 = .ok (.ifCond .ge 7, 3) := by decide +kernel
theorem dX7_codeOf_21 : decode cX7_codeOf 21 = .ok (.iconst 0, 1) := by decide +kernel
theorem dX7_codeOf_22 : decode cX7_codeOf 22 = .ok (.goto 11, 3) := by decide +kernel
theorem dX7_codeOf_25 : decode cX7_codeOf 25 = .ok (.aload_n 0, 1) := by decide +kernel
theorem dX7_codeOf_26 : decode cX7_codeOf 26 = .ok (.getfield 61, 3) := by decide +kernel
theorem dX7_codeOf_29 : decode cX7_codeOf 29 = .ok (.iload_n 2, 1) := by decide +kernel
theorem dX7_codeOf_30 : decode cX7_codeOf 30 = .ok (.iaload, 1) := by decide +kernel
theorem dX7_codeOf_31 : decode cX7_codeOf 31 = .ok (.iconst 1, 1) := by decide +kernel
theorem dX7_codeOf_32 : decode cX7_codeOf 32 = .ok (.iadd, 1) := by decide +kernel
theorem dX7_codeOf_33 : decode cX7_codeOf 33 = .ok (.iadd, 1) := by decide +kernel
theorem dX7_codeOf_34 : decode cX7_codeOf 34 = .ok (.istore_n 1, 1) := by decide +kernel
theorem dX7_codeOf_35 : decode cX7_codeOf 35 = .ok (.iinc 2 (-1), 3) := by decide +kernel
theorem dX7_codeOf_38 : decode cX7_codeOf 38 = .ok (.goto (-34), 3) := by decide +kernel
theorem dX7_codeOf_41 : decode cX7_codeOf 41 = .ok (.iload_n 1, 1) := by decide +kernel
theorem dX7_codeOf_42 : decode cX7_codeOf 42 = .ok (.ireturn, 1) := by decide +kernel
theorem dX7_layCode_0 : decode cX7_layCode 0 = .ok (.iload_n 1, 1) := by decide +kernel
theorem dX7_layCode_1 : decode cX7_layCode 1 = .ok (.istore_n 2, 1) := by decide +kernel
theorem dX7_layCode_2 : decode cX7_layCode 2 = .ok (.iconst 0, 1) := by decide +kernel
theorem dX7_layCode_3 : decode cX7_layCode 3 = .ok (.istore_n 3, 1) := by decide +kernel
theorem dX7_layCode_4 : decode cX7_layCode 4 = .ok (.iload_n 3, 1) := by decide +kernel
theorem dX7_layCode_5 : decode cX7_layCode 5 = .ok (.bipush 6, 2) := by decide +kernel
theorem dX7_layCode_7 : decode cX7_layCode 7 = .ok (.if_icmp .ge 38, 3) := by decide +kernel
theorem dX7_layCode_10 : decode cX7_layCode 10 = .ok (.aload_n 0, 1) := by decide +kernel
theorem dX7_layCode_11 : decode cX7_layCode 11 = .ok (.getfield 61, 3) := by decide +kernel
theorem dX7_layCode_14 : decode cX7_layCode 14 = .ok (.iload_n 3, 1) := by decide +kernel
theorem dX7_layCode_15 : decode cX7_layCode 15 = .ok (.iload_n 2, 1) := by decide +kernel
theorem dX7_layCode_16 : decode cX7_layCode 16 = .ok (.bipush 6, 2) := by decide +kernel
theorem dX7_layCode_18 : decode cX7_layCode 18 = .ok (.irem, 1) := by decide +kernel
theorem dX7_layCode_19 : decode cX7_layCode 19 = .ok (.ifCond .ne 8, 3) := by decide +kernel
theorem dX7_layCode_22 : decode cX7_layCode 22 = .ok (.bipush (-4), 2) := by decide +kernel
theorem dX7_layCode_24 : decode cX7_layCode 24 = .ok (.goto 9, 3) := by decide +kernel
theorem dX7_layCode_27 : decode cX7_layCode 27 = .ok (.iload_n 2, 1) := by decide +kernel
theorem dX7_layCode_28 : decode cX7_layCode 28 = .ok (.bipush 6, 2) := by decide +kernel
theorem dX7_layCode_30 : decode cX7_layCode 30 = .ok (.irem, 1) := by decide +kernel
theorem dX7_layCode_31 : decode cX7_layCode 31 = .ok (.iconst 1, 1) := by decide +kernel
theorem dX7_layCode_32 : decode cX7_layCode 32 = .ok (.isub, 1) := by decide +kernel
theorem dX7_layCode_33 : decode cX7_layCode 33 = .ok (.iastore, 1) := by decide +kernel
theorem dX7_layCode_34 : decode cX7_layCode 34 = .ok (.iload_n 2, 1) := by decide +kernel
theorem dX7_layCode_35 : decode cX7_layCode 35 = .ok (.bipush 6, 2) := by decide +kernel
theorem dX7_layCode_37 : decode cX7_layCode 37 = .ok (.idiv, 1) := by decide +kernel
theorem dX7_layCode_38 : decode cX7_layCode 38 = .ok (.istore_n 2, 1) := by decide +kernel
theorem dX7_layCode_39 : decode cX7_layCode 39 = .ok (.iinc 3 1, 3) := by decide +kernel
theorem dX7_layCode_42 : decode cX7_layCode 42 = .ok (.goto (-38), 3) := by decide +kernel
theorem dX7_layCode_45 : decode cX7_layCode 45 = .ok (.return_, 1) := by decide +kernel
theorem dX7_lotBlocks_0 : decode cX7_lotBlocks 0 = .ok (.iconst 0, 1) := by decide +kernel
theorem dX7_lotBlocks_1 : decode cX7_lotBlocks 1 = .ok (.istore_n 1, 1) := by decide +kernel
theorem dX7_lotBlocks_2 : decode cX7_lotBlocks 2 = .ok (.iconst 0, 1) := by decide +kernel
theorem dX7_lotBlocks_3 : decode cX7_lotBlocks 3 = .ok (.istore_n 2, 1) := by decide +kernel
theorem dX7_lotBlocks_4 : decode cX7_lotBlocks 4 = .ok (.iload_n 2, 1) := by decide +kernel
theorem dX7_lotBlocks_5 : decode cX7_lotBlocks 5 = .ok (.aload_n 0, 1) := by decide +kernel
theorem dX7_lotBlocks_6 : decode cX7_lotBlocks 6 = .ok (.getfield 109, 3) := by decide +kernel
theorem dX7_lotBlocks_9 : decode cX7_lotBlocks 9 = .ok (.if_icmp .ge 27, 3) := by decide +kernel
theorem dX7_lotBlocks_12 : decode cX7_lotBlocks 12 = .ok (.iload_n 1, 1) := by decide +kernel
theorem dX7_lotBlocks_13 : decode cX7_lotBlocks 13 = .ok (.aload_n 0, 1) := by decide +kernel
theorem dX7_lotBlocks_14 : decode cX7_lotBlocks 14 = .ok (.getfield 13, 3) := by decide +kernel
theorem dX7_lotBlocks_17 : decode cX7_lotBlocks 17 = .ok (.iload_n 2, 1) := by decide +kernel
theorem dX7_lotBlocks_18 : decode cX7_lotBlocks 18 = .ok (.iaload, 1) := by decide +kernel
theorem dX7_lotBlocks_19 : decode cX7_lotBlocks 19 = .ok (.iconst 4, 1) := by decide +kernel
theorem dX7_lotBlocks_20 : decode cX7_lotBlocks 20 = .ok (.if_icmp .ne 7, 3) := by decide +kernel
theorem dX7_lotBlocks_23 : decode cX7_lotBlocks 23 = .ok (.iconst 1, 1) := by decide +kernel
theorem dX7_lotBlocks_24 : decode cX7_lotBlocks 24 = .ok (.goto 4, 3) := by decide +kernel
theorem dX7_lotBlocks_27 : decode cX7_lotBlocks 27 = .ok (.iconst 0, 1) := by decide +kernel
theorem dX7_lotBlocks_28 : decode cX7_lotBlocks 28 = .ok (.iadd, 1) := by decide +kernel
theorem dX7_lotBlocks_29 : decode cX7_lotBlocks 29 = .ok (.istore_n 1, 1) := by decide +kernel
theorem dX7_lotBlocks_30 : decode cX7_lotBlocks 30 = .ok (.iinc 2 1, 3) := by decide +kernel
theorem dX7_lotBlocks_33 : decode cX7_lotBlocks 33 = .ok (.goto (-29), 3) := by decide +kernel
theorem dX7_lotBlocks_36 : decode cX7_lotBlocks 36 = .ok (.iload_n 1, 1) := by decide +kernel
theorem dX7_lotBlocks_37 : decode cX7_lotBlocks 37 = .ok (.ireturn, 1) := by decide +kernel
theorem dX7_ring_0 : decode cX7_ring 0 = .ok (.iload_n 1, 1) := by decide +kernel
theorem dX7_ring_1 : decode cX7_ring 1 = .ok (.i2l, 1) := by decide +kernel
theorem dX7_ring_2 : decode cX7_ring 2 = .ok (.lconst 0, 1) := by decide +kernel
theorem dX7_ring_3 : decode cX7_ring 3 = .ok (.lconst 1, 1) := by decide +kernel
theorem dX7_ring_4 : decode cX7_ring 4 = .ok (.invokestatic 118, 3) := by decide +kernel
theorem dX7_ring_7 : decode cX7_ring 7 = .ok (.ifCond .ne 5, 3) := by decide +kernel
theorem dX7_ring_10 : decode cX7_ring 10 = .ok (.iconst (-1), 1) := by decide +kernel
theorem dX7_ring_11 : decode cX7_ring 11 = .ok (.ireturn, 1) := by decide +kernel
theorem dX7_ring_12 : decode cX7_ring 12 = .ok (.aload_n 0, 1) := by decide +kernel
theorem dX7_ring_13 : decode cX7_ring 13 = .ok (.getfield 109, 3) := by decide +kernel
theorem dX7_ring_16 : decode cX7_ring 16 = .ok (.ifCond .eq 10, 3) := by decide +kernel
theorem dX7_ring_19 : decode cX7_ring 19 = .ok (.aload_n 0, 1) := by decide +kernel
theorem dX7_ring_20 : decode cX7_ring 20 = .ok (.invokevirtual 261, 3) := by decide +kernel
theorem dX7_ring_23 : decode cX7_ring 23 = .ok (.ifCond .le 6, 3) := by decide +kernel
theorem dX7_ring_26 : decode cX7_ring 26 = .ok (.bipush (-2), 2) := by decide +kernel
theorem dX7_ring_28 : decode cX7_ring 28 = .ok (.ireturn, 1) := by decide +kernel
theorem dX7_ring_29 : decode cX7_ring 29 = .ok (.iconst 0, 1) := by decide +kernel
theorem dX7_ring_30 : decode cX7_ring 30 = .ok (.istore_n 2, 1) := by decide +kernel
theorem dX7_ring_31 : decode cX7_ring 31 = .ok (.iload_n 2, 1) := by decide +kernel
theorem dX7_ring_32 : decode cX7_ring 32 = .ok (.ldc 74, 2) := by decide +kernel
theorem dX7_ring_34 : decode cX7_ring 34 = .ok (.if_icmp .ge 18, 3) := by decide +kernel
theorem dX7_ring_37 : decode cX7_ring 37 = .ok (.aload_n 0, 1) := by decide +kernel
theorem dX7_ring_38 : decode cX7_ring 38 = .ok (.getfield 75, 3) := by decide +kernel
theorem dX7_ring_41 : decode cX7_ring 41 = .ok (.iload_n 2, 1) := by decide +kernel
theorem dX7_ring_42 : decode cX7_ring 42 = .ok (.ldc2_w 264, 3) := by decide +kernel
theorem dX7_ring_45 : decode cX7_ring 45 = .ok (.lastore, 1) := by decide +kernel
theorem dX7_ring_46 : decode cX7_ring 46 = .ok (.iinc 2 1, 3) := by decide +kernel
theorem dX7_ring_49 : decode cX7_ring 49 = .ok (.goto (-18), 3) := by decide +kernel
theorem dX7_ring_52 : decode cX7_ring 52 = .ok (.aload_n 0, 1) := by decide +kernel
theorem dX7_ring_53 : decode cX7_ring 53 = .ok (.invokevirtual 239, 3) := by decide +kernel
theorem dX7_ring_56 : decode cX7_ring 56 = .ok (.iconst 0, 1) := by decide +kernel
theorem dX7_ring_57 : decode cX7_ring 57 = .ok (.istore_n 2, 1) := by decide +kernel
theorem dX7_ring_58 : decode cX7_ring 58 = .ok (.aload_n 0, 1) := by decide +kernel
theorem dX7_ring_59 : decode cX7_ring 59 = .ok (.getfield 75, 3) := by decide +kernel
theorem dX7_ring_62 : decode cX7_ring 62 = .ok (.aload_n 0, 1) := by decide +kernel
theorem dX7_ring_63 : decode cX7_ring 63 = .ok (.invokevirtual 266, 3) := by decide +kernel
theorem dX7_ring_66 : decode cX7_ring 66 = .ok (.laload, 1) := by decide +kernel
theorem dX7_ring_67 : decode cX7_ring 67 = .ok (.lconst 0, 1) := by decide +kernel
theorem dX7_ring_68 : decode cX7_ring 68 = .ok (.lcmp, 1) := by decide +kernel
theorem dX7_ring_69 : decode cX7_ring 69 = .ok (.ifCond .ge 29, 3) := by decide +kernel
theorem dX7_ring_72 : decode cX7_ring 72 = .ok (.aload_n 0, 1) := by decide +kernel
theorem dX7_ring_73 : decode cX7_ring 73 = .ok (.getfield 75, 3) := by decide +kernel
theorem dX7_ring_76 : decode cX7_ring 76 = .ok (.aload_n 0, 1) := by decide +kernel
theorem dX7_ring_77 : decode cX7_ring 77 = .ok (.invokevirtual 266, 3) := by decide +kernel

theorem dX6_init_0 : decode cX6_init 0 = .ok (.aload_n 0, 1) := by decide +kernel
theorem dX6_init_1 : decode cX6_init 1 = .ok (.invokespecial 3, 3) := by decide +kernel
theorem dX6_init_4 : decode cX6_init 4 = .ok (.aload_n 0, 1) := by decide +kernel
theorem dX6_init_5 : decode cX6_init 5 = .ok (.new 9, 3) := by decide +kernel
theorem dX6_init_8 : decode cX6_init 8 = .ok (.dup, 1) := by decide +kernel
theorem dX6_init_9 : decode cX6_init 9 = .ok (.invokespecial 11, 3) := by decide +kernel
theorem dX6_init_12 : decode cX6_init 12 = .ok (.putfield 12, 3) := by decide +kernel
theorem dX6_init_15 : decode cX6_init 15 = .ok (.aload_n 0, 1) := by decide +kernel
theorem dX6_init_16 : decode cX6_init 16 = .ok (.new 16, 3) := by decide +kernel
theorem dX6_init_19 : decode cX6_init 19 = .ok (.dup, 1) := by decide +kernel
theorem dX6_init_20 : decode cX6_init 20 = .ok (.invokespecial 18, 3) := by decide +kernel
theorem dX6_init_23 : decode cX6_init 23 = .ok (.putfield 19, 3) := by decide +kernel
theorem dX6_init_26 : decode cX6_init 26 = .ok (.aload_n 0, 1) := by decide +kernel
theorem dX6_init_27 : decode cX6_init 27 = .ok (.new 23, 3) := by decide +kernel
theorem dX6_init_30 : decode cX6_init 30 = .ok (.dup, 1) := by decide +kernel
theorem dX6_init_31 : decode cX6_init 31 = .ok (.invokespecial 25, 3) := by decide +kernel
theorem dX6_init_34 : decode cX6_init 34 = .ok (.putfield 26, 3) := by decide +kernel
theorem dX6_init_37 : decode cX6_init 37 = .ok (.aload_n 0, 1) := by decide +kernel
theorem dX6_init_38 : decode cX6_init 38 = .ok (.new 16, 3) := by decide +kernel
theorem dX6_init_41 : decode cX6_init 41 = .ok (.dup, 1) := by decide +kernel
theorem dX6_init_42 : decode cX6_init 42 = .ok (.invokespecial 18, 3) := by decide +kernel
theorem dX6_init_45 : decode cX6_init 45 = .ok (.putfield 30, 3) := by decide +kernel
theorem dX6_init_48 : decode cX6_init 48 = .ok (.aload_n 0, 1) := by decide +kernel
theorem dX6_init_49 : decode cX6_init 49 = .ok (.new 23, 3) := by decide +kernel
theorem dX6_init_52 : decode cX6_init 52 = .ok (.dup, 1) := by decide +kernel
theorem dX6_init_53 : decode cX6_init 53 = .ok (.invokespecial 25, 3) := by decide +kernel
theorem dX6_init_56 : decode cX6_init 56 = .ok (.putfield 33, 3) := by decide +kernel
theorem dX6_init_59 : decode cX6_init 59 = .ok (.aload_n 0, 1) := by decide +kernel
theorem dX6_init_60 : decode cX6_init 60 = .ok (.iconst 0, 1) := by decide +kernel
theorem dX6_init_61 : decode cX6_init 61 = .ok (.putfield 36, 3) := by decide +kernel
theorem dX6_init_64 : decode cX6_init 64 = .ok (.aload_n 0, 1) := by decide +kernel
theorem dX6_init_65 : decode cX6_init 65 = .ok (.new 16, 3) := by decide +kernel
theorem dX6_init_68 : decode cX6_init 68 = .ok (.dup, 1) := by decide +kernel
theorem dX6_init_69 : decode cX6_init 69 = .ok (.invokespecial 18, 3) := by decide +kernel
theorem dX6_init_72 : decode cX6_init 72 = .ok (.putfield 40, 3) := by decide +kernel
theorem dX6_init_75 : decode cX6_init 75 = .ok (.aload_n 0, 1) := by decide +kernel
theorem dX6_init_76 : decode cX6_init 76 = .ok (.new 23, 3) := by decide +kernel
theorem dX6_init_79 : decode cX6_init 79 = .ok (.dup, 1) := by decide +kernel
theorem dX6_init_80 : decode cX6_init 80 = .ok (.invokespecial 25, 3) := by decide +kernel
theorem dX6_init_83 : decode cX6_init 83 = .ok (.putfield 43, 3) := by decide +kernel
theorem dX6_init_86 : decode cX6_init 86 = .ok (.aload_n 0, 1) := by decide +kernel
theorem dX6_init_87 : decode cX6_init 87 = .ok (.new 46, 3) := by decide +kernel
theorem dX6_init_90 : decode cX6_init 90 = .ok (.dup, 1) := by decide +kernel
theorem dX6_init_91 : decode cX6_init 91 = .ok (.invokespecial 48, 3) := by decide +kernel
theorem dX6_init_94 : decode cX6_init 94 = .ok (.putfield 49, 3) := by decide +kernel
theorem dX6_init_97 : decode cX6_init 97 = .ok (.aload_n 0, 1) := by decide +kernel
theorem dX6_init_98 : decode cX6_init 98 = .ok (.new 53, 3) := by decide +kernel
theorem dX6_init_101 : decode cX6_init 101 = .ok (.dup, 1) := by decide +kernel
theorem dX6_init_102 : decode cX6_init 102 = .ok (.invokespecial 55, 3) := by decide +kernel
theorem dX6_init_105 : decode cX6_init 105 = .ok (.putfield 56, 3) := by decide +kernel
theorem dX6_init_108 : decode cX6_init 108 = .ok (.return_, 1) := by decide +kernel
theorem dX6_type_0 : decode cX6_type 0 = .ok (.iload_n 3, 1) := by decide +kernel
theorem dX6_type_1 : decode cX6_type 1 = .ok (.iconst 1, 1) := by decide +kernel
theorem dX6_type_2 : decode cX6_type 2 = .ok (.if_icmp .lt 17, 3) := by decide +kernel
theorem dX6_type_5 : decode cX6_type 5 = .ok (.iload_n 3, 1) := by decide +kernel
theorem dX6_type_6 : decode cX6_type 6 = .ok (.bipush 8, 2) := by decide +kernel
theorem dX6_type_8 : decode cX6_type 8 = .ok (.if_icmp .gt 11, 3) := by decide +kernel
theorem dX6_type_11 : decode cX6_type 11 = .ok (.lload_n 1, 1) := by decide +kernel
theorem dX6_type_12 : decode cX6_type 12 = .ok (.iload_n 3, 1) := by decide +kernel
theorem dX6_type_13 : decode cX6_type 13 = .ok (.invokestatic 60, 3) := by decide +kernel
theorem dX6_type_16 : decode cX6_type 16 = .ok (.ifCond .ne 5, 3) := by decide +kernel
theorem dX6_type_19 : decode cX6_type 19 = .ok (.iconst (-1), 1) := by decide +kernel
theorem dX6_type_20 : decode cX6_type 20 = .ok (.ireturn, 1) := by decide +kernel
theorem dX6_type_21 : decode cX6_type 21 = .ok (.aload_n 0, 1) := by decide +kernel
theorem dX6_type_22 : decode cX6_type 22 = .ok (.getfield 12, 3) := by decide +kernel
theorem dX6_type_25 : decode cX6_type 25 = .ok (.getfield 64, 3) := by decide +kernel
theorem dX6_type_28 : decode cX6_type 28 = .ok (.iload_n 3, 1) := by decide +kernel
theorem dX6_type_29 : decode cX6_type 29 = .ok (.iadd, 1) := by decide +kernel
theorem dX6_type_30 : decode cX6_type 30 = .ok (.bipush 80, 2) := by decide +kernel
theorem dX6_type_32 : decode cX6_type 32 = .ok (.if_icmp .le 6, 3) := by decide +kernel
theorem dX6_type_35 : decode cX6_type 35 = .ok (.bipush (-3), 2) := by decide +kernel
theorem dX6_type_37 : decode cX6_type 37 = .ok (.ireturn, 1) := by decide +kernel
theorem dX6_type_38 : decode cX6_type 38 = .ok (.aload_n 0, 1) := by decide +kernel
theorem dX6_type_39 : decode cX6_type 39 = .ok (.getfield 12, 3) := by decide +kernel
theorem dX6_type_42 : decode cX6_type 42 = .ok (.lload_n 1, 1) := by decide +kernel
theorem dX6_type_43 : decode cX6_type 43 = .ok (.iload_n 3, 1) := by decide +kernel
theorem dX6_type_44 : decode cX6_type 44 = .ok (.invokevirtual 68, 3) := by decide +kernel
theorem dX6_type_47 : decode cX6_type 47 = .ok (.aload_n 0, 1) := by decide +kernel
theorem dX6_type_48 : decode cX6_type 48 = .ok (.getfield 12, 3) := by decide +kernel
theorem dX6_type_51 : decode cX6_type 51 = .ok (.getfield 64, 3) := by decide +kernel
theorem dX6_type_54 : decode cX6_type 54 = .ok (.ireturn, 1) := by decide +kernel
theorem dX6_hall_0 : decode cX6_hall 0 = .ok (.aload_n 0, 1) := by decide +kernel
theorem dX6_hall_1 : decode cX6_hall 1 = .ok (.getfield 12, 3) := by decide +kernel
theorem dX6_hall_4 : decode cX6_hall 4 = .ok (.aload_n 0, 1) := by decide +kernel
theorem dX6_hall_5 : decode cX6_hall 5 = .ok (.getfield 40, 3) := by decide +kernel
theorem dX6_hall_8 : decode cX6_hall 8 = .ok (.invokevirtual 72, 3) := by decide +kernel
theorem dX6_hall_11 : decode cX6_hall 11 = .ok (.istore_n 1, 1) := by decide +kernel
theorem dX6_hall_12 : decode cX6_hall 12 = .ok (.aload_n 0, 1) := by decide +kernel
theorem dX6_hall_13 : decode cX6_hall 13 = .ok (.getfield 12, 3) := by decide +kernel
theorem dX6_hall_16 : decode cX6_hall 16 = .ok (.iconst 0, 1) := by decide +kernel
theorem dX6_hall_17 : decode cX6_hall 17 = .ok (.putfield 64, 3) := by decide +kernel
theorem dX6_hall_20 : decode cX6_hall 20 = .ok (.iload_n 1, 1) := by decide +kernel
theorem dX6_hall_21 : decode cX6_hall 21 = .ok (.ifCond .le 21, 3) := by decide +kernel
theorem dX6_hall_24 : decode cX6_hall 24 = .ok (.aload_n 0, 1) := by decide +kernel
theorem dX6_hall_25 : decode cX6_hall 25 = .ok (.getfield 19, 3) := by decide +kernel
theorem dX6_hall_28 : decode cX6_hall 28 = .ok (.aload_n 0, 1) := by decide +kernel
theorem dX6_hall_29 : decode cX6_hall 29 = .ok (.getfield 40, 3) := by decide +kernel
theorem dX6_hall_32 : decode cX6_hall 32 = .ok (.invokevirtual 76, 3) := by decide +kernel
theorem dX6_hall_35 : decode cX6_hall 35 = .ok (.aload_n 0, 1) := by decide +kernel
theorem dX6_hall_36 : decode cX6_hall 36 = .ok (.getfield 26, 3) := by decide +kernel
theorem dX6_hall_39 : decode cX6_hall 39 = .ok (.invokevirtual 80, 3) := by decide +kernel
theorem dX6_hall_42 : decode cX6_hall 42 = .ok (.iload_n 1, 1) := by decide +kernel
theorem dX6_hall_43 : decode cX6_hall 43 = .ok (.ireturn, 1) := by decide +kernel
theorem dX6_block_0 : decode cX6_block 0 = .ok (.aload_n 0, 1) := by decide +kernel
theorem dX6_block_1 : decode cX6_block 1 = .ok (.iload_n 1, 1) := by decide +kernel
theorem dX6_block_2 : decode cX6_block 2 = .ok (.invokevirtual 83, 3) := by decide +kernel
theorem dX6_block_5 : decode cX6_block 5 = .ok (.ifCond .ne 5, 3) := by decide +kernel
theorem dX6_block_8 : decode cX6_block 8 = .ok (.iconst (-1), 1) := by decide +kernel
theorem dX6_block_9 : decode cX6_block 9 = .ok (.ireturn, 1) := by decide +kernel
theorem dX6_block_10 : decode cX6_block 10 = .ok (.iload_n 2, 1) := by decide +kernel
theorem dX6_block_11 : decode cX6_block 11 = .ok (.tableswitch 102 0 4 #[33, 43, 53, 79, 89], 33) := by decide +kernel
theorem dX6_block_44 : decode cX6_block 44 = .ok (.aload_n 0, 1) := by decide +kernel
theorem dX6_block_45 : decode cX6_block 45 = .ok (.getfield 19, 3) := by decide +kernel
theorem dX6_block_48 : decode cX6_block 48 = .ok (.getfield 87, 3) := by decide +kernel
theorem dX6_block_51 : decode cX6_block 51 = .ok (.iload_n 1, 1) := by decide +kernel
theorem dX6_block_52 : decode cX6_block 52 = .ok (.iaload, 1) := by decide +kernel
theorem dX6_block_53 : decode cX6_block 53 = .ok (.ireturn, 1) := by decide +kernel
theorem dX6_block_54 : decode cX6_block 54 = .ok (.aload_n 0, 1) := by decide +kernel
theorem dX6_block_55 : decode cX6_block 55 = .ok (.getfield 19, 3) := by decide +kernel
theorem dX6_block_58 : decode cX6_block 58 = .ok (.getfield 91, 3) := by decide +kernel
theorem dX6_block_61 : decode cX6_block 61 = .ok (.iload_n 1, 1) := by decide +kernel
theorem dX6_block_62 : decode cX6_block 62 = .ok (.iaload, 1) := by decide +kernel
theorem dX6_block_63 : decode cX6_block 63 = .ok (.ireturn, 1) := by decide +kernel
theorem dX6_block_64 : decode cX6_block 64 = .ok (.aload_n 0, 1) := by decide +kernel
theorem dX6_block_65 : decode cX6_block 65 = .ok (.getfield 19, 3) := by decide +kernel
theorem dX6_block_68 : decode cX6_block 68 = .ok (.iload_n 1, 1) := by decide +kernel
theorem dX6_block_69 : decode cX6_block 69 = .ok (.invokevirtual 94, 3) := by decide +kernel
theorem dX6_block_72 : decode cX6_block 72 = .ok (.ifCond .eq 15, 3) := by decide +kernel
theorem dX6_block_75 : decode cX6_block 75 = .ok (.aload_n 0, 1) := by decide +kernel
theorem dX6_block_76 : decode cX6_block 76 = .ok (.getfield 19, 3) := by decide +kernel
theorem dX6_block_79 : decode cX6_block 79 = .ok (.getfield 97, 3) := by decide +kernel
theorem dX6_block_82 : decode cX6_block 82 = .ok (.iload_n 1, 1) := by decide +kernel
theorem dX6_block_83 : decode cX6_block 83 = .ok (.iaload, 1) := by decide +kernel
theorem dX6_block_84 : decode cX6_block 84 = .ok (.goto 5, 3) := by decide +kernel
theorem dX6_block_87 : decode cX6_block 87 = .ok (.bipush (-4), 2) := by decide +kernel
theorem dX6_block_89 : decode cX6_block 89 = .ok (.ireturn, 1) := by decide +kernel
theorem dX6_block_90 : decode cX6_block 90 = .ok (.aload_n 0, 1) := by decide +kernel
theorem dX6_block_91 : decode cX6_block 91 = .ok (.getfield 19, 3) := by decide +kernel
theorem dX6_block_94 : decode cX6_block 94 = .ok (.getfield 100, 3) := by decide +kernel
theorem dX6_block_97 : decode cX6_block 97 = .ok (.iload_n 1, 1) := by decide +kernel
theorem dX6_block_98 : decode cX6_block 98 = .ok (.iaload, 1) := by decide +kernel
theorem dX6_block_99 : decode cX6_block 99 = .ok (.ireturn, 1) := by decide +kernel
theorem dX6_block_100 : decode cX6_block 100 = .ok (.aload_n 0, 1) := by decide +kernel
theorem dX6_block_101 : decode cX6_block 101 = .ok (.getfield 26, 3) := by decide +kernel
theorem dX6_block_104 : decode cX6_block 104 = .ok (.getfield 103, 3) := by decide +kernel
theorem dX6_block_107 : decode cX6_block 107 = .ok (.iload_n 1, 1) := by decide +kernel
theorem dX6_block_108 : decode cX6_block 108 = .ok (.iaload, 1) := by decide +kernel
theorem dX6_block_109 : decode cX6_block 109 = .ok (.invokestatic 106, 3) := by decide +kernel
theorem dX6_block_112 : decode cX6_block 112 = .ok (.ireturn, 1) := by decide +kernel
theorem dX6_block_113 : decode cX6_block 113 = .ok (.iconst (-1), 1) := by decide +kernel
theorem dX6_block_114 : decode cX6_block 114 = .ok (.ireturn, 1) := by decide +kernel
theorem dX6_order_0 : decode cX6_order 0 = .ok (.aload_n 0, 1) := by decide +kernel
theorem dX6_order_1 : decode cX6_order 1 = .ok (.iload_n 1, 1) := by decide +kernel
theorem dX6_order_2 : decode cX6_order 2 = .ok (.invokevirtual 83, 3) := by decide +kernel
theorem dX6_order_5 : decode cX6_order 5 = .ok (.ifCond .eq 7, 3) := by decide +kernel
theorem dX6_order_8 : decode cX6_order 8 = .ok (.iload_n 2, 1) := by decide +kernel
theorem dX6_order_9 : decode cX6_order 9 = .ok (.ifCond .ge 5, 3) := by decide +kernel
theorem dX6_order_12 : decode cX6_order 12 = .ok (.iconst (-1), 1) := by decide +kernel
theorem dX6_order_13 : decode cX6_order 13 = .ok (.ireturn, 1) := by decide +kernel
theorem dX6_order_14 : decode cX6_order 14 = .ok (.aload_n 0, 1) := by decide +kernel
theorem dX6_order_15 : decode cX6_order 15 = .ok (.getfield 19, 3) := by decide +kernel
theorem dX6_order_18 : decode cX6_order 18 = .ok (.iload_n 1, 1) := by decide +kernel
theorem dX6_order_19 : decode cX6_order 19 = .ok (.iload_n 2, 1) := by decide +kernel
theorem dX6_order_20 : decode cX6_order 20 = .ok (.invokevirtual 110, 3) := by decide +kernel
theorem dX6_order_23 : decode cX6_order 23 = .ok (.invokestatic 106, 3) := by decide +kernel
theorem dX6_order_26 : decode cX6_order 26 = .ok (.ireturn, 1) := by decide +kernel
theorem dX6_bar_0 : decode cX6_bar 0 = .ok (.iload_n 1, 1) := by decide +kernel
theorem dX6_bar_1 : decode cX6_bar 1 = .ok (.invokestatic 114, 3) := by decide +kernel
theorem dX6_bar_4 : decode cX6_bar 4 = .ok (.ifCond .eq 19, 3) := by decide +kernel
theorem dX6_bar_7 : decode cX6_bar 7 = .ok (.iload_n 2, 1) := by decide +kernel
theorem dX6_bar_8 : decode cX6_bar 8 = .ok (.iconst 1, 1) := by decide +kernel
theorem dX6_bar_9 : decode cX6_bar 9 = .ok (.if_icmp .lt 14, 3) := by decide +kernel
theorem dX6_bar_12 : decode cX6_bar 12 = .ok (.iload_n 3, 1) := by decide +kernel
theorem dX6_bar_13 : decode cX6_bar 13 = .ok (.iload_n 2, 1) := by decide +kernel
theorem dX6_bar_14 : decode cX6_bar 14 = .ok (.if_icmp .lt 9, 3) := by decide +kernel
theorem dX6_bar_17 : decode cX6_bar 17 = .ok (.iload_n 3, 1) := by decide +kernel
theorem dX6_bar_18 : decode cX6_bar 18 = .ok (.bipush 12, 2) := by decide +kernel
theorem dX6_bar_20 : decode cX6_bar 20 = .ok (.if_icmp .le 5, 3) := by decide +kernel
theorem dX6_bar_23 : decode cX6_bar 23 = .ok (.iconst (-1), 1) := by decide +kernel
theorem dX6_bar_24 : decode cX6_bar 24 = .ok (.ireturn, 1) := by decide +kernel
theorem dX6_bar_25 : decode cX6_bar 25 = .ok (.bipush 12, 2) := by decide +kernel
theorem dX6_bar_27 : decode cX6_bar 27 = .ok (.aload_n 0, 1) := by decide +kernel
theorem dX6_bar_28 : decode cX6_bar 28 = .ok (.getfield 19, 3) := by decide +kernel
theorem dX6_bar_31 : decode cX6_bar 31 = .ok (.getfield 117, 3) := by decide +kernel
theorem dX6_bar_34 : decode cX6_bar 34 = .ok (.iload_n 1, 1) := by decide +kernel
theorem dX6_bar_35 : decode cX6_bar 35 = .ok (.iaload, 1) := by decide +kernel
theorem dX6_bar_36 : decode cX6_bar 36 = .ok (.imul, 1) := by decide +kernel
theorem dX6_bar_37 : decode cX6_bar 37 = .ok (.aload_n 0, 1) := by decide +kernel
theorem dX6_bar_38 : decode cX6_bar 38 = .ok (.getfield 19, 3) := by decide +kernel
theorem dX6_bar_41 : decode cX6_bar 41 = .ok (.getfield 120, 3) := by decide +kernel
theorem dX6_bar_44 : decode cX6_bar 44 = .ok (.iload_n 1, 1) := by decide +kernel
theorem dX6_bar_45 : decode cX6_bar 45 = .ok (.iaload, 1) := by decide +kernel
theorem dX6_bar_46 : decode cX6_bar 46 = .ok (.iadd, 1) := by decide +kernel
theorem dX6_bar_47 : decode cX6_bar 47 = .ok (.istore 4, 2) := by decide +kernel
theorem dX6_bar_49 : decode cX6_bar 49 = .ok (.aload_n 0, 1) := by decide +kernel
theorem dX6_bar_50 : decode cX6_bar 50 = .ok (.getfield 19, 3) := by decide +kernel
theorem dX6_bar_53 : decode cX6_bar 53 = .ok (.getfield 117, 3) := by decide +kernel
theorem dX6_bar_56 : decode cX6_bar 56 = .ok (.iload_n 1, 1) := by decide +kernel
theorem dX6_bar_57 : decode cX6_bar 57 = .ok (.iload_n 2, 1) := by decide +kernel
theorem dX6_bar_58 : decode cX6_bar 58 = .ok (.iastore, 1) := by decide +kernel
theorem dX6_bar_59 : decode cX6_bar 59 = .ok (.aload_n 0, 1) := by decide +kernel
theorem dX6_bar_60 : decode cX6_bar 60 = .ok (.getfield 19, 3) := by decide +kernel
theorem dX6_bar_63 : decode cX6_bar 63 = .ok (.getfield 120, 3) := by decide +kernel
theorem dX6_bar_66 : decode cX6_bar 66 = .ok (.iload_n 1, 1) := by decide +kernel
theorem dX6_bar_67 : decode cX6_bar 67 = .ok (.iload_n 3, 1) := by decide +kernel
theorem dX6_bar_68 : decode cX6_bar 68 = .ok (.iastore, 1) := by decide +kernel
theorem dX6_bar_69 : decode cX6_bar 69 = .ok (.iload 4, 2) := by decide +kernel
theorem dX6_bar_71 : decode cX6_bar 71 = .ok (.ireturn, 1) := by decide +kernel
theorem dX6_need_0 : decode cX6_need 0 = .ok (.iload_n 1, 1) := by decide +kernel
theorem dX6_need_1 : decode cX6_need 1 = .ok (.invokestatic 114, 3) := by decide +kernel
theorem dX6_need_4 : decode cX6_need 4 = .ok (.ifCond .ne 5, 3) := by decide +kernel
theorem dX6_need_7 : decode cX6_need 7 = .ok (.iconst (-1), 1) := by decide +kernel
theorem dX6_need_8 : decode cX6_need 8 = .ok (.ireturn, 1) := by decide +kernel
theorem dX6_need_9 : decode cX6_need 9 = .ok (.aload_n 0, 1) := by decide +kernel
theorem dX6_need_10 : decode cX6_need 10 = .ok (.invokevirtual 123, 3) := by decide +kernel
theorem dX6_need_13 : decode cX6_need 13 = .ok (.ifCond .eq 8, 3) := by decide +kernel
theorem dX6_need_16 : decode cX6_need 16 = .ok (.bipush (-2), 2) := by decide +kernel
theorem dX6_need_18 : decode cX6_need 18 = .ok (.goto 11, 3) := by decide +kernel
theorem dX6_need_21 : decode cX6_need 21 = .ok (.aload_n 0, 1) := by decide +kernel
theorem dX6_need_22 : decode cX6_need 22 = .ok (.getfield 19, 3) := by decide +kernel
theorem dX6_need_25 : decode cX6_need 25 = .ok (.iload_n 1, 1) := by decide +kernel
theorem dX6_need_26 : decode cX6_need 26 = .ok (.invokevirtual 127, 3) := by decide +kernel
theorem dX6_need_29 : decode cX6_need 29 = .ok (.ireturn, 1) := by decide +kernel
theorem dX6_strike_0 : decode cX6_strike 0 = .ok (.iload_n 1, 1) := by decide +kernel
theorem dX6_strike_1 : decode cX6_strike 1 = .ok (.invokestatic 130, 3) := by decide +kernel
theorem dX6_strike_4 : decode cX6_strike 4 = .ok (.ifCond .eq 13, 3) := by decide +kernel
theorem dX6_strike_7 : decode cX6_strike 7 = .ok (.iload_n 2, 1) := by decide +kernel
theorem dX6_strike_8 : decode cX6_strike 8 = .ok (.ifCond .lt 9, 3) := by decide +kernel
theorem dX6_strike_11 : decode cX6_strike 11 = .ok (.iload_n 2, 1) := by decide +kernel
theorem dX6_strike_12 : decode cX6_strike 12 = .ok (.bipush 32, 2) := by decide +kernel
theorem dX6_strike_14 : decode cX6_strike 14 = .ok (.if_icmp .le 5, 3) := by decide +kernel
theorem dX6_strike_17 : decode cX6_strike 17 = .ok (.iconst (-1), 1) := by decide +kernel
theorem dX6_strike_18 : decode cX6_strike 18 = .ok (.ireturn, 1) := by decide +kernel
theorem dX6_strike_19 : decode cX6_strike 19 = .ok (.aload_n 0, 1) := by decide +kernel
theorem dX6_strike_20 : decode cX6_strike 20 = .ok (.getfield 19, 3) := by decide +kernel
theorem dX6_strike_23 : decode cX6_strike 23 = .ok (.getfield 133, 3) := by decide +kernel
theorem dX6_strike_26 : decode cX6_strike 26 = .ok (.iload_n 1, 1) := by decide +kernel
theorem dX6_strike_27 : decode cX6_strike 27 = .ok (.iaload, 1) := by decide +kernel
theorem dX6_strike_28 : decode cX6_strike 28 = .ok (.istore_n 3, 1) := by decide +kernel
theorem dX6_strike_29 : decode cX6_strike 29 = .ok (.aload_n 0, 1) := by decide +kernel
theorem dX6_strike_30 : decode cX6_strike 30 = .ok (.getfield 19, 3) := by decide +kernel
theorem dX6_strike_33 : decode cX6_strike 33 = .ok (.getfield 133, 3) := by decide +kernel
theorem dX6_strike_36 : decode cX6_strike 36 = .ok (.iload_n 1, 1) := by decide +kernel
theorem dX6_strike_37 : decode cX6_strike 37 = .ok (.iload_n 2, 1) := by decide +kernel
theorem dX6_strike_38 : decode cX6_strike 38 = .ok (.iastore, 1) := by decide +kernel
theorem dX6_strike_39 : decode cX6_strike 39 = .ok (.iload_n 3, 1) := by decide +kernel
theorem dX6_strike_40 : decode cX6_strike 40 = .ok (.ireturn, 1) := by decide +kernel
theorem dX6_lot_0 : decode cX6_lot 0 = .ok (.iload_n 1, 1) := by decide +kernel
theorem dX6_lot_1 : decode cX6_lot 1 = .ok (.ifCond .lt 16, 3) := by decide +kernel
theorem dX6_lot_4 : decode cX6_lot 4 = .ok (.iload_n 1, 1) := by decide +kernel
theorem dX6_lot_5 : decode cX6_lot 5 = .ok (.bipush 16, 2) := by decide +kernel
theorem dX6_lot_7 : decode cX6_lot 7 = .ok (.if_icmp .ge 10, 3) := by decide +kernel
theorem dX6_lot_10 : decode cX6_lot 10 = .ok (.iload_n 2, 1) := by decide +kernel
theorem dX6_lot_11 : decode cX6_lot 11 = .ok (.invokestatic 136, 3) := by decide +kernel
theorem dX6_lot_14 : decode cX6_lot 14 = .ok (.ifCond .ne 5, 3) := by decide +kernel
theorem dX6_lot_17 : decode cX6_lot 17 = .ok (.iconst (-1), 1) := by decide +kernel
theorem dX6_lot_18 : decode cX6_lot 18 = .ok (.ireturn, 1) := by decide +kernel
theorem dX6_lot_19 : decode cX6_lot 19 = .ok (.aload_n 0, 1) := by decide +kernel
theorem dX6_lot_20 : decode cX6_lot 20 = .ok (.getfield 19, 3) := by decide +kernel
theorem dX6_lot_23 : decode cX6_lot 23 = .ok (.getfield 139, 3) := by decide +kernel
theorem dX6_lot_26 : decode cX6_lot 26 = .ok (.iload_n 1, 1) := by decide +kernel
theorem dX6_lot_27 : decode cX6_lot 27 = .ok (.iaload, 1) := by decide +kernel
theorem dX6_lot_28 : decode cX6_lot 28 = .ok (.istore_n 3, 1) := by decide +kernel
theorem dX6_lot_29 : decode cX6_lot 29 = .ok (.aload_n 0, 1) := by decide +kernel
theorem dX6_lot_30 : decode cX6_lot 30 = .ok (.getfield 19, 3) := by decide +kernel
theorem dX6_lot_33 : decode cX6_lot 33 = .ok (.getfield 139, 3) := by decide +kernel
theorem dX6_lot_36 : decode cX6_lot 36 = .ok (.iload_n 1, 1) := by decide +kernel
theorem dX6_lot_37 : decode cX6_lot 37 = .ok (.iload_n 2, 1) := by decide +kernel
theorem dX6_lot_38 : decode cX6_lot 38 = .ok (.iastore, 1) := by decide +kernel
theorem dX6_lot_39 : decode cX6_lot 39 = .ok (.iload_n 3, 1) := by decide +kernel
theorem dX6_lot_40 : decode cX6_lot 40 = .ok (.ireturn, 1) := by decide +kernel
theorem dX6_lots_0 : decode cX6_lots 0 = .ok (.iload 4, 2) := by decide +kernel
theorem dX6_lots_2 : decode cX6_lots 2 = .ok (.iconst 1, 1) := by decide +kernel
theorem dX6_lots_3 : decode cX6_lots 3 = .ok (.if_icmp .lt 10, 3) := by decide +kernel
theorem dX6_lots_6 : decode cX6_lots 6 = .ok (.iload 4, 2) := by decide +kernel
theorem dX6_lots_8 : decode cX6_lots 8 = .ok (.bipush 16, 2) := by decide +kernel
theorem dX6_lots_10 : decode cX6_lots 10 = .ok (.if_icmp .le 5, 3) := by decide +kernel
theorem dX6_lots_13 : decode cX6_lots 13 = .ok (.iconst (-1), 1) := by decide +kernel
theorem dX6_lots_14 : decode cX6_lots 14 = .ok (.ireturn, 1) := by decide +kernel
theorem dX6_lots_15 : decode cX6_lots 15 = .ok (.aload_n 0, 1) := by decide +kernel
theorem dX6_lots_16 : decode cX6_lots 16 = .ok (.getfield 56, 3) := by decide +kernel
theorem dX6_lots_19 : decode cX6_lots 19 = .ok (.iload_n 1, 1) := by decide +kernel
theorem dX6_lots_20 : decode cX6_lots 20 = .ok (.iload_n 2, 1) := by decide +kernel
theorem dX6_lots_21 : decode cX6_lots 21 = .ok (.iload_n 3, 1) := by decide +kernel
theorem dX6_lots_22 : decode cX6_lots 22 = .ok (.iload 4, 2) := by decide +kernel
theorem dX6_lots_24 : decode cX6_lots 24 = .ok (.invokevirtual 142, 3) := by decide +kernel
theorem dX6_lots_27 : decode cX6_lots 27 = .ok (.istore 5, 2) := by decide +kernel
theorem dX6_lots_29 : decode cX6_lots 29 = .ok (.iload 5, 2) := by decide +kernel
theorem dX6_lots_31 : decode cX6_lots 31 = .ok (.ifCond .eq 6, 3) := by decide +kernel
theorem dX6_lots_34 : decode cX6_lots 34 = .ok (.iload 5, 2) := by decide +kernel
theorem dX6_lots_36 : decode cX6_lots 36 = .ok (.ireturn, 1) := by decide +kernel
theorem dX6_lots_37 : decode cX6_lots 37 = .ok (.iconst 0, 1) := by decide +kernel
theorem dX6_lots_38 : decode cX6_lots 38 = .ok (.istore 6, 2) := by decide +kernel
theorem dX6_lots_40 : decode cX6_lots 40 = .ok (.iload 6, 2) := by decide +kernel
theorem dX6_lots_42 : decode cX6_lots 42 = .ok (.iload 4, 2) := by decide +kernel
theorem dX6_lots_44 : decode cX6_lots 44 = .ok (.if_icmp .ge 30, 3) := by decide +kernel
theorem dX6_lots_47 : decode cX6_lots 47 = .ok (.aload_n 0, 1) := by decide +kernel
theorem dX6_lots_48 : decode cX6_lots 48 = .ok (.getfield 56, 3) := by decide +kernel
theorem dX6_lots_51 : decode cX6_lots 51 = .ok (.iload_n 1, 1) := by decide +kernel
theorem dX6_lots_52 : decode cX6_lots 52 = .ok (.iload_n 3, 1) := by decide +kernel
theorem dX6_lots_53 : decode cX6_lots 53 = .ok (.iload 6, 2) := by decide +kernel
theorem dX6_lots_55 : decode cX6_lots 55 = .ok (.iadd, 1) := by decide +kernel
theorem dX6_lots_56 : decode cX6_lots 56 = .ok (.invokevirtual 146, 3) := by decide +kernel
theorem dX6_lots_59 : decode cX6_lots 59 = .ok (.invokestatic 136, 3) := by decide +kernel
theorem dX6_lots_62 : decode cX6_lots 62 = .ok (.ifCond .ne 6, 3) := by decide +kernel
theorem dX6_lots_65 : decode cX6_lots 65 = .ok (.bipush (-2), 2) := by decide +kernel
theorem dX6_lots_67 : decode cX6_lots 67 = .ok (.ireturn, 1) := by decide +kernel
theorem dX6_lots_68 : decode cX6_lots 68 = .ok (.iinc 6 1, 3) := by decide +kernel
theorem dX6_lots_71 : decode cX6_lots 71 = .ok (.goto (-31), 3) := by decide +kernel
theorem dX6_lots_74 : decode cX6_lots 74 = .ok (.iconst 0, 1) := by decide +kernel
theorem dX6_lots_75 : decode cX6_lots 75 = .ok (.istore 6, 2) := by decide +kernel
theorem dX6_lots_77 : decode cX6_lots 77 = .ok (.iload 6, 2) := by decide +kernel
theorem dX6_lots_79 : decode cX6_lots 79 = .ok (.iload 4, 2) := by decide +kernel
theorem dX6_lots_81 : decode cX6_lots 81 = .ok (.if_icmp .ge 31, 3) := by decide +kernel
theorem dX6_lots_84 : decode cX6_lots 84 = .ok (.aload_n 0, 1) := by decide +kernel
theorem dX6_lots_85 : decode cX6_lots 85 = .ok (.getfield 19, 3) := by decide +kernel
theorem dX6_lots_88 : decode cX6_lots 88 = .ok (.getfield 139, 3) := by decide +kernel
theorem dX6_lots_91 : decode cX6_lots 91 = .ok (.iload 6, 2) := by decide +kernel
theorem dX6_lots_93 : decode cX6_lots 93 = .ok (.aload_n 0, 1) := by decide +kernel
theorem dX6_lots_94 : decode cX6_lots 94 = .ok (.getfield 56, 3) := by decide +kernel
theorem dX6_lots_97 : decode cX6_lots 97 = .ok (.iload_n 1, 1) := by decide +kernel
theorem dX6_lots_98 : decode cX6_lots 98 = .ok (.iload_n 3, 1) := by decide +kernel
theorem dX6_lots_99 : decode cX6_lots 99 = .ok (.iload 6, 2) := by decide +kernel
theorem dX6_lots_101 : decode cX6_lots 101 = .ok (.iadd, 1) := by decide +kernel
theorem dX6_lots_102 : decode cX6_lots 102 = .ok (.invokevirtual 146, 3) := by decide +kernel
theorem dX6_lots_105 : decode cX6_lots 105 = .ok (.iastore, 1) := by decide +kernel
theorem dX6_lots_106 : decode cX6_lots 106 = .ok (.iinc 6 1, 3) := by decide +kernel
theorem dX6_lots_109 : decode cX6_lots 109 = .ok (.goto (-32), 3) := by decide +kernel
theorem dX6_lots_112 : decode cX6_lots 112 = .ok (.iload 4, 2) := by decide +kernel
theorem dX6_lots_114 : decode cX6_lots 114 = .ok (.ireturn, 1) := by decide +kernel
theorem dX6_begin_0 : decode cX6_begin 0 = .ok (.aload_n 0, 1) := by decide +kernel
theorem dX6_begin_1 : decode cX6_begin 1 = .ok (.invokevirtual 123, 3) := by decide +kernel
theorem dX6_begin_4 : decode cX6_begin 4 = .ok (.ifCond .eq 6, 3) := by decide +kernel
theorem dX6_begin_7 : decode cX6_begin 7 = .ok (.bipush (-2), 2) := by decide +kernel
theorem dX6_begin_9 : decode cX6_begin 9 = .ok (.ireturn, 1) := by decide +kernel
theorem dX6_begin_10 : decode cX6_begin 10 = .ok (.aload_n 0, 1) := by decide +kernel
theorem dX6_begin_11 : decode cX6_begin 11 = .ok (.getfield 26, 3) := by decide +kernel
theorem dX6_begin_14 : decode cX6_begin 14 = .ok (.getfield 149, 3) := by decide +kernel
theorem dX6_begin_17 : decode cX6_begin 17 = .ok (.istore_n 1, 1) := by decide +kernel
theorem dX6_begin_18 : decode cX6_begin 18 = .ok (.aload_n 0, 1) := by decide +kernel
theorem dX6_begin_19 : decode cX6_begin 19 = .ok (.getfield 26, 3) := by decide +kernel
theorem dX6_begin_22 : decode cX6_begin 22 = .ok (.invokevirtual 80, 3) := by decide +kernel
theorem dX6_begin_25 : decode cX6_begin 25 = .ok (.iload_n 1, 1) := by decide +kernel
theorem dX6_begin_26 : decode cX6_begin 26 = .ok (.ireturn, 1) := by decide +kernel
theorem dX6_ballots_0 : decode cX6_ballots 0 = .ok (.iload_n 1, 1) := by decide +kernel
theorem dX6_ballots_1 : decode cX6_ballots 1 = .ok (.iconst 1, 1) := by decide +kernel
theorem dX6_ballots_2 : decode cX6_ballots 2 = .ok (.if_icmp .lt 9, 3) := by decide +kernel
theorem dX6_ballots_5 : decode cX6_ballots 5 = .ok (.iload_n 1, 1) := by decide +kernel
theorem dX6_ballots_6 : decode cX6_ballots 6 = .ok (.bipush 32, 2) := by decide +kernel
theorem dX6_ballots_8 : decode cX6_ballots 8 = .ok (.if_icmp .le 5, 3) := by decide +kernel
theorem dX6_ballots_11 : decode cX6_ballots 11 = .ok (.iconst (-1), 1) := by decide +kernel
theorem dX6_ballots_12 : decode cX6_ballots 12 = .ok (.ireturn, 1) := by decide +kernel
theorem dX6_ballots_13 : decode cX6_ballots 13 = .ok (.aload_n 0, 1) := by decide +kernel
theorem dX6_ballots_14 : decode cX6_ballots 14 = .ok (.invokevirtual 123, 3) := by decide +kernel
theorem dX6_ballots_17 : decode cX6_ballots 17 = .ok (.ifCond .eq 6, 3) := by decide +kernel
theorem dX6_ballots_20 : decode cX6_ballots 20 = .ok (.bipush (-2), 2) := by decide +kernel
theorem dX6_ballots_22 : decode cX6_ballots 22 = .ok (.ireturn, 1) := by decide +kernel
theorem dX6_ballots_23 : decode cX6_ballots 23 = .ok (.aload_n 0, 1) := by decide +kernel
theorem dX6_ballots_24 : decode cX6_ballots 24 = .ok (.getfield 26, 3) := by decide +kernel
theorem dX6_ballots_27 : decode cX6_ballots 27 = .ok (.aload_n 0, 1) := by decide +kernel
theorem dX6_ballots_28 : decode cX6_ballots 28 = .ok (.getfield 19, 3) := by decide +kernel
theorem dX6_ballots_31 : decode cX6_ballots 31 = .ok (.iload_n 1, 1) := by decide +kernel
theorem dX6_ballots_32 : decode cX6_ballots 32 = .ok (.invokevirtual 152, 3) := by decide +kernel
theorem dX6_ballots_35 : decode cX6_ballots 35 = .ok (.aload_n 0, 1) := by decide +kernel
theorem dX6_ballots_36 : decode cX6_ballots 36 = .ok (.getfield 26, 3) := by decide +kernel
theorem dX6_ballots_39 : decode cX6_ballots 39 = .ok (.getfield 149, 3) := by decide +kernel
theorem dX6_ballots_42 : decode cX6_ballots 42 = .ok (.ireturn, 1) := by decide +kernel
theorem dX6_count_0 : decode cX6_count 0 = .ok (.iload_n 1, 1) := by decide +kernel
theorem dX6_count_1 : decode cX6_count 1 = .ok (.invokestatic 130, 3) := by decide +kernel
theorem dX6_count_4 : decode cX6_count 4 = .ok (.ifCond .eq 15, 3) := by decide +kernel
theorem dX6_count_7 : decode cX6_count 7 = .ok (.aload_n 0, 1) := by decide +kernel
theorem dX6_count_8 : decode cX6_count 8 = .ok (.getfield 26, 3) := by decide +kernel
theorem dX6_count_11 : decode cX6_count 11 = .ok (.getfield 156, 3) := by decide +kernel
theorem dX6_count_14 : decode cX6_count 14 = .ok (.iload_n 1, 1) := by decide +kernel
theorem dX6_count_15 : decode cX6_count 15 = .ok (.iaload, 1) := by decide +kernel
theorem dX6_count_16 : decode cX6_count 16 = .ok (.goto 4, 3) := by decide +kernel
theorem dX6_count_19 : decode cX6_count 19 = .ok (.iconst (-1), 1) := by decide +kernel
theorem dX6_count_20 : decode cX6_count 20 = .ok (.ireturn, 1) := by decide +kernel
theorem dX6_chosen_0 : decode cX6_chosen 0 = .ok (.aload_n 0, 1) := by decide +kernel
theorem dX6_chosen_1 : decode cX6_chosen 1 = .ok (.getfield 26, 3) := by decide +kernel
theorem dX6_chosen_4 : decode cX6_chosen 4 = .ok (.getfield 159, 3) := by decide +kernel
theorem dX6_chosen_7 : decode cX6_chosen 7 = .ok (.invokestatic 106, 3) := by decide +kernel
theorem dX6_chosen_10 : decode cX6_chosen 10 = .ok (.ireturn, 1) := by decide +kernel
theorem dX6_many_0 : decode cX6_many 0 = .ok (.iload_n 1, 1) := by decide +kernel
theorem dX6_many_1 : decode cX6_many 1 = .ok (.tableswitch 85 0 4 #[35, 43, 51, 59, 67], 35) := by decide +kernel
theorem dX6_many_36 : decode cX6_many 36 = .ok (.aload_n 0, 1) := by decide +kernel
theorem dX6_many_37 : decode cX6_many 37 = .ok (.getfield 19, 3) := by decide +kernel
theorem dX6_many_40 : decode cX6_many 40 = .ok (.getfield 162, 3) := by decide +kernel
theorem dX6_many_43 : decode cX6_many 43 = .ok (.ireturn, 1) := by decide +kernel
theorem dX6_many_44 : decode cX6_many 44 = .ok (.aload_n 0, 1) := by decide +kernel
theorem dX6_many_45 : decode cX6_many 45 = .ok (.getfield 19, 3) := by decide +kernel
theorem dX6_many_48 : decode cX6_many 48 = .ok (.invokevirtual 165, 3) := by decide +kernel
theorem dX6_many_51 : decode cX6_many 51 = .ok (.ireturn, 1) := by decide +kernel
theorem dX6_many_52 : decode cX6_many 52 = .ok (.aload_n 0, 1) := by decide +kernel
theorem dX6_many_53 : decode cX6_many 53 = .ok (.getfield 26, 3) := by decide +kernel
theorem dX6_many_56 : decode cX6_many 56 = .ok (.getfield 149, 3) := by decide +kernel
theorem dX6_many_59 : decode cX6_many 59 = .ok (.ireturn, 1) := by decide +kernel
theorem dX6_many_60 : decode cX6_many 60 = .ok (.aload_n 0, 1) := by decide +kernel
theorem dX6_many_61 : decode cX6_many 61 = .ok (.getfield 26, 3) := by decide +kernel
theorem dX6_many_64 : decode cX6_many 64 = .ok (.getfield 169, 3) := by decide +kernel
theorem dX6_many_67 : decode cX6_many 67 = .ok (.ireturn, 1) := by decide +kernel
theorem dX6_many_68 : decode cX6_many 68 = .ok (.aload_n 0, 1) := by decide +kernel
theorem dX6_many_69 : decode cX6_many 69 = .ok (.getfield 19, 3) := by decide +kernel
theorem dX6_many_72 : decode cX6_many 72 = .ok (.aload_n 0, 1) := by decide +kernel
theorem dX6_many_73 : decode cX6_many 73 = .ok (.getfield 26, 3) := by decide +kernel
theorem dX6_many_76 : decode cX6_many 76 = .ok (.invokevirtual 172, 3) := by decide +kernel
theorem dX6_many_79 : decode cX6_many 79 = .ok (.invokevirtual 175, 3) := by decide +kernel
theorem dX6_many_82 : decode cX6_many 82 = .ok (.invokestatic 178, 3) := by decide +kernel
theorem dX6_many_85 : decode cX6_many 85 = .ok (.ireturn, 1) := by decide +kernel
theorem dX6_many_86 : decode cX6_many 86 = .ok (.iconst (-1), 1) := by decide +kernel
theorem dX6_many_87 : decode cX6_many 87 = .ok (.ireturn, 1) := by decide +kernel
theorem dX6_ends_0 : decode cX6_ends 0 = .ok (.iload_n 1, 1) := by decide +kernel
theorem dX6_ends_1 : decode cX6_ends 1 = .ok (.ifCond .lt 8, 3) := by decide +kernel
theorem dX6_ends_4 : decode cX6_ends 4 = .ok (.iload_n 1, 1) := by decide +kernel
theorem dX6_ends_5 : decode cX6_ends 5 = .ok (.iconst 1, 1) := by decide +kernel
theorem dX6_ends_6 : decode cX6_ends 6 = .ok (.if_icmp .le 5, 3) := by decide +kernel
theorem dX6_ends_9 : decode cX6_ends 9 = .ok (.iconst (-1), 1) := by decide +kernel
theorem dX6_ends_10 : decode cX6_ends 10 = .ok (.ireturn, 1) := by decide +kernel
theorem dX6_ends_11 : decode cX6_ends 11 = .ok (.aload_n 0, 1) := by decide +kernel
theorem dX6_ends_12 : decode cX6_ends 12 = .ok (.invokevirtual 123, 3) := by decide +kernel
theorem dX6_ends_15 : decode cX6_ends 15 = .ok (.ifCond .eq 6, 3) := by decide +kernel
theorem dX6_ends_18 : decode cX6_ends 18 = .ok (.bipush (-2), 2) := by decide +kernel
theorem dX6_ends_20 : decode cX6_ends 20 = .ok (.ireturn, 1) := by decide +kernel
theorem dX6_ends_21 : decode cX6_ends 21 = .ok (.aload_n 0, 1) := by decide +kernel
theorem dX6_ends_22 : decode cX6_ends 22 = .ok (.getfield 43, 3) := by decide +kernel
theorem dX6_ends_25 : decode cX6_ends 25 = .ok (.aload_n 0, 1) := by decide +kernel
theorem dX6_ends_26 : decode cX6_ends 26 = .ok (.getfield 19, 3) := by decide +kernel
theorem dX6_ends_29 : decode cX6_ends 29 = .ok (.invokevirtual 183, 3) := by decide +kernel
theorem dX6_ends_32 : decode cX6_ends 32 = .ok (.aload_n 0, 1) := by decide +kernel
theorem dX6_ends_33 : decode cX6_ends 33 = .ok (.getfield 43, 3) := by decide +kernel
theorem dX6_ends_36 : decode cX6_ends 36 = .ok (.getfield 159, 3) := by decide +kernel
theorem dX6_ends_39 : decode cX6_ends 39 = .ok (.iconst (-1), 1) := by decide +kernel
theorem dX6_ends_40 : decode cX6_ends 40 = .ok (.if_icmp .ne 6, 3) := by decide +kernel
theorem dX6_ends_43 : decode cX6_ends 43 = .ok (.bipush (-4), 2) := by decide +kernel
theorem dX6_ends_45 : decode cX6_ends 45 = .ok (.ireturn, 1) := by decide +kernel
theorem dX6_ends_46 : decode cX6_ends 46 = .ok (.iload_n 1, 1) := by decide +kernel
theorem dX6_ends_47 : decode cX6_ends 47 = .ok (.ifCond .ne 13, 3) := by decide +kernel
theorem dX6_ends_50 : decode cX6_ends 50 = .ok (.aload_n 0, 1) := by decide +kernel
theorem dX6_ends_51 : decode cX6_ends 51 = .ok (.getfield 43, 3) := by decide +kernel
theorem dX6_ends_54 : decode cX6_ends 54 = .ok (.getfield 159, 3) := by decide +kernel
theorem dX6_ends_57 : decode cX6_ends 57 = .ok (.goto 10, 3) := by decide +kernel
theorem dX6_ends_60 : decode cX6_ends 60 = .ok (.aload_n 0, 1) := by decide +kernel
theorem dX6_ends_61 : decode cX6_ends 61 = .ok (.getfield 43, 3) := by decide +kernel
theorem dX6_ends_64 : decode cX6_ends 64 = .ok (.invokevirtual 186, 3) := by decide +kernel
theorem dX6_ends_67 : decode cX6_ends 67 = .ok (.ireturn, 1) := by decide +kernel
theorem dX6_ring_0 : decode cX6_ring 0 = .ok (.iload_n 1, 1) := by decide +kernel
theorem dX6_ring_1 : decode cX6_ring 1 = .ok (.ifCond .lt 8, 3) := by decide +kernel
theorem dX6_ring_4 : decode cX6_ring 4 = .ok (.iload_n 1, 1) := by decide +kernel
theorem dX6_ring_5 : decode cX6_ring 5 = .ok (.iconst 1, 1) := by decide +kernel
theorem dX6_ring_6 : decode cX6_ring 6 = .ok (.if_icmp .le 5, 3) := by decide +kernel

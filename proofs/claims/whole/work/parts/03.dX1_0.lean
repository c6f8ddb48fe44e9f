theorem dX1_init_0 : decode cX1_init 0 = .ok (.aload_n 0, 1) := by decide +kernel
theorem dX1_init_1 : decode cX1_init 1 = .ok (.invokespecial 3, 3) := by decide +kernel
theorem dX1_init_4 : decode cX1_init 4 = .ok (.aload_n 0, 1) := by decide +kernel
theorem dX1_init_5 : decode cX1_init 5 = .ok (.lconst 0, 1) := by decide +kernel
theorem dX1_init_6 : decode cX1_init 6 = .ok (.putfield 9, 3) := by decide +kernel
theorem dX1_init_9 : decode cX1_init 9 = .ok (.aload_n 0, 1) := by decide +kernel
theorem dX1_init_10 : decode cX1_init 10 = .ok (.lconst 1, 1) := by decide +kernel
theorem dX1_init_11 : decode cX1_init 11 = .ok (.putfield 15, 3) := by decide +kernel
theorem dX1_init_14 : decode cX1_init 14 = .ok (.aload_n 0, 1) := by decide +kernel
theorem dX1_init_15 : decode cX1_init 15 = .ok (.new 18, 3) := by decide +kernel
theorem dX1_init_18 : decode cX1_init 18 = .ok (.dup, 1) := by decide +kernel
theorem dX1_init_19 : decode cX1_init 19 = .ok (.invokespecial 20, 3) := by decide +kernel
theorem dX1_init_22 : decode cX1_init 22 = .ok (.putfield 21, 3) := by decide +kernel
theorem dX1_init_25 : decode cX1_init 25 = .ok (.aload_n 0, 1) := by decide +kernel
theorem dX1_init_26 : decode cX1_init 26 = .ok (.new 18, 3) := by decide +kernel
theorem dX1_init_29 : decode cX1_init 29 = .ok (.dup, 1) := by decide +kernel
theorem dX1_init_30 : decode cX1_init 30 = .ok (.invokespecial 20, 3) := by decide +kernel
theorem dX1_init_33 : decode cX1_init 33 = .ok (.putfield 25, 3) := by decide +kernel
theorem dX1_init_36 : decode cX1_init 36 = .ok (.aload_n 0, 1) := by decide +kernel
theorem dX1_init_37 : decode cX1_init 37 = .ok (.new 28, 3) := by decide +kernel
theorem dX1_init_40 : decode cX1_init 40 = .ok (.dup, 1) := by decide +kernel
theorem dX1_init_41 : decode cX1_init 41 = .ok (.invokespecial 30, 3) := by decide +kernel
theorem dX1_init_44 : decode cX1_init 44 = .ok (.putfield 31, 3) := by decide +kernel
theorem dX1_init_47 : decode cX1_init 47 = .ok (.return_, 1) := by decide +kernel
theorem dX1_reckon_0 : decode cX1_reckon 0 = .ok (.aload_n 0, 1) := by decide +kernel
theorem dX1_reckon_1 : decode cX1_reckon 1 = .ok (.aload_n 2, 1) := by decide +kernel
theorem dX1_reckon_2 : decode cX1_reckon 2 = .ok (.getfield 35, 3) := by decide +kernel
theorem dX1_reckon_5 : decode cX1_reckon 5 = .ok (.iload_n 3, 1) := by decide +kernel
theorem dX1_reckon_6 : decode cX1_reckon 6 = .ok (.if_icmp .ne 7, 3) := by decide +kernel
theorem dX1_reckon_9 : decode cX1_reckon 9 = .ok (.lconst 1, 1) := by decide +kernel
theorem dX1_reckon_10 : decode cX1_reckon 10 = .ok (.goto 4, 3) := by decide +kernel
theorem dX1_reckon_13 : decode cX1_reckon 13 = .ok (.lconst 0, 1) := by decide +kernel
theorem dX1_reckon_14 : decode cX1_reckon 14 = .ok (.putfield 9, 3) := by decide +kernel
theorem dX1_reckon_17 : decode cX1_reckon 17 = .ok (.aload_n 0, 1) := by decide +kernel
theorem dX1_reckon_18 : decode cX1_reckon 18 = .ok (.lconst 1, 1) := by decide +kernel
theorem dX1_reckon_19 : decode cX1_reckon 19 = .ok (.putfield 15, 3) := by decide +kernel
theorem dX1_reckon_22 : decode cX1_reckon 22 = .ok (.aload_n 0, 1) := by decide +kernel
theorem dX1_reckon_23 : decode cX1_reckon 23 = .ok (.getfield 21, 3) := by decide +kernel
theorem dX1_reckon_26 : decode cX1_reckon 26 = .ok (.invokevirtual 39, 3) := by decide +kernel
theorem dX1_reckon_29 : decode cX1_reckon 29 = .ok (.aload_n 2, 1) := by decide +kernel
theorem dX1_reckon_30 : decode cX1_reckon 30 = .ok (.getfield 35, 3) := by decide +kernel
theorem dX1_reckon_33 : decode cX1_reckon 33 = .ok (.iconst (-1), 1) := by decide +kernel
theorem dX1_reckon_34 : decode cX1_reckon 34 = .ok (.if_icmp .ne 15, 3) := by decide +kernel
theorem dX1_reckon_37 : decode cX1_reckon 37 = .ok (.aload_n 0, 1) := by decide +kernel
theorem dX1_reckon_38 : decode cX1_reckon 38 = .ok (.getfield 21, 3) := by decide +kernel
theorem dX1_reckon_41 : decode cX1_reckon 41 = .ok (.aload_n 2, 1) := by decide +kernel
theorem dX1_reckon_42 : decode cX1_reckon 42 = .ok (.invokevirtual 42, 3) := by decide +kernel
theorem dX1_reckon_45 : decode cX1_reckon 45 = .ok (.lconst 1, 1) := by decide +kernel
theorem dX1_reckon_46 : decode cX1_reckon 46 = .ok (.invokevirtual 46, 3) := by decide +kernel
theorem dX1_reckon_49 : decode cX1_reckon 49 = .ok (.iconst 0, 1) := by decide +kernel
theorem dX1_reckon_50 : decode cX1_reckon 50 = .ok (.istore 5, 2) := by decide +kernel
theorem dX1_reckon_52 : decode cX1_reckon 52 = .ok (.iload 5, 2) := by decide +kernel
theorem dX1_reckon_54 : decode cX1_reckon 54 = .ok (.iload 4, 2) := by decide +kernel
theorem dX1_reckon_56 : decode cX1_reckon 56 = .ok (.if_icmp .ge 44, 3) := by decide +kernel
theorem dX1_reckon_59 : decode cX1_reckon 59 = .ok (.aload_n 2, 1) := by decide +kernel
theorem dX1_reckon_60 : decode cX1_reckon 60 = .ok (.getfield 50, 3) := by decide +kernel
theorem dX1_reckon_63 : decode cX1_reckon 63 = .ok (.iload 5, 2) := by decide +kernel
theorem dX1_reckon_65 : decode cX1_reckon 65 = .ok (.iadd, 1) := by decide +kernel
theorem dX1_reckon_66 : decode cX1_reckon 66 = .ok (.bipush 32, 2) := by decide +kernel
theorem dX1_reckon_68 : decode cX1_reckon 68 = .ok (.if_icmp .ge 32, 3) := by decide +kernel
theorem dX1_reckon_71 : decode cX1_reckon 71 = .ok (.aload_n 0, 1) := by decide +kernel
theorem dX1_reckon_72 : decode cX1_reckon 72 = .ok (.getfield 21, 3) := by decide +kernel
theorem dX1_reckon_75 : decode cX1_reckon 75 = .ok (.getfield 53, 3) := by decide +kernel
theorem dX1_reckon_78 : decode cX1_reckon 78 = .ok (.ifCond .le 22, 3) := by decide +kernel
theorem dX1_reckon_81 : decode cX1_reckon 81 = .ok (.aload_n 0, 1) := by decide +kernel
theorem dX1_reckon_82 : decode cX1_reckon 82 = .ok (.aload_n 1, 1) := by decide +kernel
theorem dX1_reckon_83 : decode cX1_reckon 83 = .ok (.aload_n 2, 1) := by decide +kernel
theorem dX1_reckon_84 : decode cX1_reckon 84 = .ok (.getfield 50, 3) := by decide +kernel
theorem dX1_reckon_87 : decode cX1_reckon 87 = .ok (.iload 5, 2) := by decide +kernel
theorem dX1_reckon_89 : decode cX1_reckon 89 = .ok (.iadd, 1) := by decide +kernel
theorem dX1_reckon_90 : decode cX1_reckon 90 = .ok (.iload_n 3, 1) := by decide +kernel
theorem dX1_reckon_91 : decode cX1_reckon 91 = .ok (.invokevirtual 56, 3) := by decide +kernel
theorem dX1_reckon_94 : decode cX1_reckon 94 = .ok (.iinc 5 1, 3) := by decide +kernel
theorem dX1_reckon_97 : decode cX1_reckon 97 = .ok (.goto (-45), 3) := by decide +kernel
theorem dX1_reckon_100 : decode cX1_reckon 100 = .ok (.aload_n 0, 1) := by decide +kernel
theorem dX1_reckon_101 : decode cX1_reckon 101 = .ok (.invokevirtual 60, 3) := by decide +kernel
theorem dX1_reckon_104 : decode cX1_reckon 104 = .ok (.return_, 1) := by decide +kernel
theorem dX1_goOn_0 : decode cX1_goOn 0 = .ok (.iload_n 2, 1) := by decide +kernel
theorem dX1_goOn_1 : decode cX1_goOn 1 = .ok (.ifCond .ne 7, 3) := by decide +kernel
theorem dX1_goOn_4 : decode cX1_goOn 4 = .ok (.iconst (-1), 1) := by decide +kernel
theorem dX1_goOn_5 : decode cX1_goOn 5 = .ok (.goto 8, 3) := by decide +kernel
theorem dX1_goOn_8 : decode cX1_goOn 8 = .ok (.aload_n 1, 1) := by decide +kernel
theorem dX1_goOn_9 : decode cX1_goOn 9 = .ok (.iconst 0, 1) := by decide +kernel
theorem dX1_goOn_10 : decode cX1_goOn 10 = .ok (.invokevirtual 63, 3) := by decide +kernel
theorem dX1_goOn_13 : decode cX1_goOn 13 = .ok (.istore 4, 2) := by decide +kernel
theorem dX1_goOn_15 : decode cX1_goOn 15 = .ok (.iload_n 2, 1) := by decide +kernel
theorem dX1_goOn_16 : decode cX1_goOn 16 = .ok (.ifCond .ne 7, 3) := by decide +kernel
theorem dX1_goOn_19 : decode cX1_goOn 19 = .ok (.iconst (-1), 1) := by decide +kernel
theorem dX1_goOn_20 : decode cX1_goOn 20 = .ok (.goto 8, 3) := by decide +kernel
theorem dX1_goOn_23 : decode cX1_goOn 23 = .ok (.aload_n 1, 1) := by decide +kernel
theorem dX1_goOn_24 : decode cX1_goOn 24 = .ok (.iconst 1, 1) := by decide +kernel
theorem dX1_goOn_25 : decode cX1_goOn 25 = .ok (.invokevirtual 63, 3) := by decide +kernel
theorem dX1_goOn_28 : decode cX1_goOn 28 = .ok (.istore 5, 2) := by decide +kernel
theorem dX1_goOn_30 : decode cX1_goOn 30 = .ok (.iload 4, 2) := by decide +kernel
theorem dX1_goOn_32 : decode cX1_goOn 32 = .ok (.iconst (-1), 1) := by decide +kernel
theorem dX1_goOn_33 : decode cX1_goOn 33 = .ok (.if_icmp .ne 7, 3) := by decide +kernel
theorem dX1_goOn_36 : decode cX1_goOn 36 = .ok (.lconst 1, 1) := by decide +kernel
theorem dX1_goOn_37 : decode cX1_goOn 37 = .ok (.goto 6, 3) := by decide +kernel
theorem dX1_goOn_40 : decode cX1_goOn 40 = .ok (.ldc2_w 69, 3) := by decide +kernel
theorem dX1_goOn_43 : decode cX1_goOn 43 = .ok (.iload 5, 2) := by decide +kernel
theorem dX1_goOn_45 : decode cX1_goOn 45 = .ok (.iconst (-1), 1) := by decide +kernel
theorem dX1_goOn_46 : decode cX1_goOn 46 = .ok (.if_icmp .ne 7, 3) := by decide +kernel
theorem dX1_goOn_49 : decode cX1_goOn 49 = .ok (.lconst 1, 1) := by decide +kernel
theorem dX1_goOn_50 : decode cX1_goOn 50 = .ok (.goto 6, 3) := by decide +kernel
theorem dX1_goOn_53 : decode cX1_goOn 53 = .ok (.ldc2_w 69, 3) := by decide +kernel
theorem dX1_goOn_56 : decode cX1_goOn 56 = .ok (.lmul, 1) := by decide +kernel
theorem dX1_goOn_57 : decode cX1_goOn 57 = .ok (.lstore 6, 2) := by decide +kernel
theorem dX1_goOn_59 : decode cX1_goOn 59 = .ok (.aload_n 0, 1) := by decide +kernel
theorem dX1_goOn_60 : decode cX1_goOn 60 = .ok (.dup, 1) := by decide +kernel
theorem dX1_goOn_61 : decode cX1_goOn 61 = .ok (.getfield 9, 3) := by decide +kernel
theorem dX1_goOn_64 : decode cX1_goOn 64 = .ok (.lload 6, 2) := by decide +kernel
theorem dX1_goOn_66 : decode cX1_goOn 66 = .ok (.lmul, 1) := by decide +kernel
theorem dX1_goOn_67 : decode cX1_goOn 67 = .ok (.putfield 9, 3) := by decide +kernel
theorem dX1_goOn_70 : decode cX1_goOn 70 = .ok (.aload_n 0, 1) := by decide +kernel
theorem dX1_goOn_71 : decode cX1_goOn 71 = .ok (.dup, 1) := by decide +kernel
theorem dX1_goOn_72 : decode cX1_goOn 72 = .ok (.getfield 15, 3) := by decide +kernel
theorem dX1_goOn_75 : decode cX1_goOn 75 = .ok (.lload 6, 2) := by decide +kernel
theorem dX1_goOn_77 : decode cX1_goOn 77 = .ok (.lmul, 1) := by decide +kernel
theorem dX1_goOn_78 : decode cX1_goOn 78 = .ok (.putfield 15, 3) := by decide +kernel
theorem dX1_goOn_81 : decode cX1_goOn 81 = .ok (.aload_n 0, 1) := by decide +kernel
theorem dX1_goOn_82 : decode cX1_goOn 82 = .ok (.getfield 25, 3) := by decide +kernel
theorem dX1_goOn_85 : decode cX1_goOn 85 = .ok (.invokevirtual 39, 3) := by decide +kernel
theorem dX1_goOn_88 : decode cX1_goOn 88 = .ok (.iconst 0, 1) := by decide +kernel
theorem dX1_goOn_89 : decode cX1_goOn 89 = .ok (.istore 8, 2) := by decide +kernel
theorem dX1_goOn_91 : decode cX1_goOn 91 = .ok (.iload 8, 2) := by decide +kernel
theorem dX1_goOn_93 : decode cX1_goOn 93 = .ok (.iconst 2, 1) := by decide +kernel
theorem dX1_goOn_94 : decode cX1_goOn 94 = .ok (.if_icmp .ge 74, 3) := by decide +kernel
theorem dX1_goOn_97 : decode cX1_goOn 97 = .ok (.iconst 0, 1) := by decide +kernel
theorem dX1_goOn_98 : decode cX1_goOn 98 = .ok (.istore 9, 2) := by decide +kernel
theorem dX1_goOn_100 : decode cX1_goOn 100 = .ok (.iload 9, 2) := by decide +kernel
theorem dX1_goOn_102 : decode cX1_goOn 102 = .ok (.iconst 2, 1) := by decide +kernel
theorem dX1_goOn_103 : decode cX1_goOn 103 = .ok (.if_icmp .ge 59, 3) := by decide +kernel
theorem dX1_goOn_106 : decode cX1_goOn 106 = .ok (.aload_n 1, 1) := by decide +kernel
theorem dX1_goOn_107 : decode cX1_goOn 107 = .ok (.iload 4, 2) := by decide +kernel
theorem dX1_goOn_109 : decode cX1_goOn 109 = .ok (.iload 8, 2) := by decide +kernel
theorem dX1_goOn_111 : decode cX1_goOn 111 = .ok (.invokestatic 71, 3) := by decide +kernel
theorem dX1_goOn_114 : decode cX1_goOn 114 = .ok (.aload_n 1, 1) := by decide +kernel
theorem dX1_goOn_115 : decode cX1_goOn 115 = .ok (.iload 5, 2) := by decide +kernel
theorem dX1_goOn_117 : decode cX1_goOn 117 = .ok (.iload 9, 2) := by decide +kernel
theorem dX1_goOn_119 : decode cX1_goOn 119 = .ok (.invokestatic 71, 3) := by decide +kernel
theorem dX1_goOn_122 : decode cX1_goOn 122 = .ok (.lmul, 1) := by decide +kernel
theorem dX1_goOn_123 : decode cX1_goOn 123 = .ok (.lstore 10, 2) := by decide +kernel
theorem dX1_goOn_125 : decode cX1_goOn 125 = .ok (.lload 10, 2) := by decide +kernel
theorem dX1_goOn_127 : decode cX1_goOn 127 = .ok (.lconst 0, 1) := by decide +kernel
theorem dX1_goOn_128 : decode cX1_goOn 128 = .ok (.lcmp, 1) := by decide +kernel
theorem dX1_goOn_129 : decode cX1_goOn 129 = .ok (.ifCond .le 27, 3) := by decide +kernel
theorem dX1_goOn_132 : decode cX1_goOn 132 = .ok (.aload_n 0, 1) := by decide +kernel
theorem dX1_goOn_133 : decode cX1_goOn 133 = .ok (.aload_n 1, 1) := by decide +kernel
theorem dX1_goOn_134 : decode cX1_goOn 134 = .ok (.iload_n 2, 1) := by decide +kernel
theorem dX1_goOn_135 : decode cX1_goOn 135 = .ok (.iload_n 3, 1) := by decide +kernel
theorem dX1_goOn_136 : decode cX1_goOn 136 = .ok (.iload 4, 2) := by decide +kernel
theorem dX1_goOn_138 : decode cX1_goOn 138 = .ok (.iload 8, 2) := by decide +kernel
theorem dX1_goOn_140 : decode cX1_goOn 140 = .ok (.invokestatic 75, 3) := by decide +kernel
theorem dX1_goOn_143 : decode cX1_goOn 143 = .ok (.iload 5, 2) := by decide +kernel
theorem dX1_goOn_145 : decode cX1_goOn 145 = .ok (.iload 9, 2) := by decide +kernel
theorem dX1_goOn_147 : decode cX1_goOn 147 = .ok (.invokestatic 75, 3) := by decide +kernel
theorem dX1_goOn_150 : decode cX1_goOn 150 = .ok (.ior, 1) := by decide +kernel
theorem dX1_goOn_151 : decode cX1_goOn 151 = .ok (.lload 10, 2) := by decide +kernel
theorem dX1_goOn_153 : decode cX1_goOn 153 = .ok (.invokevirtual 79, 3) := by decide +kernel
theorem dX1_goOn_156 : decode cX1_goOn 156 = .ok (.iinc 9 1, 3) := by decide +kernel
theorem dX1_goOn_159 : decode cX1_goOn 159 = .ok (.goto (-59), 3) := by decide +kernel
theorem dX1_goOn_162 : decode cX1_goOn 162 = .ok (.iinc 8 1, 3) := by decide +kernel
theorem dX1_goOn_165 : decode cX1_goOn 165 = .ok (.goto (-74), 3) := by decide +kernel
theorem dX1_goOn_168 : decode cX1_goOn 168 = .ok (.aload_n 0, 1) := by decide +kernel
theorem dX1_goOn_169 : decode cX1_goOn 169 = .ok (.getfield 21, 3) := by decide +kernel
theorem dX1_goOn_172 : decode cX1_goOn 172 = .ok (.astore 8, 2) := by decide +kernel
theorem dX1_goOn_174 : decode cX1_goOn 174 = .ok (.aload_n 0, 1) := by decide +kernel
theorem dX1_goOn_175 : decode cX1_goOn 175 = .ok (.aload_n 0, 1) := by decide +kernel
theorem dX1_goOn_176 : decode cX1_goOn 176 = .ok (.getfield 25, 3) := by decide +kernel
theorem dX1_goOn_179 : decode cX1_goOn 179 = .ok (.putfield 21, 3) := by decide +kernel
theorem dX1_goOn_182 : decode cX1_goOn 182 = .ok (.aload_n 0, 1) := by decide +kernel
theorem dX1_goOn_183 : decode cX1_goOn 183 = .ok (.aload 8, 2) := by decide +kernel
theorem dX1_goOn_185 : decode cX1_goOn 185 = .ok (.putfield 25, 3) := by decide +kernel
theorem dX1_goOn_188 : decode cX1_goOn 188 = .ok (.return_, 1) := by decide +kernel
theorem dX1_share_0 : decode cX1_share 0 = .ok (.iload_n 1, 1) := by decide +kernel
theorem dX1_share_1 : decode cX1_share 1 = .ok (.iconst (-1), 1) := by decide +kernel
theorem dX1_share_2 : decode cX1_share 2 = .ok (.if_icmp .ne 8, 3) := by decide +kernel
theorem dX1_share_5 : decode cX1_share 5 = .ok (.iconst 1, 1) := by decide +kernel
theorem dX1_share_6 : decode cX1_share 6 = .ok (.iload_n 2, 1) := by decide +kernel
theorem dX1_share_7 : decode cX1_share 7 = .ok (.isub, 1) := by decide +kernel
theorem dX1_share_8 : decode cX1_share 8 = .ok (.i2l, 1) := by decide +kernel
theorem dX1_share_9 : decode cX1_share 9 = .ok (.lreturn, 1) := by decide +kernel
theorem dX1_share_10 : decode cX1_share 10 = .ok (.iload_n 2, 1) := by decide +kernel
theorem dX1_share_11 : decode cX1_share 11 = .ok (.iconst 1, 1) := by decide +kernel
theorem dX1_share_12 : decode cX1_share 12 = .ok (.if_icmp .ne 13, 3) := by decide +kernel
theorem dX1_share_15 : decode cX1_share 15 = .ok (.aload_n 0, 1) := by decide +kernel
theorem dX1_share_16 : decode cX1_share 16 = .ok (.getfield 83, 3) := by decide +kernel
theorem dX1_share_19 : decode cX1_share 19 = .ok (.iload_n 1, 1) := by decide +kernel
theorem dX1_share_20 : decode cX1_share 20 = .ok (.iaload, 1) := by decide +kernel
theorem dX1_share_21 : decode cX1_share 21 = .ok (.i2l, 1) := by decide +kernel
theorem dX1_share_22 : decode cX1_share 22 = .ok (.goto 12, 3) := by decide +kernel
theorem dX1_share_25 : decode cX1_share 25 = .ok (.iconst 4, 1) := by decide +kernel
theorem dX1_share_26 : decode cX1_share 26 = .ok (.aload_n 0, 1) := by decide +kernel
theorem dX1_share_27 : decode cX1_share 27 = .ok (.getfield 83, 3) := by decide +kernel
theorem dX1_share_30 : decode cX1_share 30 = .ok (.iload_n 1, 1) := by decide +kernel
theorem dX1_share_31 : decode cX1_share 31 = .ok (.iaload, 1) := by decide +kernel
theorem dX1_share_32 : decode cX1_share 32 = .ok (.isub, 1) := by decide +kernel
theorem dX1_share_33 : decode cX1_share 33 = .ok (.i2l, 1) := by decide +kernel
theorem dX1_share_34 : decode cX1_share 34 = .ok (.lreturn, 1) := by decide +kernel
theorem dX1_luckOf_0 : decode cX1_luckOf 0 = .ok (.iload_n 0, 1) := by decide +kernel
theorem dX1_luckOf_1 : decode cX1_luckOf 1 = .ok (.iconst (-1), 1) := by decide +kernel
theorem dX1_luckOf_2 : decode cX1_luckOf 2 = .ok (.if_icmp .ne 7, 3) := by decide +kernel
theorem dX1_luckOf_5 : decode cX1_luckOf 5 = .ok (.iconst 0, 1) := by decide +kernel
theorem dX1_luckOf_6 : decode cX1_luckOf 6 = .ok (.goto 6, 3) := by decide +kernel
theorem dX1_luckOf_9 : decode cX1_luckOf 9 = .ok (.iload_n 1, 1) := by decide +kernel
theorem dX1_luckOf_10 : decode cX1_luckOf 10 = .ok (.iload_n 0, 1) := by decide +kernel
theorem dX1_luckOf_11 : decode cX1_luckOf 11 = .ok (.ishl, 1) := by decide +kernel
theorem dX1_luckOf_12 : decode cX1_luckOf 12 = .ok (.ireturn, 1) := by decide +kernel
theorem dX1_spread_0 : decode cX1_spread 0 = .ok (.iconst 0, 1) := by decide +kernel
theorem dX1_spread_1 : decode cX1_spread 1 = .ok (.istore 7, 2) := by decide +kernel
theorem dX1_spread_3 : decode cX1_spread 3 = .ok (.iload 7, 2) := by decide +kernel
theorem dX1_spread_5 : decode cX1_spread 5 = .ok (.aload_n 0, 1) := by decide +kernel
theorem dX1_spread_6 : decode cX1_spread 6 = .ok (.getfield 21, 3) := by decide +kernel
theorem dX1_spread_9 : decode cX1_spread 9 = .ok (.getfield 53, 3) := by decide +kernel
theorem dX1_spread_12 : decode cX1_spread 12 = .ok (.if_icmp .ge 106, 3) := by decide +kernel
theorem dX1_spread_15 : decode cX1_spread 15 = .ok (.aload_n 0, 1) := by decide +kernel
theorem dX1_spread_16 : decode cX1_spread 16 = .ok (.getfield 31, 3) := by decide +kernel
theorem dX1_spread_19 : decode cX1_spread 19 = .ok (.aload_n 1, 1) := by decide +kernel
theorem dX1_spread_20 : decode cX1_spread 20 = .ok (.aload_n 0, 1) := by decide +kernel
theorem dX1_spread_21 : decode cX1_spread 21 = .ok (.getfield 21, 3) := by decide +kernel
theorem dX1_spread_24 : decode cX1_spread 24 = .ok (.getfield 87, 3) := by decide +kernel
theorem dX1_spread_27 : decode cX1_spread 27 = .ok (.iload 7, 2) := by decide +kernel
theorem dX1_spread_29 : decode cX1_spread 29 = .ok (.iaload, 1) := by decide +kernel
theorem dX1_spread_30 : decode cX1_spread 30 = .ok (.invokevirtual 90, 3) := by decide +kernel
theorem dX1_spread_33 : decode cX1_spread 33 = .ok (.aload_n 0, 1) := by decide +kernel
theorem dX1_spread_34 : decode cX1_spread 34 = .ok (.getfield 31, 3) := by decide +kernel
theorem dX1_spread_37 : decode cX1_spread 37 = .ok (.aload_n 1, 1) := by decide +kernel
theorem dX1_spread_38 : decode cX1_spread 38 = .ok (.iload_n 2, 1) := by decide +kernel
theorem dX1_spread_39 : decode cX1_spread 39 = .ok (.iload 4, 2) := by decide +kernel
theorem dX1_spread_41 : decode cX1_spread 41 = .ok (.invokevirtual 94, 3) := by decide +kernel
theorem dX1_spread_44 : decode cX1_spread 44 = .ok (.aload_n 0, 1) := by decide +kernel
theorem dX1_spread_45 : decode cX1_spread 45 = .ok (.getfield 21, 3) := by decide +kernel
theorem dX1_spread_48 : decode cX1_spread 48 = .ok (.getfield 97, 3) := by decide +kernel
theorem dX1_spread_51 : decode cX1_spread 51 = .ok (.iload 7, 2) := by decide +kernel
theorem dX1_spread_53 : decode cX1_spread 53 = .ok (.laload, 1) := by decide +kernel
theorem dX1_spread_54 : decode cX1_spread 54 = .ok (.lload 5, 2) := by decide +kernel
theorem dX1_spread_56 : decode cX1_spread 56 = .ok (.lmul, 1) := by decide +kernel
theorem dX1_spread_57 : decode cX1_spread 57 = .ok (.lstore 8, 2) := by decide +kernel
theorem dX1_spread_59 : decode cX1_spread 59 = .ok (.aload_n 0, 1) := by decide +kernel
theorem dX1_spread_60 : decode cX1_spread 60 = .ok (.getfield 31, 3) := by decide +kernel
theorem dX1_spread_63 : decode cX1_spread 63 = .ok (.aload_n 1, 1) := by decide +kernel
theorem dX1_spread_64 : decode cX1_spread 64 = .ok (.iload_n 2, 1) := by decide +kernel
theorem dX1_spread_65 : decode cX1_spread 65 = .ok (.invokevirtual 101, 3) := by decide +kernel
theorem dX1_spread_68 : decode cX1_spread 68 = .ok (.istore 10, 2) := by decide +kernel
theorem dX1_spread_70 : decode cX1_spread 70 = .ok (.iload 10, 2) := by decide +kernel
theorem dX1_spread_72 : decode cX1_spread 72 = .ok (.iconst (-1), 1) := by decide +kernel
theorem dX1_spread_73 : decode cX1_spread 73 = .ok (.if_icmp .ne 22, 3) := by decide +kernel
theorem dX1_spread_76 : decode cX1_spread 76 = .ok (.aload_n 0, 1) := by decide +kernel
theorem dX1_spread_77 : decode cX1_spread 77 = .ok (.getfield 25, 3) := by decide +kernel
theorem dX1_spread_80 : decode cX1_spread 80 = .ok (.aload_n 0, 1) := by decide +kernel
theorem dX1_spread_81 : decode cX1_spread 81 = .ok (.getfield 31, 3) := by decide +kernel
theorem dX1_spread_84 : decode cX1_spread 84 = .ok (.invokevirtual 42, 3) := by decide +kernel
theorem dX1_spread_87 : decode cX1_spread 87 = .ok (.lload 8, 2) := by decide +kernel
theorem dX1_spread_89 : decode cX1_spread 89 = .ok (.invokevirtual 46, 3) := by decide +kernel
theorem dX1_spread_92 : decode cX1_spread 92 = .ok (.goto 20, 3) := by decide +kernel
theorem dX1_spread_95 : decode cX1_spread 95 = .ok (.iload 10, 2) := by decide +kernel
theorem dX1_spread_97 : decode cX1_spread 97 = .ok (.iload_n 3, 1) := by decide +kernel
theorem dX1_spread_98 : decode cX1_spread 98 = .ok (.if_icmp .ne 14, 3) := by decide +kernel
theorem dX1_spread_101 : decode cX1_spread 101 = .ok (.aload_n 0, 1) := by decide +kernel
theorem dX1_spread_102 : decode cX1_spread 102 = .ok (.dup, 1) := by decide +kernel
theorem dX1_spread_103 : decode cX1_spread 103 = .ok (.getfield 9, 3) := by decide +kernel
theorem dX1_spread_106 : decode cX1_spread 106 = .ok (.lload 8, 2) := by decide +kernel
theorem dX1_spread_108 : decode cX1_spread 108 = .ok (.ladd, 1) := by decide +kernel
theorem dX1_spread_109 : decode cX1_spread 109 = .ok (.putfield 9, 3) := by decide +kernel
theorem dX1_spread_112 : decode cX1_spread 112 = .ok (.iinc 7 1, 3) := by decide +kernel
theorem dX1_spread_115 : decode cX1_spread 115 = .ok (.goto (-112), 3) := by decide +kernel
theorem dX1_spread_118 : decode cX1_spread 118 = .ok (.return_, 1) := by decide +kernel
theorem dX1_lower_0 : decode cX1_lower 0 = .ok (.iconst 0, 1) := by decide +kernel
theorem dX1_lower_1 : decode cX1_lower 1 = .ok (.istore_n 1, 1) := by decide +kernel
theorem dX1_lower_2 : decode cX1_lower 2 = .ok (.iload_n 1, 1) := by decide +kernel
theorem dX1_lower_3 : decode cX1_lower 3 = .ok (.bipush 64, 2) := by decide +kernel
theorem dX1_lower_5 : decode cX1_lower 5 = .ok (.if_icmp .ge 55, 3) := by decide +kernel
theorem dX1_lower_8 : decode cX1_lower 8 = .ok (.aload_n 0, 1) := by decide +kernel
theorem dX1_lower_9 : decode cX1_lower 9 = .ok (.getfield 9, 3) := by decide +kernel
theorem dX1_lower_12 : decode cX1_lower 12 = .ok (.lconst 1, 1) := by decide +kernel
theorem dX1_lower_13 : decode cX1_lower 13 = .ok (.land, 1) := by decide +kernel
theorem dX1_lower_14 : decode cX1_lower 14 = .ok (.lconst 0, 1) := by decide +kernel
theorem dX1_lower_15 : decode cX1_lower 15 = .ok (.lcmp, 1) := by decide +kernel
theorem dX1_lower_16 : decode cX1_lower 16 = .ok (.ifCond .ne 44, 3) := by decide +kernel
theorem dX1_lower_19 : decode cX1_lower 19 = .ok (.aload_n 0, 1) := by decide +kernel
theorem dX1_lower_20 : decode cX1_lower 20 = .ok (.getfield 15, 3) := by decide +kernel
theorem dX1_lower_23 : decode cX1_lower 23 = .ok (.lconst 1, 1) := by decide +kernel
theorem dX1_lower_24 : decode cX1_lower 24 = .ok (.land, 1) := by decide +kernel
theorem dX1_lower_25 : decode cX1_lower 25 = .ok (.lconst 0, 1) := by decide +kernel
theorem dX1_lower_26 : decode cX1_lower 26 = .ok (.lcmp, 1) := by decide +kernel
theorem dX1_lower_27 : decode cX1_lower 27 = .ok (.ifCond .ne 33, 3) := by decide +kernel
theorem dX1_lower_30 : decode cX1_lower 30 = .ok (.aload_n 0, 1) := by decide +kernel
theorem dX1_lower_31 : decode cX1_lower 31 = .ok (.dup, 1) := by decide +kernel
theorem dX1_lower_32 : decode cX1_lower 32 = .ok (.getfield 9, 3) := by decide +kernel
theorem dX1_lower_35 : decode cX1_lower 35 = .ok (.ldc2_w 105, 3) := by decide +kernel
theorem dX1_lower_38 : decode cX1_lower 38 = .ok (.ldiv, 1) := by decide +kernel
theorem dX1_lower_39 : decode cX1_lower 39 = .ok (.putfield 9, 3) := by decide +kernel
theorem dX1_lower_42 : decode cX1_lower 42 = .ok (.aload_n 0, 1) := by decide +kernel
theorem dX1_lower_43 : decode cX1_lower 43 = .ok (.dup, 1) := by decide +kernel
theorem dX1_lower_44 : decode cX1_lower 44 = .ok (.getfield 15, 3) := by decide +kernel
theorem dX1_lower_47 : decode cX1_lower 47 = .ok (.ldc2_w 105, 3) := by decide +kernel
theorem dX1_lower_50 : decode cX1_lower 50 = .ok (.ldiv, 1) := by decide +kernel
theorem dX1_lower_51 : decode cX1_lower 51 = .ok (.putfield 15, 3) := by decide +kernel
theorem dX1_lower_54 : decode cX1_lower 54 = .ok (.iinc 1 1, 3) := by decide +kernel
theorem dX1_lower_57 : decode cX1_lower 57 = .ok (.goto (-55), 3) := by decide +kernel
theorem dX1_lower_60 : decode cX1_lower 60 = .ok (.return_, 1) := by decide +kernel

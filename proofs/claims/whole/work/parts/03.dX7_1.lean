theorem dX7_readMove_52 : decode cX7_readMove 52 = .ok (.iconst 2, 1) := by decide +kernel
theorem dX7_readMove_53 : decode cX7_readMove 53 = .ok (.if_icmp .ge 7, 3) := by decide +kernel
theorem dX7_readMove_56 : decode cX7_readMove 56 = .ok (.iconst 4, 1) := by decide +kernel
theorem dX7_readMove_57 : decode cX7_readMove 57 = .ok (.goto 4, 3) := by decide +kernel
theorem dX7_readMove_60 : decode cX7_readMove 60 = .ok (.iconst (-1), 1) := by decide +kernel
theorem dX7_readMove_61 : decode cX7_readMove 61 = .ok (.istore 4, 2) := by decide +kernel
theorem dX7_readMove_63 : decode cX7_readMove 63 = .ok (.iload 4, 2) := by decide +kernel
theorem dX7_readMove_65 : decode cX7_readMove 65 = .ok (.ifCond .ge 5, 3) := by decide +kernel
theorem dX7_readMove_68 : decode cX7_readMove 68 = .ok (.iconst 0, 1) := by decide +kernel
theorem dX7_readMove_69 : decode cX7_readMove 69 = .ok (.ireturn, 1) := by decide +kernel
theorem dX7_readMove_70 : decode cX7_readMove 70 = .ok (.aload_n 0, 1) := by decide +kernel
theorem dX7_readMove_71 : decode cX7_readMove 71 = .ok (.dup, 1) := by decide +kernel
theorem dX7_readMove_72 : decode cX7_readMove 72 = .ok (.getfield 131, 3) := by decide +kernel
theorem dX7_readMove_75 : decode cX7_readMove 75 = .ok (.iconst 1, 1) := by decide +kernel
theorem dX7_readMove_76 : decode cX7_readMove 76 = .ok (.iadd, 1) := by decide +kernel
theorem dX7_readMove_77 : decode cX7_readMove 77 = .ok (.putfield 131, 3) := by decide +kernel
theorem dX7_readMove_80 : decode cX7_readMove 80 = .ok (.aload_n 0, 1) := by decide +kernel
theorem dX7_readMove_81 : decode cX7_readMove 81 = .ok (.getfield 46, 3) := by decide +kernel
theorem dX7_readMove_84 : decode cX7_readMove 84 = .ok (.iload_n 1, 1) := by decide +kernel
theorem dX7_readMove_85 : decode cX7_readMove 85 = .ok (.iload 4, 2) := by decide +kernel
theorem dX7_readMove_87 : decode cX7_readMove 87 = .ok (.iastore, 1) := by decide +kernel
theorem dX7_readMove_88 : decode cX7_readMove 88 = .ok (.aload_n 0, 1) := by decide +kernel
theorem dX7_readMove_89 : decode cX7_readMove 89 = .ok (.getfield 49, 3) := by decide +kernel
theorem dX7_readMove_92 : decode cX7_readMove 92 = .ok (.iload_n 1, 1) := by decide +kernel
theorem dX7_readMove_93 : decode cX7_readMove 93 = .ok (.bipush (-4), 2) := by decide +kernel
theorem dX7_readMove_95 : decode cX7_readMove 95 = .ok (.iastore, 1) := by decide +kernel
theorem dX7_readMove_96 : decode cX7_readMove 96 = .ok (.iload 4, 2) := by decide +kernel
theorem dX7_readMove_98 : decode cX7_readMove 98 = .ok (.iconst 3, 1) := by decide +kernel
theorem dX7_readMove_99 : decode cX7_readMove 99 = .ok (.if_icmp .ge 5, 3) := by decide +kernel
theorem dX7_readMove_102 : decode cX7_readMove 102 = .ok (.iconst 1, 1) := by decide +kernel
theorem dX7_readMove_103 : decode cX7_readMove 103 = .ok (.ireturn, 1) := by decide +kernel
theorem dX7_readMove_104 : decode cX7_readMove 104 = .ok (.aload_n 0, 1) := by decide +kernel
theorem dX7_readMove_105 : decode cX7_readMove 105 = .ok (.invokevirtual 134, 3) := by decide +kernel
theorem dX7_readMove_108 : decode cX7_readMove 108 = .ok (.bipush 48, 2) := by decide +kernel
theorem dX7_readMove_110 : decode cX7_readMove 110 = .ok (.isub, 1) := by decide +kernel
theorem dX7_readMove_111 : decode cX7_readMove 111 = .ok (.istore 5, 2) := by decide +kernel
theorem dX7_readMove_113 : decode cX7_readMove 113 = .ok (.iload 5, 2) := by decide +kernel
theorem dX7_readMove_115 : decode cX7_readMove 115 = .ok (.i2l, 1) := by decide +kernel
theorem dX7_readMove_116 : decode cX7_readMove 116 = .ok (.iload 4, 2) := by decide +kernel
theorem dX7_readMove_118 : decode cX7_readMove 118 = .ok (.iconst 3, 1) := by decide +kernel
theorem dX7_readMove_119 : decode cX7_readMove 119 = .ok (.if_icmp .ne 7, 3) := by decide +kernel
theorem dX7_readMove_122 : decode cX7_readMove 122 = .ok (.lconst 0, 1) := by decide +kernel
theorem dX7_readMove_123 : decode cX7_readMove 123 = .ok (.goto 4, 3) := by decide +kernel
theorem dX7_readMove_126 : decode cX7_readMove 126 = .ok (.lconst 1, 1) := by decide +kernel
theorem dX7_readMove_127 : decode cX7_readMove 127 = .ok (.iload 4, 2) := by decide +kernel
theorem dX7_readMove_129 : decode cX7_readMove 129 = .ok (.iconst 3, 1) := by decide +kernel
theorem dX7_readMove_130 : decode cX7_readMove 130 = .ok (.if_icmp .ne 9, 3) := by decide +kernel
theorem dX7_readMove_133 : decode cX7_readMove 133 = .ok (.ldc2_w 143, 3) := by decide +kernel
theorem dX7_readMove_136 : decode cX7_readMove 136 = .ok (.goto 6, 3) := by decide +kernel
theorem dX7_readMove_139 : decode cX7_readMove 139 = .ok (.ldc2_w 145, 3) := by decide +kernel
theorem dX7_readMove_142 : decode cX7_readMove 142 = .ok (.invokestatic 118, 3) := by decide +kernel
theorem dX7_readMove_145 : decode cX7_readMove 145 = .ok (.ifCond .ne 5, 3) := by decide +kernel
theorem dX7_readMove_148 : decode cX7_readMove 148 = .ok (.iconst 0, 1) := by decide +kernel
theorem dX7_readMove_149 : decode cX7_readMove 149 = .ok (.ireturn, 1) := by decide +kernel
theorem dX7_readMove_150 : decode cX7_readMove 150 = .ok (.aload_n 0, 1) := by decide +kernel
theorem dX7_readMove_151 : decode cX7_readMove 151 = .ok (.getfield 58, 3) := by decide +kernel
theorem dX7_readMove_154 : decode cX7_readMove 154 = .ok (.iload_n 1, 1) := by decide +kernel
theorem dX7_readMove_155 : decode cX7_readMove 155 = .ok (.aload_n 0, 1) := by decide +kernel
theorem dX7_readMove_156 : decode cX7_readMove 156 = .ok (.getfield 131, 3) := by decide +kernel
theorem dX7_readMove_159 : decode cX7_readMove 159 = .ok (.iastore, 1) := by decide +kernel
theorem dX7_readMove_160 : decode cX7_readMove 160 = .ok (.aload_n 0, 1) := by decide +kernel
theorem dX7_readMove_161 : decode cX7_readMove 161 = .ok (.dup, 1) := by decide +kernel
theorem dX7_readMove_162 : decode cX7_readMove 162 = .ok (.getfield 131, 3) := by decide +kernel
theorem dX7_readMove_165 : decode cX7_readMove 165 = .ok (.iconst 1, 1) := by decide +kernel
theorem dX7_readMove_166 : decode cX7_readMove 166 = .ok (.iadd, 1) := by decide +kernel
theorem dX7_readMove_167 : decode cX7_readMove 167 = .ok (.putfield 131, 3) := by decide +kernel
theorem dX7_readMove_170 : decode cX7_readMove 170 = .ok (.aload_n 0, 1) := by decide +kernel
theorem dX7_readMove_171 : decode cX7_readMove 171 = .ok (.getfield 49, 3) := by decide +kernel
theorem dX7_readMove_174 : decode cX7_readMove 174 = .ok (.iload_n 1, 1) := by decide +kernel
theorem dX7_readMove_175 : decode cX7_readMove 175 = .ok (.iload 5, 2) := by decide +kernel
theorem dX7_readMove_177 : decode cX7_readMove 177 = .ok (.iastore, 1) := by decide +kernel
theorem dX7_readMove_178 : decode cX7_readMove 178 = .ok (.iconst 1, 1) := by decide +kernel
theorem dX7_readMove_179 : decode cX7_readMove 179 = .ok (.ireturn, 1) := by decide +kernel
theorem dX7_readOrder_0 : decode cX7_readOrder 0 = .ok (.iconst 0, 1) := by decide +kernel
theorem dX7_readOrder_1 : decode cX7_readOrder 1 = .ok (.istore_n 2, 1) := by decide +kernel
theorem dX7_readOrder_2 : decode cX7_readOrder 2 = .ok (.iconst 0, 1) := by decide +kernel
theorem dX7_readOrder_3 : decode cX7_readOrder 3 = .ok (.istore_n 3, 1) := by decide +kernel
theorem dX7_readOrder_4 : decode cX7_readOrder 4 = .ok (.aload_n 0, 1) := by decide +kernel
theorem dX7_readOrder_5 : decode cX7_readOrder 5 = .ok (.invokevirtual 134, 3) := by decide +kernel
theorem dX7_readOrder_8 : decode cX7_readOrder 8 = .ok (.i2l, 1) := by decide +kernel
theorem dX7_readOrder_9 : decode cX7_readOrder 9 = .ok (.ldc2_w 147, 3) := by decide +kernel
theorem dX7_readOrder_12 : decode cX7_readOrder 12 = .ok (.ldc2_w 149, 3) := by decide +kernel
theorem dX7_readOrder_15 : decode cX7_readOrder 15 = .ok (.invokestatic 118, 3) := by decide +kernel
theorem dX7_readOrder_18 : decode cX7_readOrder 18 = .ok (.ifCond .eq 62, 3) := by decide +kernel
theorem dX7_readOrder_21 : decode cX7_readOrder 21 = .ok (.iload_n 2, 1) := by decide +kernel
theorem dX7_readOrder_22 : decode cX7_readOrder 22 = .ok (.aload_n 0, 1) := by decide +kernel
theorem dX7_readOrder_23 : decode cX7_readOrder 23 = .ok (.invokevirtual 134, 3) := by decide +kernel
theorem dX7_readOrder_26 : decode cX7_readOrder 26 = .ok (.bipush 97, 2) := by decide +kernel
theorem dX7_readOrder_28 : decode cX7_readOrder 28 = .ok (.isub, 1) := by decide +kernel
theorem dX7_readOrder_29 : decode cX7_readOrder 29 = .ok (.ishr, 1) := by decide +kernel
theorem dX7_readOrder_30 : decode cX7_readOrder 30 = .ok (.iconst 1, 1) := by decide +kernel
theorem dX7_readOrder_31 : decode cX7_readOrder 31 = .ok (.iand, 1) := by decide +kernel
theorem dX7_readOrder_32 : decode cX7_readOrder 32 = .ok (.ifCond .ne 48, 3) := by decide +kernel
theorem dX7_readOrder_35 : decode cX7_readOrder 35 = .ok (.aload_n 0, 1) := by decide +kernel
theorem dX7_readOrder_36 : decode cX7_readOrder 36 = .ok (.getfield 55, 3) := by decide +kernel
theorem dX7_readOrder_39 : decode cX7_readOrder 39 = .ok (.iconst 5, 1) := by decide +kernel
theorem dX7_readOrder_40 : decode cX7_readOrder 40 = .ok (.iload_n 1, 1) := by decide +kernel
theorem dX7_readOrder_41 : decode cX7_readOrder 41 = .ok (.imul, 1) := by decide +kernel
theorem dX7_readOrder_42 : decode cX7_readOrder 42 = .ok (.iload_n 3, 1) := by decide +kernel
theorem dX7_readOrder_43 : decode cX7_readOrder 43 = .ok (.iadd, 1) := by decide +kernel
theorem dX7_readOrder_44 : decode cX7_readOrder 44 = .ok (.aload_n 0, 1) := by decide +kernel
theorem dX7_readOrder_45 : decode cX7_readOrder 45 = .ok (.invokevirtual 134, 3) := by decide +kernel
theorem dX7_readOrder_48 : decode cX7_readOrder 48 = .ok (.bipush 97, 2) := by decide +kernel
theorem dX7_readOrder_50 : decode cX7_readOrder 50 = .ok (.isub, 1) := by decide +kernel
theorem dX7_readOrder_51 : decode cX7_readOrder 51 = .ok (.iastore, 1) := by decide +kernel
theorem dX7_readOrder_52 : decode cX7_readOrder 52 = .ok (.iload_n 2, 1) := by decide +kernel
theorem dX7_readOrder_53 : decode cX7_readOrder 53 = .ok (.iconst 1, 1) := by decide +kernel
theorem dX7_readOrder_54 : decode cX7_readOrder 54 = .ok (.aload_n 0, 1) := by decide +kernel
theorem dX7_readOrder_55 : decode cX7_readOrder 55 = .ok (.invokevirtual 134, 3) := by decide +kernel
theorem dX7_readOrder_58 : decode cX7_readOrder 58 = .ok (.bipush 97, 2) := by decide +kernel
theorem dX7_readOrder_60 : decode cX7_readOrder 60 = .ok (.isub, 1) := by decide +kernel
theorem dX7_readOrder_61 : decode cX7_readOrder 61 = .ok (.ishl, 1) := by decide +kernel
theorem dX7_readOrder_62 : decode cX7_readOrder 62 = .ok (.ior, 1) := by decide +kernel
theorem dX7_readOrder_63 : decode cX7_readOrder 63 = .ok (.istore_n 2, 1) := by decide +kernel
theorem dX7_readOrder_64 : decode cX7_readOrder 64 = .ok (.aload_n 0, 1) := by decide +kernel
theorem dX7_readOrder_65 : decode cX7_readOrder 65 = .ok (.dup, 1) := by decide +kernel
theorem dX7_readOrder_66 : decode cX7_readOrder 66 = .ok (.getfield 131, 3) := by decide +kernel
theorem dX7_readOrder_69 : decode cX7_readOrder 69 = .ok (.iconst 1, 1) := by decide +kernel
theorem dX7_readOrder_70 : decode cX7_readOrder 70 = .ok (.iadd, 1) := by decide +kernel
theorem dX7_readOrder_71 : decode cX7_readOrder 71 = .ok (.putfield 131, 3) := by decide +kernel
theorem dX7_readOrder_74 : decode cX7_readOrder 74 = .ok (.iinc 3 1, 3) := by decide +kernel
theorem dX7_readOrder_77 : decode cX7_readOrder 77 = .ok (.goto (-73), 3) := by decide +kernel
theorem dX7_readOrder_80 : decode cX7_readOrder 80 = .ok (.aload_n 0, 1) := by decide +kernel
theorem dX7_readOrder_81 : decode cX7_readOrder 81 = .ok (.getfield 52, 3) := by decide +kernel
theorem dX7_readOrder_84 : decode cX7_readOrder 84 = .ok (.iload_n 1, 1) := by decide +kernel
theorem dX7_readOrder_85 : decode cX7_readOrder 85 = .ok (.iload_n 3, 1) := by decide +kernel
theorem dX7_readOrder_86 : decode cX7_readOrder 86 = .ok (.iastore, 1) := by decide +kernel
theorem dX7_readOrder_87 : decode cX7_readOrder 87 = .ok (.iload_n 3, 1) := by decide +kernel
theorem dX7_readOrder_88 : decode cX7_readOrder 88 = .ok (.ifCond .le 7, 3) := by decide +kernel
theorem dX7_readOrder_91 : decode cX7_readOrder 91 = .ok (.iconst 1, 1) := by decide +kernel
theorem dX7_readOrder_92 : decode cX7_readOrder 92 = .ok (.goto 4, 3) := by decide +kernel
theorem dX7_readOrder_95 : decode cX7_readOrder 95 = .ok (.iconst 0, 1) := by decide +kernel
theorem dX7_readOrder_96 : decode cX7_readOrder 96 = .ok (.ireturn, 1) := by decide +kernel
theorem dX7_readHall_0 : decode cX7_readHall 0 = .ok (.aload_n 0, 1) := by decide +kernel
theorem dX7_readHall_1 : decode cX7_readHall 1 = .ok (.iconst 0, 1) := by decide +kernel
theorem dX7_readHall_2 : decode cX7_readHall 2 = .ok (.putfield 131, 3) := by decide +kernel
theorem dX7_readHall_5 : decode cX7_readHall 5 = .ok (.iconst 0, 1) := by decide +kernel
theorem dX7_readHall_6 : decode cX7_readHall 6 = .ok (.istore_n 1, 1) := by decide +kernel
theorem dX7_readHall_7 : decode cX7_readHall 7 = .ok (.iconst 0, 1) := by decide +kernel
theorem dX7_readHall_8 : decode cX7_readHall 8 = .ok (.istore_n 2, 1) := by decide +kernel
theorem dX7_readHall_9 : decode cX7_readHall 9 = .ok (.iload_n 2, 1) := by decide +kernel
theorem dX7_readHall_10 : decode cX7_readHall 10 = .ok (.bipush 6, 2) := by decide +kernel
theorem dX7_readHall_12 : decode cX7_readHall 12 = .ok (.if_icmp .ge 127, 3) := by decide +kernel
theorem dX7_readHall_15 : decode cX7_readHall 15 = .ok (.aload_n 0, 1) := by decide +kernel
theorem dX7_readHall_16 : decode cX7_readHall 16 = .ok (.getfield 43, 3) := by decide +kernel
theorem dX7_readHall_19 : decode cX7_readHall 19 = .ok (.iload_n 2, 1) := by decide +kernel
theorem dX7_readHall_20 : decode cX7_readHall 20 = .ok (.aload_n 0, 1) := by decide +kernel
theorem dX7_readHall_21 : decode cX7_readHall 21 = .ok (.invokevirtual 151, 3) := by decide +kernel
theorem dX7_readHall_24 : decode cX7_readHall 24 = .ok (.iastore, 1) := by decide +kernel
theorem dX7_readHall_25 : decode cX7_readHall 25 = .ok (.aload_n 0, 1) := by decide +kernel
theorem dX7_readHall_26 : decode cX7_readHall 26 = .ok (.getfield 43, 3) := by decide +kernel
theorem dX7_readHall_29 : decode cX7_readHall 29 = .ok (.iload_n 2, 1) := by decide +kernel
theorem dX7_readHall_30 : decode cX7_readHall 30 = .ok (.iaload, 1) := by decide +kernel
theorem dX7_readHall_31 : decode cX7_readHall 31 = .ok (.ifCond .lt 21, 3) := by decide +kernel
theorem dX7_readHall_34 : decode cX7_readHall 34 = .ok (.aload_n 0, 1) := by decide +kernel
theorem dX7_readHall_35 : decode cX7_readHall 35 = .ok (.iload_n 2, 1) := by decide +kernel
theorem dX7_readHall_36 : decode cX7_readHall 36 = .ok (.iload_n 1, 1) := by decide +kernel
theorem dX7_readHall_37 : decode cX7_readHall 37 = .ok (.invokevirtual 154, 3) := by decide +kernel
theorem dX7_readHall_40 : decode cX7_readHall 40 = .ok (.ifCond .eq 12, 3) := by decide +kernel
theorem dX7_readHall_43 : decode cX7_readHall 43 = .ok (.aload_n 0, 1) := by decide +kernel
theorem dX7_readHall_44 : decode cX7_readHall 44 = .ok (.invokevirtual 134, 3) := by decide +kernel
theorem dX7_readHall_47 : decode cX7_readHall 47 = .ok (.bipush 58, 2) := by decide +kernel
theorem dX7_readHall_49 : decode cX7_readHall 49 = .ok (.if_icmp .eq 5, 3) := by decide +kernel
theorem dX7_readHall_52 : decode cX7_readHall 52 = .ok (.iconst 0, 1) := by decide +kernel
theorem dX7_readHall_53 : decode cX7_readHall 53 = .ok (.ireturn, 1) := by decide +kernel
theorem dX7_readHall_54 : decode cX7_readHall 54 = .ok (.aload_n 0, 1) := by decide +kernel
theorem dX7_readHall_55 : decode cX7_readHall 55 = .ok (.dup, 1) := by decide +kernel
theorem dX7_readHall_56 : decode cX7_readHall 56 = .ok (.getfield 131, 3) := by decide +kernel
theorem dX7_readHall_59 : decode cX7_readHall 59 = .ok (.iconst 1, 1) := by decide +kernel
theorem dX7_readHall_60 : decode cX7_readHall 60 = .ok (.iadd, 1) := by decide +kernel
theorem dX7_readHall_61 : decode cX7_readHall 61 = .ok (.putfield 131, 3) := by decide +kernel
theorem dX7_readHall_64 : decode cX7_readHall 64 = .ok (.iload_n 1, 1) := by decide +kernel
theorem dX7_readHall_65 : decode cX7_readHall 65 = .ok (.aload_n 0, 1) := by decide +kernel
theorem dX7_readHall_66 : decode cX7_readHall 66 = .ok (.getfield 46, 3) := by decide +kernel
theorem dX7_readHall_69 : decode cX7_readHall 69 = .ok (.iload_n 2, 1) := by decide +kernel
theorem dX7_readHall_70 : decode cX7_readHall 70 = .ok (.iaload, 1) := by decide +kernel
theorem dX7_readHall_71 : decode cX7_readHall 71 = .ok (.iconst 4, 1) := by decide +kernel
theorem dX7_readHall_72 : decode cX7_readHall 72 = .ok (.if_icmp .ne 7, 3) := by decide +kernel
theorem dX7_readHall_75 : decode cX7_readHall 75 = .ok (.iconst 1, 1) := by decide +kernel
theorem dX7_readHall_76 : decode cX7_readHall 76 = .ok (.goto 4, 3) := by decide +kernel
theorem dX7_readHall_79 : decode cX7_readHall 79 = .ok (.iconst 0, 1) := by decide +kernel
theorem dX7_readHall_80 : decode cX7_readHall 80 = .ok (.iadd, 1) := by decide +kernel
theorem dX7_readHall_81 : decode cX7_readHall 81 = .ok (.istore_n 1, 1) := by decide +kernel
theorem dX7_readHall_82 : decode cX7_readHall 82 = .ok (.aload_n 0, 1) := by decide +kernel
theorem dX7_readHall_83 : decode cX7_readHall 83 = .ok (.iload_n 2, 1) := by decide +kernel
theorem dX7_readHall_84 : decode cX7_readHall 84 = .ok (.invokevirtual 158, 3) := by decide +kernel
theorem dX7_readHall_87 : decode cX7_readHall 87 = .ok (.ifCond .ne 5, 3) := by decide +kernel
theorem dX7_readHall_90 : decode cX7_readHall 90 = .ok (.iconst 0, 1) := by decide +kernel
theorem dX7_readHall_91 : decode cX7_readHall 91 = .ok (.ireturn, 1) := by decide +kernel
theorem dX7_readHall_92 : decode cX7_readHall 92 = .ok (.aload_n 0, 1) := by decide +kernel
theorem dX7_readHall_93 : decode cX7_readHall 93 = .ok (.iload_n 2, 1) := by decide +kernel
theorem dX7_readHall_94 : decode cX7_readHall 94 = .ok (.iconst 1, 1) := by decide +kernel
theorem dX7_readHall_95 : decode cX7_readHall 95 = .ok (.iadd, 1) := by decide +kernel
theorem dX7_readHall_96 : decode cX7_readHall 96 = .ok (.putfield 162, 3) := by decide +kernel
theorem dX7_readHall_99 : decode cX7_readHall 99 = .ok (.aload_n 0, 1) := by decide +kernel
theorem dX7_readHall_100 : decode cX7_readHall 100 = .ok (.invokevirtual 134, 3) := by decide +kernel
theorem dX7_readHall_103 : decode cX7_readHall 103 = .ok (.istore_n 3, 1) := by decide +kernel
theorem dX7_readHall_104 : decode cX7_readHall 104 = .ok (.iload_n 3, 1) := by decide +kernel
theorem dX7_readHall_105 : decode cX7_readHall 105 = .ok (.ifCond .ge 5, 3) := by decide +kernel
theorem dX7_readHall_108 : decode cX7_readHall 108 = .ok (.iconst 1, 1) := by decide +kernel
theorem dX7_readHall_109 : decode cX7_readHall 109 = .ok (.ireturn, 1) := by decide +kernel
theorem dX7_readHall_110 : decode cX7_readHall 110 = .ok (.iload_n 3, 1) := by decide +kernel
theorem dX7_readHall_111 : decode cX7_readHall 111 = .ok (.bipush 59, 2) := by decide +kernel
theorem dX7_readHall_113 : decode cX7_readHall 113 = .ok (.if_icmp .ne 8, 3) := by decide +kernel
theorem dX7_readHall_116 : decode cX7_readHall 116 = .ok (.iload_n 2, 1) := by decide +kernel
theorem dX7_readHall_117 : decode cX7_readHall 117 = .ok (.iconst 5, 1) := by decide +kernel
theorem dX7_readHall_118 : decode cX7_readHall 118 = .ok (.if_icmp .ne 5, 3) := by decide +kernel
theorem dX7_readHall_121 : decode cX7_readHall 121 = .ok (.iconst 0, 1) := by decide +kernel
theorem dX7_readHall_122 : decode cX7_readHall 122 = .ok (.ireturn, 1) := by decide +kernel
theorem dX7_readHall_123 : decode cX7_readHall 123 = .ok (.aload_n 0, 1) := by decide +kernel
theorem dX7_readHall_124 : decode cX7_readHall 124 = .ok (.dup, 1) := by decide +kernel
theorem dX7_readHall_125 : decode cX7_readHall 125 = .ok (.getfield 131, 3) := by decide +kernel
theorem dX7_readHall_128 : decode cX7_readHall 128 = .ok (.iconst 1, 1) := by decide +kernel
theorem dX7_readHall_129 : decode cX7_readHall 129 = .ok (.iadd, 1) := by decide +kernel
theorem dX7_readHall_130 : decode cX7_readHall 130 = .ok (.putfield 131, 3) := by decide +kernel
theorem dX7_readHall_133 : decode cX7_readHall 133 = .ok (.iinc 2 1, 3) := by decide +kernel
theorem dX7_readHall_136 : decode cX7_readHall 136 = .ok (.goto (-127), 3) := by decide +kernel
theorem dX7_readHall_139 : decode cX7_readHall 139 = .ok (.iconst 0, 1) := by decide +kernel
theorem dX7_readHall_140 : decode cX7_readHall 140 = .ok (.ireturn, 1) := by decide +kernel
theorem dX7_areThere_0 : decode cX7_areThere 0 = .ok (.iconst 0, 1) := by decide +kernel
theorem dX7_areThere_1 : decode cX7_areThere 1 = .ok (.istore_n 1, 1) := by decide +kernel
theorem dX7_areThere_2 : decode cX7_areThere 2 = .ok (.iload_n 1, 1) := by decide +kernel
theorem dX7_areThere_3 : decode cX7_areThere 3 = .ok (.aload_n 0, 1) := by decide +kernel
theorem dX7_areThere_4 : decode cX7_areThere 4 = .ok (.getfield 162, 3) := by decide +kernel
theorem dX7_areThere_7 : decode cX7_areThere 7 = .ok (.if_icmp .ge 44, 3) := by decide +kernel
theorem dX7_areThere_10 : decode cX7_areThere 10 = .ok (.aload_n 0, 1) := by decide +kernel
theorem dX7_areThere_11 : decode cX7_areThere 11 = .ok (.getfield 46, 3) := by decide +kernel
theorem dX7_areThere_14 : decode cX7_areThere 14 = .ok (.iload_n 1, 1) := by decide +kernel
theorem dX7_areThere_15 : decode cX7_areThere 15 = .ok (.iaload, 1) := by decide +kernel
theorem dX7_areThere_16 : decode cX7_areThere 16 = .ok (.iconst 3, 1) := by decide +kernel
theorem dX7_areThere_17 : decode cX7_areThere 17 = .ok (.if_icmp .ne 28, 3) := by decide +kernel
theorem dX7_areThere_20 : decode cX7_areThere 20 = .ok (.aload_n 0, 1) := by decide +kernel
theorem dX7_areThere_21 : decode cX7_areThere 21 = .ok (.getfield 49, 3) := by decide +kernel
theorem dX7_areThere_24 : decode cX7_areThere 24 = .ok (.iload_n 1, 1) := by decide +kernel
theorem dX7_areThere_25 : decode cX7_areThere 25 = .ok (.iaload, 1) := by decide +kernel
theorem dX7_areThere_26 : decode cX7_areThere 26 = .ok (.aload_n 0, 1) := by decide +kernel
theorem dX7_areThere_27 : decode cX7_areThere 27 = .ok (.getfield 162, 3) := by decide +kernel
theorem dX7_areThere_30 : decode cX7_areThere 30 = .ok (.if_icmp .lt 15, 3) := by decide +kernel
theorem dX7_areThere_33 : decode cX7_areThere 33 = .ok (.aload_n 0, 1) := by decide +kernel
theorem dX7_areThere_34 : decode cX7_areThere 34 = .ok (.aload_n 0, 1) := by decide +kernel
theorem dX7_areThere_35 : decode cX7_areThere 35 = .ok (.getfield 58, 3) := by decide +kernel
theorem dX7_areThere_38 : decode cX7_areThere 38 = .ok (.iload_n 1, 1) := by decide +kernel
theorem dX7_areThere_39 : decode cX7_areThere 39 = .ok (.iaload, 1) := by decide +kernel
theorem dX7_areThere_40 : decode cX7_areThere 40 = .ok (.putfield 131, 3) := by decide +kernel
theorem dX7_areThere_43 : decode cX7_areThere 43 = .ok (.iconst 0, 1) := by decide +kernel
theorem dX7_areThere_44 : decode cX7_areThere 44 = .ok (.ireturn, 1) := by decide +kernel
theorem dX7_areThere_45 : decode cX7_areThere 45 = .ok (.iinc 1 1, 3) := by decide +kernel
theorem dX7_areThere_48 : decode cX7_areThere 48 = .ok (.goto (-46), 3) := by decide +kernel
theorem dX7_areThere_51 : decode cX7_areThere 51 = .ok (.iconst 1, 1) := by decide +kernel
theorem dX7_areThere_52 : decode cX7_areThere 52 = .ok (.ireturn, 1) := by decide +kernel
theorem dX7_hall_0 : decode cX7_hall 0 = .ok (.aload_n 0, 1) := by decide +kernel
theorem dX7_hall_1 : decode cX7_hall 1 = .ok (.invokevirtual 165, 3) := by decide +kernel
theorem dX7_hall_4 : decode cX7_hall 4 = .ok (.ifCond .eq 14, 3) := by decide +kernel
theorem dX7_hall_7 : decode cX7_hall 7 = .ok (.aload_n 0, 1) := by decide +kernel
theorem dX7_hall_8 : decode cX7_hall 8 = .ok (.invokevirtual 169, 3) := by decide +kernel
theorem dX7_hall_11 : decode cX7_hall 11 = .ok (.ifCond .eq 7, 3) := by decide +kernel
theorem dX7_hall_14 : decode cX7_hall 14 = .ok (.iconst 1, 1) := by decide +kernel
theorem dX7_hall_15 : decode cX7_hall 15 = .ok (.goto 4, 3) := by decide +kernel
theorem dX7_hall_18 : decode cX7_hall 18 = .ok (.iconst 0, 1) := by decide +kernel
theorem dX7_hall_19 : decode cX7_hall 19 = .ok (.istore_n 1, 1) := by decide +kernel
theorem dX7_hall_20 : decode cX7_hall 20 = .ok (.aload_n 0, 1) := by decide +kernel
theorem dX7_hall_21 : decode cX7_hall 21 = .ok (.iconst 0, 1) := by decide +kernel
theorem dX7_hall_22 : decode cX7_hall 22 = .ok (.putfield 128, 3) := by decide +kernel
theorem dX7_hall_25 : decode cX7_hall 25 = .ok (.iload_n 1, 1) := by decide +kernel
theorem dX7_hall_26 : decode cX7_hall 26 = .ok (.ifCond .ne 11, 3) := by decide +kernel
theorem dX7_hall_29 : decode cX7_hall 29 = .ok (.bipush (-20), 2) := by decide +kernel
theorem dX7_hall_31 : decode cX7_hall 31 = .ok (.aload_n 0, 1) := by decide +kernel
theorem dX7_hall_32 : decode cX7_hall 32 = .ok (.getfield 131, 3) := by decide +kernel
theorem dX7_hall_35 : decode cX7_hall 35 = .ok (.isub, 1) := by decide +kernel
theorem dX7_hall_36 : decode cX7_hall 36 = .ok (.ireturn, 1) := by decide +kernel
theorem dX7_hall_37 : decode cX7_hall 37 = .ok (.aload_n 0, 1) := by decide +kernel
theorem dX7_hall_38 : decode cX7_hall 38 = .ok (.aload_n 0, 1) := by decide +kernel
theorem dX7_hall_39 : decode cX7_hall 39 = .ok (.getfield 162, 3) := by decide +kernel
theorem dX7_hall_42 : decode cX7_hall 42 = .ok (.putfield 109, 3) := by decide +kernel
theorem dX7_hall_45 : decode cX7_hall 45 = .ok (.iconst 0, 1) := by decide +kernel
theorem dX7_hall_46 : decode cX7_hall 46 = .ok (.istore_n 2, 1) := by decide +kernel
theorem dX7_hall_47 : decode cX7_hall 47 = .ok (.iload_n 2, 1) := by decide +kernel
theorem dX7_hall_48 : decode cX7_hall 48 = .ok (.aload_n 0, 1) := by decide +kernel
theorem dX7_hall_49 : decode cX7_hall 49 = .ok (.getfield 109, 3) := by decide +kernel
theorem dX7_hall_52 : decode cX7_hall 52 = .ok (.if_icmp .ge 90, 3) := by decide +kernel
theorem dX7_hall_55 : decode cX7_hall 55 = .ok (.aload_n 0, 1) := by decide +kernel
theorem dX7_hall_56 : decode cX7_hall 56 = .ok (.getfield 7, 3) := by decide +kernel
theorem dX7_hall_59 : decode cX7_hall 59 = .ok (.iload_n 2, 1) := by decide +kernel
theorem dX7_hall_60 : decode cX7_hall 60 = .ok (.aload_n 0, 1) := by decide +kernel
theorem dX7_hall_61 : decode cX7_hall 61 = .ok (.getfield 43, 3) := by decide +kernel
theorem dX7_hall_64 : decode cX7_hall 64 = .ok (.iload_n 2, 1) := by decide +kernel
theorem dX7_hall_65 : decode cX7_hall 65 = .ok (.iaload, 1) := by decide +kernel
theorem dX7_hall_66 : decode cX7_hall 66 = .ok (.iastore, 1) := by decide +kernel
theorem dX7_hall_67 : decode cX7_hall 67 = .ok (.aload_n 0, 1) := by decide +kernel
theorem dX7_hall_68 : decode cX7_hall 68 = .ok (.getfield 13, 3) := by decide +kernel
theorem dX7_hall_71 : decode cX7_hall 71 = .ok (.iload_n 2, 1) := by decide +kernel
theorem dX7_hall_72 : decode cX7_hall 72 = .ok (.aload_n 0, 1) := by decide +kernel
theorem dX7_hall_73 : decode cX7_hall 73 = .ok (.getfield 46, 3) := by decide +kernel
theorem dX7_hall_76 : decode cX7_hall 76 = .ok (.iload_n 2, 1) := by decide +kernel
theorem dX7_hall_77 : decode cX7_hall 77 = .ok (.iaload, 1) := by decide +kernel
theorem dX7_hall_78 : decode cX7_hall 78 = .ok (.iastore, 1) := by decide +kernel
theorem dX7_hall_79 : decode cX7_hall 79 = .ok (.aload_n 0, 1) := by decide +kernel
theorem dX7_hall_80 : decode cX7_hall 80 = .ok (.getfield 16, 3) := by decide +kernel
theorem dX7_hall_83 : decode cX7_hall 83 = .ok (.iload_n 2, 1) := by decide +kernel
theorem dX7_hall_84 : decode cX7_hall 84 = .ok (.aload_n 0, 1) := by decide +kernel
theorem dX7_hall_85 : decode cX7_hall 85 = .ok (.getfield 49, 3) := by decide +kernel
theorem dX7_hall_88 : decode cX7_hall 88 = .ok (.iload_n 2, 1) := by decide +kernel
theorem dX7_hall_89 : decode cX7_hall 89 = .ok (.iaload, 1) := by decide +kernel
theorem dX7_hall_90 : decode cX7_hall 90 = .ok (.iastore, 1) := by decide +kernel
theorem dX7_hall_91 : decode cX7_hall 91 = .ok (.aload_n 0, 1) := by decide +kernel
theorem dX7_hall_92 : decode cX7_hall 92 = .ok (.getfield 19, 3) := by decide +kernel
theorem dX7_hall_95 : decode cX7_hall 95 = .ok (.iload_n 2, 1) := by decide +kernel
theorem dX7_hall_96 : decode cX7_hall 96 = .ok (.aload_n 0, 1) := by decide +kernel
theorem dX7_hall_97 : decode cX7_hall 97 = .ok (.getfield 52, 3) := by decide +kernel
theorem dX7_hall_100 : decode cX7_hall 100 = .ok (.iload_n 2, 1) := by decide +kernel
theorem dX7_hall_101 : decode cX7_hall 101 = .ok (.iaload, 1) := by decide +kernel
theorem dX7_hall_102 : decode cX7_hall 102 = .ok (.iastore, 1) := by decide +kernel
theorem dX7_hall_103 : decode cX7_hall 103 = .ok (.iconst 0, 1) := by decide +kernel
theorem dX7_hall_104 : decode cX7_hall 104 = .ok (.istore_n 3, 1) := by decide +kernel
theorem dX7_hall_105 : decode cX7_hall 105 = .ok (.iload_n 3, 1) := by decide +kernel
theorem dX7_hall_106 : decode cX7_hall 106 = .ok (.iconst 5, 1) := by decide +kernel
theorem dX7_hall_107 : decode cX7_hall 107 = .ok (.if_icmp .ge 29, 3) := by decide +kernel
theorem dX7_hall_110 : decode cX7_hall 110 = .ok (.aload_n 0, 1) := by decide +kernel
theorem dX7_hall_111 : decode cX7_hall 111 = .ok (.getfield 22, 3) := by decide +kernel
theorem dX7_hall_114 : decode cX7_hall 114 = .ok (.iconst 5, 1) := by decide +kernel
theorem dX7_hall_115 : decode cX7_hall 115 = .ok (.iload_n 2, 1) := by decide +kernel
theorem dX7_hall_116 : decode cX7_hall 116 = .ok (.imul, 1) := by decide +kernel
theorem dX7_hall_117 : decode cX7_hall 117 = .ok (.iload_n 3, 1) := by decide +kernel
theorem dX7_hall_118 : decode cX7_hall 118 = .ok (.iadd, 1) := by decide +kernel
theorem dX7_hall_119 : decode cX7_hall 119 = .ok (.aload_n 0, 1) := by decide +kernel
theorem dX7_hall_120 : decode cX7_hall 120 = .ok (.getfield 55, 3) := by decide +kernel
theorem dX7_hall_123 : decode cX7_hall 123 = .ok (.iconst 5, 1) := by decide +kernel
theorem dX7_hall_124 : decode cX7_hall 124 = .ok (.iload_n 2, 1) := by decide +kernel
theorem dX7_hall_125 : decode cX7_hall 125 = .ok (.imul, 1) := by decide +kernel
theorem dX7_hall_126 : decode cX7_hall 126 = .ok (.iload_n 3, 1) := by decide +kernel
theorem dX7_hall_127 : decode cX7_hall 127 = .ok (.iadd, 1) := by decide +kernel
theorem dX7_hall_128 : decode cX7_hall 128 = .ok (.iaload, 1) := by decide +kernel
theorem dX7_hall_129 : decode cX7_hall 129 = .ok (.iastore, 1) := by decide +kernel
theorem dX7_hall_130 : decode cX7_hall 130 = .ok (.iinc 3 1, 3) := by decide +kernel
theorem dX7_hall_133 : decode cX7_hall 133 = .ok (.goto (-28), 3) := by decide +kernel
theorem dX7_hall_136 : decode cX7_hall 136 = .ok (.iinc 2 1, 3) := by decide +kernel
theorem dX7_hall_139 : decode cX7_hall 139 = .ok (.goto (-92), 3) := by decide +kernel
theorem dX7_hall_142 : decode cX7_hall 142 = .ok (.aload_n 0, 1) := by decide +kernel
theorem dX7_hall_143 : decode cX7_hall 143 = .ok (.invokevirtual 97, 3) := by decide +kernel
theorem dX7_hall_146 : decode cX7_hall 146 = .ok (.aload_n 0, 1) := by decide +kernel
theorem dX7_hall_147 : decode cX7_hall 147 = .ok (.getfield 109, 3) := by decide +kernel
theorem dX7_hall_150 : decode cX7_hall 150 = .ok (.ireturn, 1) := by decide +kernel
theorem dX7_isBlock_0 : decode cX7_isBlock 0 = .ok (.iload_n 1, 1) := by decide +kernel
theorem dX7_isBlock_1 : decode cX7_isBlock 1 = .ok (.i2l, 1) := by decide +kernel
theorem dX7_isBlock_2 : decode cX7_isBlock 2 = .ok (.lconst 0, 1) := by decide +kernel
theorem dX7_isBlock_3 : decode cX7_isBlock 3 = .ok (.aload_n 0, 1) := by decide +kernel
theorem dX7_isBlock_4 : decode cX7_isBlock 4 = .ok (.getfield 109, 3) := by decide +kernel
theorem dX7_isBlock_7 : decode cX7_isBlock 7 = .ok (.iconst 1, 1) := by decide +kernel
theorem dX7_isBlock_8 : decode cX7_isBlock 8 = .ok (.isub, 1) := by decide +kernel
theorem dX7_isBlock_9 : decode cX7_isBlock 9 = .ok (.i2l, 1) := by decide +kernel
theorem dX7_isBlock_10 : decode cX7_isBlock 10 = .ok (.invokestatic 118, 3) := by decide +kernel
theorem dX7_isBlock_13 : decode cX7_isBlock 13 = .ok (.ireturn, 1) := by decide +kernel
theorem dX7_isName_0 : decode cX7_isName 0 = .ok (.iload_n 0, 1) := by decide +kernel
theorem dX7_isName_1 : decode cX7_isName 1 = .ok (.i2l, 1) := by decide +kernel
theorem dX7_isName_2 : decode cX7_isName 2 = .ok (.lconst 0, 1) := by decide +kernel
theorem dX7_isName_3 : decode cX7_isName 3 = .ok (.ldc2_w 172, 3) := by decide +kernel
theorem dX7_isName_6 : decode cX7_isName 6 = .ok (.invokestatic 118, 3) := by decide +kernel
theorem dX7_isName_9 : decode cX7_isName 9 = .ok (.ireturn, 1) := by decide +kernel
theorem dX7_isDay_0 : decode cX7_isDay 0 = .ok (.iload_n 0, 1) := by decide +kernel
theorem dX7_isDay_1 : decode cX7_isDay 1 = .ok (.i2l, 1) := by decide +kernel
theorem dX7_isDay_2 : decode cX7_isDay 2 = .ok (.lconst 0, 1) := by decide +kernel
theorem dX7_isDay_3 : decode cX7_isDay 3 = .ok (.ldc2_w 174, 3) := by decide +kernel
theorem dX7_isDay_6 : decode cX7_isDay 6 = .ok (.invokestatic 118, 3) := by decide +kernel
theorem dX7_isDay_9 : decode cX7_isDay 9 = .ok (.ireturn, 1) := by decide +kernel
theorem dX7_block_0 : decode cX7_block 0 = .ok (.aload_n 0, 1) := by decide +kernel
theorem dX7_block_1 : decode cX7_block 1 = .ok (.iload_n 1, 1) := by decide +kernel
theorem dX7_block_2 : decode cX7_block 2 = .ok (.invokevirtual 176, 3) := by decide +kernel
theorem dX7_block_5 : decode cX7_block 5 = .ok (.ifCond .ne 5, 3) := by decide +kernel
theorem dX7_block_8 : decode cX7_block 8 = .ok (.iconst (-1), 1) := by decide +kernel
theorem dX7_block_9 : decode cX7_block 9 = .ok (.ireturn, 1) := by decide +kernel
theorem dX7_block_10 : decode cX7_block 10 = .ok (.iload_n 2, 1) := by decide +kernel
theorem dX7_block_11 : decode cX7_block 11 = .ok (.tableswitch 68 0 4 #[33, 40, 47, 54, 61], 33) := by decide +kernel
theorem dX7_block_44 : decode cX7_block 44 = .ok (.aload_n 0, 1) := by decide +kernel
theorem dX7_block_45 : decode cX7_block 45 = .ok (.getfield 7, 3) := by decide +kernel
theorem dX7_block_48 : decode cX7_block 48 = .ok (.iload_n 1, 1) := by decide +kernel
theorem dX7_block_49 : decode cX7_block 49 = .ok (.iaload, 1) := by decide +kernel
theorem dX7_block_50 : decode cX7_block 50 = .ok (.ireturn, 1) := by decide +kernel
theorem dX7_block_51 : decode cX7_block 51 = .ok (.aload_n 0, 1) := by decide +kernel
theorem dX7_block_52 : decode cX7_block 52 = .ok (.getfield 13, 3) := by decide +kernel
theorem dX7_block_55 : decode cX7_block 55 = .ok (.iload_n 1, 1) := by decide +kernel
theorem dX7_block_56 : decode cX7_block 56 = .ok (.iaload, 1) := by decide +kernel
theorem dX7_block_57 : decode cX7_block 57 = .ok (.ireturn, 1) := by decide +kernel
theorem dX7_block_58 : decode cX7_block 58 = .ok (.aload_n 0, 1) := by decide +kernel
theorem dX7_block_59 : decode cX7_block 59 = .ok (.getfield 16, 3) := by decide +kernel
theorem dX7_block_62 : decode cX7_block 62 = .ok (.iload_n 1, 1) := by decide +kernel
theorem dX7_block_63 : decode cX7_block 63 = .ok (.iaload, 1) := by decide +kernel
theorem dX7_block_64 : decode cX7_block 64 = .ok (.ireturn, 1) := by decide +kernel
theorem dX7_block_65 : decode cX7_block 65 = .ok (.aload_n 0, 1) := by decide +kernel
theorem dX7_block_66 : decode cX7_block 66 = .ok (.getfield 19, 3) := by decide +kernel
theorem dX7_block_69 : decode cX7_block 69 = .ok (.iload_n 1, 1) := by decide +kernel
theorem dX7_block_70 : decode cX7_block 70 = .ok (.iaload, 1) := by decide +kernel
theorem dX7_block_71 : decode cX7_block 71 = .ok (.ireturn, 1) := by decide +kernel
theorem dX7_block_72 : decode cX7_block 72 = .ok (.aload_n 0, 1) := by decide +kernel
theorem dX7_block_73 : decode cX7_block 73 = .ok (.getfield 37, 3) := by decide +kernel
theorem dX7_block_76 : decode cX7_block 76 = .ok (.iload_n 1, 1) := by decide +kernel
theorem dX7_block_77 : decode cX7_block 77 = .ok (.iaload, 1) := by decide +kernel
theorem dX7_block_78 : decode cX7_block 78 = .ok (.ireturn, 1) := by decide +kernel
theorem dX7_block_79 : decode cX7_block 79 = .ok (.iconst (-1), 1) := by decide +kernel
theorem dX7_block_80 : decode cX7_block 80 = .ok (.ireturn, 1) := by decide +kernel
theorem dX7_order_0 : decode cX7_order 0 = .ok (.aload_n 0, 1) := by decide +kernel
theorem dX7_order_1 : decode cX7_order 1 = .ok (.iload_n 1, 1) := by decide +kernel
theorem dX7_order_2 : decode cX7_order 2 = .ok (.invokevirtual 176, 3) := by decide +kernel
theorem dX7_order_5 : decode cX7_order 5 = .ok (.ifCond .eq 7, 3) := by decide +kernel
theorem dX7_order_8 : decode cX7_order 8 = .ok (.iload_n 2, 1) := by decide +kernel
theorem dX7_order_9 : decode cX7_order 9 = .ok (.ifCond .ge 5, 3) := by decide +kernel
theorem dX7_order_12 : decode cX7_order 12 = .ok (.iconst (-1), 1) := by decide +kernel
theorem dX7_order_13 : decode cX7_order 13 = .ok (.ireturn, 1) := by decide +kernel
theorem dX7_order_14 : decode cX7_order 14 = .ok (.iload_n 2, 1) := by decide +kernel
theorem dX7_order_15 : decode cX7_order 15 = .ok (.aload_n 0, 1) := by decide +kernel
theorem dX7_order_16 : decode cX7_order 16 = .ok (.getfield 19, 3) := by decide +kernel
theorem dX7_order_19 : decode cX7_order 19 = .ok (.iload_n 1, 1) := by decide +kernel
theorem dX7_order_20 : decode cX7_order 20 = .ok (.iaload, 1) := by decide +kernel
theorem dX7_order_21 : decode cX7_order 21 = .ok (.if_icmp .ge 16, 3) := by decide +kernel
theorem dX7_order_24 : decode cX7_order 24 = .ok (.aload_n 0, 1) := by decide +kernel
theorem dX7_order_25 : decode cX7_order 25 = .ok (.getfield 22, 3) := by decide +kernel
theorem dX7_order_28 : decode cX7_order 28 = .ok (.iconst 5, 1) := by decide +kernel
theorem dX7_order_29 : decode cX7_order 29 = .ok (.iload_n 1, 1) := by decide +kernel
theorem dX7_order_30 : decode cX7_order 30 = .ok (.imul, 1) := by decide +kernel
theorem dX7_order_31 : decode cX7_order 31 = .ok (.iload_n 2, 1) := by decide +kernel
theorem dX7_order_32 : decode cX7_order 32 = .ok (.iadd, 1) := by decide +kernel
theorem dX7_order_33 : decode cX7_order 33 = .ok (.iaload, 1) := by decide +kernel
theorem dX7_order_34 : decode cX7_order 34 = .ok (.goto 5, 3) := by decide +kernel
theorem dX7_order_37 : decode cX7_order 37 = .ok (.bipush (-4), 2) := by decide +kernel
theorem dX7_order_39 : decode cX7_order 39 = .ok (.ireturn, 1) := by decide +kernel
theorem dX7_bar_0 : decode cX7_bar 0 = .ok (.iload_n 1, 1) := by decide +kernel
theorem dX7_bar_1 : decode cX7_bar 1 = .ok (.invokestatic 179, 3) := by decide +kernel
theorem dX7_bar_4 : decode cX7_bar 4 = .ok (.ifCond .eq 26, 3) := by decide +kernel
theorem dX7_bar_7 : decode cX7_bar 7 = .ok (.iload_n 3, 1) := by decide +kernel
theorem dX7_bar_8 : decode cX7_bar 8 = .ok (.i2l, 1) := by decide +kernel
theorem dX7_bar_9 : decode cX7_bar 9 = .ok (.lconst 1, 1) := by decide +kernel
theorem dX7_bar_10 : decode cX7_bar 10 = .ok (.ldc2_w 182, 3) := by decide +kernel
theorem dX7_bar_13 : decode cX7_bar 13 = .ok (.invokestatic 118, 3) := by decide +kernel
theorem dX7_bar_16 : decode cX7_bar 16 = .ok (.ifCond .eq 14, 3) := by decide +kernel
theorem dX7_bar_19 : decode cX7_bar 19 = .ok (.iload_n 2, 1) := by decide +kernel
theorem dX7_bar_20 : decode cX7_bar 20 = .ok (.i2l, 1) := by decide +kernel
theorem dX7_bar_21 : decode cX7_bar 21 = .ok (.lconst 1, 1) := by decide +kernel
theorem dX7_bar_22 : decode cX7_bar 22 = .ok (.iload_n 3, 1) := by decide +kernel
theorem dX7_bar_23 : decode cX7_bar 23 = .ok (.i2l, 1) := by decide +kernel
theorem dX7_bar_24 : decode cX7_bar 24 = .ok (.invokestatic 118, 3) := by decide +kernel
theorem dX7_bar_27 : decode cX7_bar 27 = .ok (.ifCond .ne 5, 3) := by decide +kernel
theorem dX7_bar_30 : decode cX7_bar 30 = .ok (.iconst (-1), 1) := by decide +kernel
theorem dX7_bar_31 : decode cX7_bar 31 = .ok (.ireturn, 1) := by decide +kernel
theorem dX7_bar_32 : decode cX7_bar 32 = .ok (.bipush 12, 2) := by decide +kernel
theorem dX7_bar_34 : decode cX7_bar 34 = .ok (.aload_n 0, 1) := by decide +kernel
theorem dX7_bar_35 : decode cX7_bar 35 = .ok (.getfield 25, 3) := by decide +kernel
theorem dX7_bar_38 : decode cX7_bar 38 = .ok (.iload_n 1, 1) := by decide +kernel
theorem dX7_bar_39 : decode cX7_bar 39 = .ok (.iaload, 1) := by decide +kernel
theorem dX7_bar_40 : decode cX7_bar 40 = .ok (.imul, 1) := by decide +kernel
theorem dX7_bar_41 : decode cX7_bar 41 = .ok (.aload_n 0, 1) := by decide +kernel
theorem dX7_bar_42 : decode cX7_bar 42 = .ok (.getfield 28, 3) := by decide +kernel

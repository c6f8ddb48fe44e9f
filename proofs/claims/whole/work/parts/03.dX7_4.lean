theorem dX7_ring_80 : decode cX7_ring 80 = .ok (.iload_n 2, 1) := by decide +kernel
theorem dX7_ring_81 : decode cX7_ring 81 = .ok (.i2l, 1) := by decide +kernel
theorem dX7_ring_82 : decode cX7_ring 82 = .ok (.lastore, 1) := by decide +kernel
theorem dX7_ring_83 : decode cX7_ring 83 = .ok (.aload_n 0, 1) := by decide +kernel
theorem dX7_ring_84 : decode cX7_ring 84 = .ok (.aload_n 0, 1) := by decide +kernel
theorem dX7_ring_85 : decode cX7_ring 85 = .ok (.getfield 100, 3) := by decide +kernel
theorem dX7_ring_88 : decode cX7_ring 88 = .ok (.iconst 0, 1) := by decide +kernel
theorem dX7_ring_89 : decode cX7_ring 89 = .ok (.invokevirtual 242, 3) := by decide +kernel
theorem dX7_ring_92 : decode cX7_ring 92 = .ok (.iinc 2 1, 3) := by decide +kernel
theorem dX7_ring_95 : decode cX7_ring 95 = .ok (.goto (-37), 3) := by decide +kernel
theorem dX7_ring_98 : decode cX7_ring 98 = .ok (.aload_n 0, 1) := by decide +kernel
theorem dX7_ring_99 : decode cX7_ring 99 = .ok (.getfield 75, 3) := by decide +kernel
theorem dX7_ring_102 : decode cX7_ring 102 = .ok (.aload_n 0, 1) := by decide +kernel
theorem dX7_ring_103 : decode cX7_ring 103 = .ok (.invokevirtual 266, 3) := by decide +kernel
theorem dX7_ring_106 : decode cX7_ring 106 = .ok (.laload, 1) := by decide +kernel
theorem dX7_ring_107 : decode cX7_ring 107 = .ok (.l2i, 1) := by decide +kernel
theorem dX7_ring_108 : decode cX7_ring 108 = .ok (.istore_n 3, 1) := by decide +kernel
theorem dX7_ring_109 : decode cX7_ring 109 = .ok (.iload_n 1, 1) := by decide +kernel
theorem dX7_ring_110 : decode cX7_ring 110 = .ok (.ifCond .ne 7, 3) := by decide +kernel
theorem dX7_ring_113 : decode cX7_ring 113 = .ok (.iload_n 3, 1) := by decide +kernel
theorem dX7_ring_114 : decode cX7_ring 114 = .ok (.goto 6, 3) := by decide +kernel
theorem dX7_ring_117 : decode cX7_ring 117 = .ok (.iload_n 2, 1) := by decide +kernel
theorem dX7_ring_118 : decode cX7_ring 118 = .ok (.iload_n 3, 1) := by decide +kernel
theorem dX7_ring_119 : decode cX7_ring 119 = .ok (.isub, 1) := by decide +kernel
theorem dX7_ring_120 : decode cX7_ring 120 = .ok (.ireturn, 1) := by decide +kernel
theorem dX7_common_0 : decode cX7_common 0 = .ok (.lload_n 0, 1) := by decide +kernel
theorem dX7_common_1 : decode cX7_common 1 = .ok (.lstore 4, 2) := by decide +kernel
theorem dX7_common_3 : decode cX7_common 3 = .ok (.lload_n 2, 1) := by decide +kernel
theorem dX7_common_4 : decode cX7_common 4 = .ok (.lstore 6, 2) := by decide +kernel
theorem dX7_common_6 : decode cX7_common 6 = .ok (.lload 6, 2) := by decide +kernel
theorem dX7_common_8 : decode cX7_common 8 = .ok (.lconst 0, 1) := by decide +kernel
theorem dX7_common_9 : decode cX7_common 9 = .ok (.lcmp, 1) := by decide +kernel
theorem dX7_common_10 : decode cX7_common 10 = .ok (.ifCond .eq 21, 3) := by decide +kernel
theorem dX7_common_13 : decode cX7_common 13 = .ok (.lload 4, 2) := by decide +kernel
theorem dX7_common_15 : decode cX7_common 15 = .ok (.lload 6, 2) := by decide +kernel
theorem dX7_common_17 : decode cX7_common 17 = .ok (.lrem, 1) := by decide +kernel
theorem dX7_common_18 : decode cX7_common 18 = .ok (.lstore 8, 2) := by decide +kernel
theorem dX7_common_20 : decode cX7_common 20 = .ok (.lload 6, 2) := by decide +kernel
theorem dX7_common_22 : decode cX7_common 22 = .ok (.lstore 4, 2) := by decide +kernel
theorem dX7_common_24 : decode cX7_common 24 = .ok (.lload 8, 2) := by decide +kernel
theorem dX7_common_26 : decode cX7_common 26 = .ok (.lstore 6, 2) := by decide +kernel
theorem dX7_common_28 : decode cX7_common 28 = .ok (.goto (-22), 3) := by decide +kernel
theorem dX7_common_31 : decode cX7_common 31 = .ok (.lload 4, 2) := by decide +kernel
theorem dX7_common_33 : decode cX7_common 33 = .ok (.lreturn, 1) := by decide +kernel
theorem dX7_weightOf_0 : decode cX7_weightOf 0 = .ok (.iconst 1, 1) := by decide +kernel
theorem dX7_weightOf_1 : decode cX7_weightOf 1 = .ok (.istore_n 2, 1) := by decide +kernel
theorem dX7_weightOf_2 : decode cX7_weightOf 2 = .ok (.iconst 0, 1) := by decide +kernel
theorem dX7_weightOf_3 : decode cX7_weightOf 3 = .ok (.istore_n 3, 1) := by decide +kernel
theorem dX7_weightOf_4 : decode cX7_weightOf 4 = .ok (.iconst 0, 1) := by decide +kernel
theorem dX7_weightOf_5 : decode cX7_weightOf 5 = .ok (.istore 4, 2) := by decide +kernel
theorem dX7_weightOf_7 : decode cX7_weightOf 7 = .ok (.iload 4, 2) := by decide +kernel
theorem dX7_weightOf_9 : decode cX7_weightOf 9 = .ok (.aload_n 0, 1) := by decide +kernel
theorem dX7_weightOf_10 : decode cX7_weightOf 10 = .ok (.getfield 109, 3) := by decide +kernel
theorem dX7_weightOf_13 : decode cX7_weightOf 13 = .ok (.if_icmp .ge 54, 3) := by decide +kernel
theorem dX7_weightOf_16 : decode cX7_weightOf 16 = .ok (.aload_n 0, 1) := by decide +kernel
theorem dX7_weightOf_17 : decode cX7_weightOf 17 = .ok (.getfield 13, 3) := by decide +kernel
theorem dX7_weightOf_20 : decode cX7_weightOf 20 = .ok (.iload 4, 2) := by decide +kernel
theorem dX7_weightOf_22 : decode cX7_weightOf 22 = .ok (.iaload, 1) := by decide +kernel
theorem dX7_weightOf_23 : decode cX7_weightOf 23 = .ok (.iconst 4, 1) := by decide +kernel
theorem dX7_weightOf_24 : decode cX7_weightOf 24 = .ok (.if_icmp .ne 37, 3) := by decide +kernel
theorem dX7_weightOf_27 : decode cX7_weightOf 27 = .ok (.iload_n 2, 1) := by decide +kernel
theorem dX7_weightOf_28 : decode cX7_weightOf 28 = .ok (.iload_n 1, 1) := by decide +kernel
theorem dX7_weightOf_29 : decode cX7_weightOf 29 = .ok (.iload_n 3, 1) := by decide +kernel
theorem dX7_weightOf_30 : decode cX7_weightOf 30 = .ok (.ishr, 1) := by decide +kernel
theorem dX7_weightOf_31 : decode cX7_weightOf 31 = .ok (.iconst 1, 1) := by decide +kernel
theorem dX7_weightOf_32 : decode cX7_weightOf 32 = .ok (.iand, 1) := by decide +kernel
theorem dX7_weightOf_33 : decode cX7_weightOf 33 = .ok (.iconst 1, 1) := by decide +kernel
theorem dX7_weightOf_34 : decode cX7_weightOf 34 = .ok (.if_icmp .ne 13, 3) := by decide +kernel
theorem dX7_weightOf_37 : decode cX7_weightOf 37 = .ok (.aload_n 0, 1) := by decide +kernel
theorem dX7_weightOf_38 : decode cX7_weightOf 38 = .ok (.getfield 16, 3) := by decide +kernel
theorem dX7_weightOf_41 : decode cX7_weightOf 41 = .ok (.iload 4, 2) := by decide +kernel
theorem dX7_weightOf_43 : decode cX7_weightOf 43 = .ok (.iaload, 1) := by decide +kernel
theorem dX7_weightOf_44 : decode cX7_weightOf 44 = .ok (.goto 12, 3) := by decide +kernel
theorem dX7_weightOf_47 : decode cX7_weightOf 47 = .ok (.iconst 4, 1) := by decide +kernel
theorem dX7_weightOf_48 : decode cX7_weightOf 48 = .ok (.aload_n 0, 1) := by decide +kernel
theorem dX7_weightOf_49 : decode cX7_weightOf 49 = .ok (.getfield 16, 3) := by decide +kernel
theorem dX7_weightOf_52 : decode cX7_weightOf 52 = .ok (.iload 4, 2) := by decide +kernel
theorem dX7_weightOf_54 : decode cX7_weightOf 54 = .ok (.iaload, 1) := by decide +kernel
theorem dX7_weightOf_55 : decode cX7_weightOf 55 = .ok (.isub, 1) := by decide +kernel
theorem dX7_weightOf_56 : decode cX7_weightOf 56 = .ok (.imul, 1) := by decide +kernel
theorem dX7_weightOf_57 : decode cX7_weightOf 57 = .ok (.istore_n 2, 1) := by decide +kernel
theorem dX7_weightOf_58 : decode cX7_weightOf 58 = .ok (.iinc 3 1, 3) := by decide +kernel
theorem dX7_weightOf_61 : decode cX7_weightOf 61 = .ok (.iinc 4 1, 3) := by decide +kernel
theorem dX7_weightOf_64 : decode cX7_weightOf 64 = .ok (.goto (-57), 3) := by decide +kernel
theorem dX7_weightOf_67 : decode cX7_weightOf 67 = .ok (.iload_n 3, 1) := by decide +kernel
theorem dX7_weightOf_68 : decode cX7_weightOf 68 = .ok (.ifCond .ne 8, 3) := by decide +kernel
theorem dX7_weightOf_71 : decode cX7_weightOf 71 = .ok (.bipush 16, 2) := by decide +kernel
theorem dX7_weightOf_73 : decode cX7_weightOf 73 = .ok (.goto 15, 3) := by decide +kernel
theorem dX7_weightOf_76 : decode cX7_weightOf 76 = .ok (.iload_n 3, 1) := by decide +kernel
theorem dX7_weightOf_77 : decode cX7_weightOf 77 = .ok (.iconst 1, 1) := by decide +kernel
theorem dX7_weightOf_78 : decode cX7_weightOf 78 = .ok (.if_icmp .ne 9, 3) := by decide +kernel
theorem dX7_weightOf_81 : decode cX7_weightOf 81 = .ok (.iconst 4, 1) := by decide +kernel
theorem dX7_weightOf_82 : decode cX7_weightOf 82 = .ok (.iload_n 2, 1) := by decide +kernel
theorem dX7_weightOf_83 : decode cX7_weightOf 83 = .ok (.imul, 1) := by decide +kernel
theorem dX7_weightOf_84 : decode cX7_weightOf 84 = .ok (.goto 4, 3) := by decide +kernel
theorem dX7_weightOf_87 : decode cX7_weightOf 87 = .ok (.iload_n 2, 1) := by decide +kernel
theorem dX7_weightOf_88 : decode cX7_weightOf 88 = .ok (.ireturn, 1) := by decide +kernel
theorem dX7_waysFor_0 : decode cX7_waysFor 0 = .ok (.iconst 0, 1) := by decide +kernel
theorem dX7_waysFor_1 : decode cX7_waysFor 1 = .ok (.istore_n 3, 1) := by decide +kernel
theorem dX7_waysFor_2 : decode cX7_waysFor 2 = .ok (.iload_n 3, 1) := by decide +kernel
theorem dX7_waysFor_3 : decode cX7_waysFor 3 = .ok (.ldc 74, 2) := by decide +kernel
theorem dX7_waysFor_5 : decode cX7_waysFor 5 = .ok (.if_icmp .ge 16, 3) := by decide +kernel
theorem dX7_waysFor_8 : decode cX7_waysFor 8 = .ok (.aload_n 0, 1) := by decide +kernel
theorem dX7_waysFor_9 : decode cX7_waysFor 9 = .ok (.getfield 75, 3) := by decide +kernel
theorem dX7_waysFor_12 : decode cX7_waysFor 12 = .ok (.iload_n 3, 1) := by decide +kernel
theorem dX7_waysFor_13 : decode cX7_waysFor 13 = .ok (.lconst 0, 1) := by decide +kernel
theorem dX7_waysFor_14 : decode cX7_waysFor 14 = .ok (.lastore, 1) := by decide +kernel
theorem dX7_waysFor_15 : decode cX7_waysFor 15 = .ok (.iinc 3 1, 3) := by decide +kernel
theorem dX7_waysFor_18 : decode cX7_waysFor 18 = .ok (.goto (-16), 3) := by decide +kernel
theorem dX7_waysFor_21 : decode cX7_waysFor 21 = .ok (.aload_n 0, 1) := by decide +kernel
theorem dX7_waysFor_22 : decode cX7_waysFor 22 = .ok (.invokevirtual 239, 3) := by decide +kernel
theorem dX7_waysFor_25 : decode cX7_waysFor 25 = .ok (.aload_n 0, 1) := by decide +kernel
theorem dX7_waysFor_26 : decode cX7_waysFor 26 = .ok (.getfield 75, 3) := by decide +kernel
theorem dX7_waysFor_29 : decode cX7_waysFor 29 = .ok (.aload_n 0, 1) := by decide +kernel
theorem dX7_waysFor_30 : decode cX7_waysFor 30 = .ok (.invokevirtual 266, 3) := by decide +kernel
theorem dX7_waysFor_33 : decode cX7_waysFor 33 = .ok (.lconst 1, 1) := by decide +kernel
theorem dX7_waysFor_34 : decode cX7_waysFor 34 = .ok (.lastore, 1) := by decide +kernel
theorem dX7_waysFor_35 : decode cX7_waysFor 35 = .ok (.lconst 0, 1) := by decide +kernel
theorem dX7_waysFor_36 : decode cX7_waysFor 36 = .ok (.lstore_n 3, 1) := by decide +kernel
theorem dX7_waysFor_37 : decode cX7_waysFor 37 = .ok (.aload_n 0, 1) := by decide +kernel
theorem dX7_waysFor_38 : decode cX7_waysFor 38 = .ok (.iconst 1, 1) := by decide +kernel
theorem dX7_waysFor_39 : decode cX7_waysFor 39 = .ok (.putfield 203, 3) := by decide +kernel
theorem dX7_waysFor_42 : decode cX7_waysFor 42 = .ok (.iconst 0, 1) := by decide +kernel
theorem dX7_waysFor_43 : decode cX7_waysFor 43 = .ok (.istore 5, 2) := by decide +kernel
theorem dX7_waysFor_45 : decode cX7_waysFor 45 = .ok (.iload 5, 2) := by decide +kernel
theorem dX7_waysFor_47 : decode cX7_waysFor 47 = .ok (.iload_n 2, 1) := by decide +kernel
theorem dX7_waysFor_48 : decode cX7_waysFor 48 = .ok (.if_icmp .ge 249, 3) := by decide +kernel
theorem dX7_waysFor_51 : decode cX7_waysFor 51 = .ok (.aload_n 0, 1) := by decide +kernel
theorem dX7_waysFor_52 : decode cX7_waysFor 52 = .ok (.getfield 100, 3) := by decide +kernel
theorem dX7_waysFor_55 : decode cX7_waysFor 55 = .ok (.iload 5, 2) := by decide +kernel
theorem dX7_waysFor_57 : decode cX7_waysFor 57 = .ok (.iadd, 1) := by decide +kernel
theorem dX7_waysFor_58 : decode cX7_waysFor 58 = .ok (.istore 6, 2) := by decide +kernel
theorem dX7_waysFor_60 : decode cX7_waysFor 60 = .ok (.iconst 0, 1) := by decide +kernel
theorem dX7_waysFor_61 : decode cX7_waysFor 61 = .ok (.istore 7, 2) := by decide +kernel
theorem dX7_waysFor_63 : decode cX7_waysFor 63 = .ok (.iload 7, 2) := by decide +kernel
theorem dX7_waysFor_65 : decode cX7_waysFor 65 = .ok (.ldc 74, 2) := by decide +kernel
theorem dX7_waysFor_67 : decode cX7_waysFor 67 = .ok (.if_icmp .ge 17, 3) := by decide +kernel
theorem dX7_waysFor_70 : decode cX7_waysFor 70 = .ok (.aload_n 0, 1) := by decide +kernel
theorem dX7_waysFor_71 : decode cX7_waysFor 71 = .ok (.getfield 79, 3) := by decide +kernel
theorem dX7_waysFor_74 : decode cX7_waysFor 74 = .ok (.iload 7, 2) := by decide +kernel
theorem dX7_waysFor_76 : decode cX7_waysFor 76 = .ok (.lconst 0, 1) := by decide +kernel
theorem dX7_waysFor_77 : decode cX7_waysFor 77 = .ok (.lastore, 1) := by decide +kernel
theorem dX7_waysFor_78 : decode cX7_waysFor 78 = .ok (.iinc 7 1, 3) := by decide +kernel
theorem dX7_waysFor_81 : decode cX7_waysFor 81 = .ok (.goto (-18), 3) := by decide +kernel
theorem dX7_waysFor_84 : decode cX7_waysFor 84 = .ok (.iconst 0, 1) := by decide +kernel
theorem dX7_waysFor_85 : decode cX7_waysFor 85 = .ok (.istore 7, 2) := by decide +kernel
theorem dX7_waysFor_87 : decode cX7_waysFor 87 = .ok (.iload 7, 2) := by decide +kernel
theorem dX7_waysFor_89 : decode cX7_waysFor 89 = .ok (.ldc 74, 2) := by decide +kernel
theorem dX7_waysFor_91 : decode cX7_waysFor 91 = .ok (.if_icmp .ge 170, 3) := by decide +kernel
theorem dX7_waysFor_94 : decode cX7_waysFor 94 = .ok (.iload 6, 2) := by decide +kernel
theorem dX7_waysFor_96 : decode cX7_waysFor 96 = .ok (.bipush 32, 2) := by decide +kernel
theorem dX7_waysFor_98 : decode cX7_waysFor 98 = .ok (.if_icmp .ge 163, 3) := by decide +kernel
theorem dX7_waysFor_101 : decode cX7_waysFor 101 = .ok (.iconst 0, 1) := by decide +kernel
theorem dX7_waysFor_102 : decode cX7_waysFor 102 = .ok (.istore 8, 2) := by decide +kernel
theorem dX7_waysFor_104 : decode cX7_waysFor 104 = .ok (.iload 8, 2) := by decide +kernel
theorem dX7_waysFor_106 : decode cX7_waysFor 106 = .ok (.iconst 1, 1) := by decide +kernel
theorem dX7_waysFor_107 : decode cX7_waysFor 107 = .ok (.aload_n 0, 1) := by decide +kernel
theorem dX7_waysFor_108 : decode cX7_waysFor 108 = .ok (.invokevirtual 261, 3) := by decide +kernel
theorem dX7_waysFor_111 : decode cX7_waysFor 111 = .ok (.ishl, 1) := by decide +kernel
theorem dX7_waysFor_112 : decode cX7_waysFor 112 = .ok (.if_icmp .ge 143, 3) := by decide +kernel
theorem dX7_waysFor_115 : decode cX7_waysFor 115 = .ok (.aload_n 0, 1) := by decide +kernel
theorem dX7_waysFor_116 : decode cX7_waysFor 116 = .ok (.getfield 75, 3) := by decide +kernel
theorem dX7_waysFor_119 : decode cX7_waysFor 119 = .ok (.iload 7, 2) := by decide +kernel
theorem dX7_waysFor_121 : decode cX7_waysFor 121 = .ok (.laload, 1) := by decide +kernel
theorem dX7_waysFor_122 : decode cX7_waysFor 122 = .ok (.lconst 0, 1) := by decide +kernel
theorem dX7_waysFor_123 : decode cX7_waysFor 123 = .ok (.lcmp, 1) := by decide +kernel
theorem dX7_waysFor_124 : decode cX7_waysFor 124 = .ok (.ifCond .le 131, 3) := by decide +kernel
theorem dX7_waysFor_127 : decode cX7_waysFor 127 = .ok (.aload_n 0, 1) := by decide +kernel
theorem dX7_waysFor_128 : decode cX7_waysFor 128 = .ok (.getfield 75, 3) := by decide +kernel
theorem dX7_waysFor_131 : decode cX7_waysFor 131 = .ok (.iload 7, 2) := by decide +kernel
theorem dX7_waysFor_133 : decode cX7_waysFor 133 = .ok (.laload, 1) := by decide +kernel
theorem dX7_waysFor_134 : decode cX7_waysFor 134 = .ok (.iload 6, 2) := by decide +kernel
theorem dX7_waysFor_136 : decode cX7_waysFor 136 = .ok (.ifCond .ne 17, 3) := by decide +kernel
theorem dX7_waysFor_139 : decode cX7_waysFor 139 = .ok (.iload 8, 2) := by decide +kernel
theorem dX7_waysFor_141 : decode cX7_waysFor 141 = .ok (.ifCond .ne 8, 3) := by decide +kernel
theorem dX7_waysFor_144 : decode cX7_waysFor 144 = .ok (.bipush 16, 2) := by decide +kernel
theorem dX7_waysFor_146 : decode cX7_waysFor 146 = .ok (.goto 13, 3) := by decide +kernel
theorem dX7_waysFor_149 : decode cX7_waysFor 149 = .ok (.iconst 0, 1) := by decide +kernel
theorem dX7_waysFor_150 : decode cX7_waysFor 150 = .ok (.goto 9, 3) := by decide +kernel
theorem dX7_waysFor_153 : decode cX7_waysFor 153 = .ok (.aload_n 0, 1) := by decide +kernel
theorem dX7_waysFor_154 : decode cX7_waysFor 154 = .ok (.iload 8, 2) := by decide +kernel
theorem dX7_waysFor_156 : decode cX7_waysFor 156 = .ok (.invokevirtual 269, 3) := by decide +kernel
theorem dX7_waysFor_159 : decode cX7_waysFor 159 = .ok (.i2l, 1) := by decide +kernel
theorem dX7_waysFor_160 : decode cX7_waysFor 160 = .ok (.lmul, 1) := by decide +kernel
theorem dX7_waysFor_161 : decode cX7_waysFor 161 = .ok (.lstore 9, 2) := by decide +kernel
theorem dX7_waysFor_163 : decode cX7_waysFor 163 = .ok (.lload 9, 2) := by decide +kernel
theorem dX7_waysFor_165 : decode cX7_waysFor 165 = .ok (.lconst 0, 1) := by decide +kernel
theorem dX7_waysFor_166 : decode cX7_waysFor 166 = .ok (.lcmp, 1) := by decide +kernel
theorem dX7_waysFor_167 : decode cX7_waysFor 167 = .ok (.ifCond .le 82, 3) := by decide +kernel
theorem dX7_waysFor_170 : decode cX7_waysFor 170 = .ok (.aload_n 0, 1) := by decide +kernel
theorem dX7_waysFor_171 : decode cX7_waysFor 171 = .ok (.iload 7, 2) := by decide +kernel
theorem dX7_waysFor_173 : decode cX7_waysFor 173 = .ok (.invokevirtual 272, 3) := by decide +kernel
theorem dX7_waysFor_176 : decode cX7_waysFor 176 = .ok (.aload_n 0, 1) := by decide +kernel
theorem dX7_waysFor_177 : decode cX7_waysFor 177 = .ok (.iload 8, 2) := by decide +kernel
theorem dX7_waysFor_179 : decode cX7_waysFor 179 = .ok (.putfield 207, 3) := by decide +kernel
theorem dX7_waysFor_182 : decode cX7_waysFor 182 = .ok (.aload_n 0, 1) := by decide +kernel
theorem dX7_waysFor_183 : decode cX7_waysFor 183 = .ok (.iload 6, 2) := by decide +kernel
theorem dX7_waysFor_185 : decode cX7_waysFor 185 = .ok (.iload 6, 2) := by decide +kernel
theorem dX7_waysFor_187 : decode cX7_waysFor 187 = .ok (.ifCond .ne 7, 3) := by decide +kernel
theorem dX7_waysFor_190 : decode cX7_waysFor 190 = .ok (.iconst 1, 1) := by decide +kernel
theorem dX7_waysFor_191 : decode cX7_waysFor 191 = .ok (.goto 4, 3) := by decide +kernel
theorem dX7_waysFor_194 : decode cX7_waysFor 194 = .ok (.iconst 0, 1) := by decide +kernel
theorem dX7_waysFor_195 : decode cX7_waysFor 195 = .ok (.invokevirtual 242, 3) := by decide +kernel
theorem dX7_waysFor_198 : decode cX7_waysFor 198 = .ok (.aload_n 0, 1) := by decide +kernel
theorem dX7_waysFor_199 : decode cX7_waysFor 199 = .ok (.iload 6, 2) := by decide +kernel
theorem dX7_waysFor_201 : decode cX7_waysFor 201 = .ok (.invokevirtual 246, 3) := by decide +kernel
theorem dX7_waysFor_204 : decode cX7_waysFor 204 = .ok (.istore 11, 2) := by decide +kernel
theorem dX7_waysFor_206 : decode cX7_waysFor 206 = .ok (.iload 11, 2) := by decide +kernel
theorem dX7_waysFor_208 : decode cX7_waysFor 208 = .ok (.ifCond .ge 17, 3) := by decide +kernel
theorem dX7_waysFor_211 : decode cX7_waysFor 211 = .ok (.aload_n 0, 1) := by decide +kernel
theorem dX7_waysFor_212 : decode cX7_waysFor 212 = .ok (.getfield 79, 3) := by decide +kernel
theorem dX7_waysFor_215 : decode cX7_waysFor 215 = .ok (.aload_n 0, 1) := by decide +kernel
theorem dX7_waysFor_216 : decode cX7_waysFor 216 = .ok (.invokevirtual 266, 3) := by decide +kernel
theorem dX7_waysFor_219 : decode cX7_waysFor 219 = .ok (.dup2, 1) := by decide +kernel
theorem dX7_waysFor_220 : decode cX7_waysFor 220 = .ok (.laload, 1) := by decide +kernel
theorem dX7_waysFor_221 : decode cX7_waysFor 221 = .ok (.lload 9, 2) := by decide +kernel
theorem dX7_waysFor_223 : decode cX7_waysFor 223 = .ok (.ladd, 1) := by decide +kernel
theorem dX7_waysFor_224 : decode cX7_waysFor 224 = .ok (.lastore, 1) := by decide +kernel
theorem dX7_waysFor_225 : decode cX7_waysFor 225 = .ok (.lload_n 3, 1) := by decide +kernel
theorem dX7_waysFor_226 : decode cX7_waysFor 226 = .ok (.iload 11, 2) := by decide +kernel
theorem dX7_waysFor_228 : decode cX7_waysFor 228 = .ok (.iload_n 1, 1) := by decide +kernel
theorem dX7_waysFor_229 : decode cX7_waysFor 229 = .ok (.if_icmp .ne 17, 3) := by decide +kernel
theorem dX7_waysFor_232 : decode cX7_waysFor 232 = .ok (.lload 9, 2) := by decide +kernel
theorem dX7_waysFor_234 : decode cX7_waysFor 234 = .ok (.iconst 4, 1) := by decide +kernel
theorem dX7_waysFor_235 : decode cX7_waysFor 235 = .ok (.iload_n 2, 1) := by decide +kernel
theorem dX7_waysFor_236 : decode cX7_waysFor 236 = .ok (.iload 5, 2) := by decide +kernel
theorem dX7_waysFor_238 : decode cX7_waysFor 238 = .ok (.isub, 1) := by decide +kernel
theorem dX7_waysFor_239 : decode cX7_waysFor 239 = .ok (.iconst 1, 1) := by decide +kernel
theorem dX7_waysFor_240 : decode cX7_waysFor 240 = .ok (.isub, 1) := by decide +kernel
theorem dX7_waysFor_241 : decode cX7_waysFor 241 = .ok (.imul, 1) := by decide +kernel
theorem dX7_waysFor_242 : decode cX7_waysFor 242 = .ok (.lshl, 1) := by decide +kernel
theorem dX7_waysFor_243 : decode cX7_waysFor 243 = .ok (.goto 4, 3) := by decide +kernel
theorem dX7_waysFor_246 : decode cX7_waysFor 246 = .ok (.lconst 0, 1) := by decide +kernel
theorem dX7_waysFor_247 : decode cX7_waysFor 247 = .ok (.ladd, 1) := by decide +kernel
theorem dX7_waysFor_248 : decode cX7_waysFor 248 = .ok (.lstore_n 3, 1) := by decide +kernel
theorem dX7_waysFor_249 : decode cX7_waysFor 249 = .ok (.iinc 8 1, 3) := by decide +kernel
theorem dX7_waysFor_252 : decode cX7_waysFor 252 = .ok (.goto (-148), 3) := by decide +kernel
theorem dX7_waysFor_255 : decode cX7_waysFor 255 = .ok (.iinc 7 1, 3) := by decide +kernel
theorem dX7_waysFor_258 : decode cX7_waysFor 258 = .ok (.goto (-171), 3) := by decide +kernel
theorem dX7_waysFor_261 : decode cX7_waysFor 261 = .ok (.iconst 0, 1) := by decide +kernel
theorem dX7_waysFor_262 : decode cX7_waysFor 262 = .ok (.istore 7, 2) := by decide +kernel
theorem dX7_waysFor_264 : decode cX7_waysFor 264 = .ok (.iload 7, 2) := by decide +kernel
theorem dX7_waysFor_266 : decode cX7_waysFor 266 = .ok (.ldc 74, 2) := by decide +kernel
theorem dX7_waysFor_268 : decode cX7_waysFor 268 = .ok (.if_icmp .ge 23, 3) := by decide +kernel
theorem dX7_waysFor_271 : decode cX7_waysFor 271 = .ok (.aload_n 0, 1) := by decide +kernel
theorem dX7_waysFor_272 : decode cX7_waysFor 272 = .ok (.getfield 75, 3) := by decide +kernel
theorem dX7_waysFor_275 : decode cX7_waysFor 275 = .ok (.iload 7, 2) := by decide +kernel
theorem dX7_waysFor_277 : decode cX7_waysFor 277 = .ok (.aload_n 0, 1) := by decide +kernel
theorem dX7_waysFor_278 : decode cX7_waysFor 278 = .ok (.getfield 79, 3) := by decide +kernel
theorem dX7_waysFor_281 : decode cX7_waysFor 281 = .ok (.iload 7, 2) := by decide +kernel
theorem dX7_waysFor_283 : decode cX7_waysFor 283 = .ok (.laload, 1) := by decide +kernel
theorem dX7_waysFor_284 : decode cX7_waysFor 284 = .ok (.lastore, 1) := by decide +kernel
theorem dX7_waysFor_285 : decode cX7_waysFor 285 = .ok (.iinc 7 1, 3) := by decide +kernel
theorem dX7_waysFor_288 : decode cX7_waysFor 288 = .ok (.goto (-24), 3) := by decide +kernel
theorem dX7_waysFor_291 : decode cX7_waysFor 291 = .ok (.iinc 5 1, 3) := by decide +kernel
theorem dX7_waysFor_294 : decode cX7_waysFor 294 = .ok (.goto (-249), 3) := by decide +kernel
theorem dX7_waysFor_297 : decode cX7_waysFor 297 = .ok (.aload_n 0, 1) := by decide +kernel
theorem dX7_waysFor_298 : decode cX7_waysFor 298 = .ok (.iconst 0, 1) := by decide +kernel
theorem dX7_waysFor_299 : decode cX7_waysFor 299 = .ok (.putfield 203, 3) := by decide +kernel
theorem dX7_waysFor_302 : decode cX7_waysFor 302 = .ok (.lload_n 3, 1) := by decide +kernel
theorem dX7_waysFor_303 : decode cX7_waysFor 303 = .ok (.lreturn, 1) := by decide +kernel
theorem dX7_chance_0 : decode cX7_chance 0 = .ok (.iload_n 1, 1) := by decide +kernel
theorem dX7_chance_1 : decode cX7_chance 1 = .ok (.invokestatic 188, 3) := by decide +kernel
theorem dX7_chance_4 : decode cX7_chance 4 = .ok (.ifCond .eq 25, 3) := by decide +kernel
theorem dX7_chance_7 : decode cX7_chance 7 = .ok (.iload_n 2, 1) := by decide +kernel
theorem dX7_chance_8 : decode cX7_chance 8 = .ok (.i2l, 1) := by decide +kernel
theorem dX7_chance_9 : decode cX7_chance 9 = .ok (.lconst 1, 1) := by decide +kernel
theorem dX7_chance_10 : decode cX7_chance 10 = .ok (.ldc2_w 182, 3) := by decide +kernel
theorem dX7_chance_13 : decode cX7_chance 13 = .ok (.invokestatic 118, 3) := by decide +kernel
theorem dX7_chance_16 : decode cX7_chance 16 = .ok (.ifCond .eq 13, 3) := by decide +kernel
theorem dX7_chance_19 : decode cX7_chance 19 = .ok (.iload_n 3, 1) := by decide +kernel
theorem dX7_chance_20 : decode cX7_chance 20 = .ok (.i2l, 1) := by decide +kernel
theorem dX7_chance_21 : decode cX7_chance 21 = .ok (.lconst 0, 1) := by decide +kernel
theorem dX7_chance_22 : decode cX7_chance 22 = .ok (.lconst 1, 1) := by decide +kernel
theorem dX7_chance_23 : decode cX7_chance 23 = .ok (.invokestatic 118, 3) := by decide +kernel
theorem dX7_chance_26 : decode cX7_chance 26 = .ok (.ifCond .ne 7, 3) := by decide +kernel
theorem dX7_chance_29 : decode cX7_chance 29 = .ok (.ldc2_w 264, 3) := by decide +kernel
theorem dX7_chance_32 : decode cX7_chance 32 = .ok (.lreturn, 1) := by decide +kernel
theorem dX7_chance_33 : decode cX7_chance 33 = .ok (.aload_n 0, 1) := by decide +kernel
theorem dX7_chance_34 : decode cX7_chance 34 = .ok (.getfield 109, 3) := by decide +kernel
theorem dX7_chance_37 : decode cX7_chance 37 = .ok (.ifCond .ne 7, 3) := by decide +kernel
theorem dX7_chance_40 : decode cX7_chance 40 = .ok (.ldc2_w 276, 3) := by decide +kernel
theorem dX7_chance_43 : decode cX7_chance 43 = .ok (.lreturn, 1) := by decide +kernel
theorem dX7_chance_44 : decode cX7_chance 44 = .ok (.aload_n 0, 1) := by decide +kernel
theorem dX7_chance_45 : decode cX7_chance 45 = .ok (.getfield 106, 3) := by decide +kernel
theorem dX7_chance_48 : decode cX7_chance 48 = .ok (.ifCond .lt 25, 3) := by decide +kernel
theorem dX7_chance_51 : decode cX7_chance 51 = .ok (.iload_n 3, 1) := by decide +kernel
theorem dX7_chance_52 : decode cX7_chance 52 = .ok (.ifCond .ne 19, 3) := by decide +kernel
theorem dX7_chance_55 : decode cX7_chance 55 = .ok (.aload_n 0, 1) := by decide +kernel
theorem dX7_chance_56 : decode cX7_chance 56 = .ok (.getfield 106, 3) := by decide +kernel
theorem dX7_chance_59 : decode cX7_chance 59 = .ok (.iload_n 1, 1) := by decide +kernel
theorem dX7_chance_60 : decode cX7_chance 60 = .ok (.if_icmp .ne 7, 3) := by decide +kernel
theorem dX7_chance_63 : decode cX7_chance 63 = .ok (.lconst 1, 1) := by decide +kernel
theorem dX7_chance_64 : decode cX7_chance 64 = .ok (.goto 8, 3) := by decide +kernel
theorem dX7_chance_67 : decode cX7_chance 67 = .ok (.lconst 0, 1) := by decide +kernel
theorem dX7_chance_68 : decode cX7_chance 68 = .ok (.goto 4, 3) := by decide +kernel
theorem dX7_chance_71 : decode cX7_chance 71 = .ok (.lconst 1, 1) := by decide +kernel
theorem dX7_chance_72 : decode cX7_chance 72 = .ok (.lreturn, 1) := by decide +kernel
theorem dX7_chance_73 : decode cX7_chance 73 = .ok (.aload_n 0, 1) := by decide +kernel
theorem dX7_chance_74 : decode cX7_chance 74 = .ok (.iload_n 1, 1) := by decide +kernel
theorem dX7_chance_75 : decode cX7_chance 75 = .ok (.iload_n 2, 1) := by decide +kernel
theorem dX7_chance_76 : decode cX7_chance 76 = .ok (.invokevirtual 278, 3) := by decide +kernel
theorem dX7_chance_79 : decode cX7_chance 79 = .ok (.lstore 4, 2) := by decide +kernel
theorem dX7_chance_81 : decode cX7_chance 81 = .ok (.lconst 1, 1) := by decide +kernel
theorem dX7_chance_82 : decode cX7_chance 82 = .ok (.iconst 4, 1) := by decide +kernel
theorem dX7_chance_83 : decode cX7_chance 83 = .ok (.iload_n 2, 1) := by decide +kernel
theorem dX7_chance_84 : decode cX7_chance 84 = .ok (.imul, 1) := by decide +kernel
theorem dX7_chance_85 : decode cX7_chance 85 = .ok (.lshl, 1) := by decide +kernel
theorem dX7_chance_86 : decode cX7_chance 86 = .ok (.lstore 6, 2) := by decide +kernel
theorem dX7_chance_88 : decode cX7_chance 88 = .ok (.lload 4, 2) := by decide +kernel
theorem dX7_chance_90 : decode cX7_chance 90 = .ok (.lload 6, 2) := by decide +kernel
theorem dX7_chance_92 : decode cX7_chance 92 = .ok (.invokestatic 282, 3) := by decide +kernel
theorem dX7_chance_95 : decode cX7_chance 95 = .ok (.lstore 8, 2) := by decide +kernel
theorem dX7_chance_97 : decode cX7_chance 97 = .ok (.iload_n 3, 1) := by decide +kernel
theorem dX7_chance_98 : decode cX7_chance 98 = .ok (.ifCond .ne 11, 3) := by decide +kernel
theorem dX7_chance_101 : decode cX7_chance 101 = .ok (.lload 4, 2) := by decide +kernel
theorem dX7_chance_103 : decode cX7_chance 103 = .ok (.lload 8, 2) := by decide +kernel
theorem dX7_chance_105 : decode cX7_chance 105 = .ok (.ldiv, 1) := by decide +kernel
theorem dX7_chance_106 : decode cX7_chance 106 = .ok (.goto 8, 3) := by decide +kernel
theorem dX7_chance_109 : decode cX7_chance 109 = .ok (.lload 6, 2) := by decide +kernel
theorem dX7_chance_111 : decode cX7_chance 111 = .ok (.lload 8, 2) := by decide +kernel
theorem dX7_chance_113 : decode cX7_chance 113 = .ok (.ldiv, 1) := by decide +kernel
theorem dX7_chance_114 : decode cX7_chance 114 = .ok (.lreturn, 1) := by decide +kernel
theorem dX7_membersOf_0 : decode cX7_membersOf 0 = .ok (.iconst 0, 1) := by decide +kernel
theorem dX7_membersOf_1 : decode cX7_membersOf 1 = .ok (.istore_n 2, 1) := by decide +kernel
theorem dX7_membersOf_2 : decode cX7_membersOf 2 = .ok (.iconst 0, 1) := by decide +kernel
theorem dX7_membersOf_3 : decode cX7_membersOf 3 = .ok (.istore_n 3, 1) := by decide +kernel
theorem dX7_membersOf_4 : decode cX7_membersOf 4 = .ok (.iload_n 3, 1) := by decide +kernel
theorem dX7_membersOf_5 : decode cX7_membersOf 5 = .ok (.aload_n 0, 1) := by decide +kernel
theorem dX7_membersOf_6 : decode cX7_membersOf 6 = .ok (.getfield 109, 3) := by decide +kernel
theorem dX7_membersOf_9 : decode cX7_membersOf 9 = .ok (.if_icmp .ge 24, 3) := by decide +kernel
theorem dX7_membersOf_12 : decode cX7_membersOf 12 = .ok (.iload_n 2, 1) := by decide +kernel
theorem dX7_membersOf_13 : decode cX7_membersOf 13 = .ok (.iload_n 1, 1) := by decide +kernel
theorem dX7_membersOf_14 : decode cX7_membersOf 14 = .ok (.iload_n 3, 1) := by decide +kernel
theorem dX7_membersOf_15 : decode cX7_membersOf 15 = .ok (.ishr, 1) := by decide +kernel
theorem dX7_membersOf_16 : decode cX7_membersOf 16 = .ok (.iconst 1, 1) := by decide +kernel
theorem dX7_membersOf_17 : decode cX7_membersOf 17 = .ok (.iand, 1) := by decide +kernel
theorem dX7_membersOf_18 : decode cX7_membersOf 18 = .ok (.aload_n 0, 1) := by decide +kernel
theorem dX7_membersOf_19 : decode cX7_membersOf 19 = .ok (.getfield 7, 3) := by decide +kernel
theorem dX7_membersOf_22 : decode cX7_membersOf 22 = .ok (.iload_n 3, 1) := by decide +kernel
theorem dX7_membersOf_23 : decode cX7_membersOf 23 = .ok (.iaload, 1) := by decide +kernel
theorem dX7_membersOf_24 : decode cX7_membersOf 24 = .ok (.imul, 1) := by decide +kernel
theorem dX7_membersOf_25 : decode cX7_membersOf 25 = .ok (.iadd, 1) := by decide +kernel
theorem dX7_membersOf_26 : decode cX7_membersOf 26 = .ok (.istore_n 2, 1) := by decide +kernel
theorem dX7_membersOf_27 : decode cX7_membersOf 27 = .ok (.iinc 3 1, 3) := by decide +kernel
theorem dX7_membersOf_30 : decode cX7_membersOf 30 = .ok (.goto (-26), 3) := by decide +kernel
theorem dX7_membersOf_33 : decode cX7_membersOf 33 = .ok (.iload_n 2, 1) := by decide +kernel
theorem dX7_membersOf_34 : decode cX7_membersOf 34 = .ok (.ireturn, 1) := by decide +kernel
theorem dX7_bearers_0 : decode cX7_bearers 0 = .ok (.iconst 0, 1) := by decide +kernel
theorem dX7_bearers_1 : decode cX7_bearers 1 = .ok (.istore_n 2, 1) := by decide +kernel
theorem dX7_bearers_2 : decode cX7_bearers 2 = .ok (.iconst 0, 1) := by decide +kernel
theorem dX7_bearers_3 : decode cX7_bearers 3 = .ok (.istore_n 3, 1) := by decide +kernel
theorem dX7_bearers_4 : decode cX7_bearers 4 = .ok (.iload_n 3, 1) := by decide +kernel
theorem dX7_bearers_5 : decode cX7_bearers 5 = .ok (.aload_n 0, 1) := by decide +kernel
theorem dX7_bearers_6 : decode cX7_bearers 6 = .ok (.getfield 109, 3) := by decide +kernel
theorem dX7_bearers_9 : decode cX7_bearers 9 = .ok (.if_icmp .ge 28, 3) := by decide +kernel
theorem dX7_bearers_12 : decode cX7_bearers 12 = .ok (.iload_n 2, 1) := by decide +kernel
theorem dX7_bearers_13 : decode cX7_bearers 13 = .ok (.aload_n 0, 1) := by decide +kernel
theorem dX7_bearers_14 : decode cX7_bearers 14 = .ok (.iload_n 3, 1) := by decide +kernel
theorem dX7_bearers_15 : decode cX7_bearers 15 = .ok (.iload_n 1, 1) := by decide +kernel
theorem dX7_bearers_16 : decode cX7_bearers 16 = .ok (.invokevirtual 200, 3) := by decide +kernel
theorem dX7_bearers_19 : decode cX7_bearers 19 = .ok (.ifCond .lt 9, 3) := by decide +kernel
theorem dX7_bearers_22 : decode cX7_bearers 22 = .ok (.iconst 1, 1) := by decide +kernel
theorem dX7_bearers_23 : decode cX7_bearers 23 = .ok (.iload_n 3, 1) := by decide +kernel
theorem dX7_bearers_24 : decode cX7_bearers 24 = .ok (.ishl, 1) := by decide +kernel
theorem dX7_bearers_25 : decode cX7_bearers 25 = .ok (.goto 4, 3) := by decide +kernel
theorem dX7_bearers_28 : decode cX7_bearers 28 = .ok (.iconst 0, 1) := by decide +kernel
theorem dX7_bearers_29 : decode cX7_bearers 29 = .ok (.ior, 1) := by decide +kernel
theorem dX7_bearers_30 : decode cX7_bearers 30 = .ok (.istore_n 2, 1) := by decide +kernel
theorem dX7_bearers_31 : decode cX7_bearers 31 = .ok (.iinc 3 1, 3) := by decide +kernel
theorem dX7_bearers_34 : decode cX7_bearers 34 = .ok (.goto (-30), 3) := by decide +kernel
theorem dX7_bearers_37 : decode cX7_bearers 37 = .ok (.iload_n 2, 1) := by decide +kernel
theorem dX7_bearers_38 : decode cX7_bearers 38 = .ok (.ireturn, 1) := by decide +kernel
theorem dX7_lacksFor_0 : decode cX7_lacksFor 0 = .ok (.iload_n 1, 1) := by decide +kernel
theorem dX7_lacksFor_1 : decode cX7_lacksFor 1 = .ok (.invokestatic 188, 3) := by decide +kernel
theorem dX7_lacksFor_4 : decode cX7_lacksFor 4 = .ok (.ifCond .eq 10, 3) := by decide +kernel
theorem dX7_lacksFor_7 : decode cX7_lacksFor 7 = .ok (.iload_n 2, 1) := by decide +kernel
theorem dX7_lacksFor_8 : decode cX7_lacksFor 8 = .ok (.invokestatic 179, 3) := by decide +kernel
theorem dX7_lacksFor_11 : decode cX7_lacksFor 11 = .ok (.ifCond .ne 7, 3) := by decide +kernel
theorem dX7_lacksFor_14 : decode cX7_lacksFor 14 = .ok (.iconst (-1), 1) := by decide +kernel
theorem dX7_lacksFor_15 : decode cX7_lacksFor 15 = .ok (.goto 38, 3) := by decide +kernel
theorem dX7_lacksFor_18 : decode cX7_lacksFor 18 = .ok (.aload_n 0, 1) := by decide +kernel
theorem dX7_lacksFor_19 : decode cX7_lacksFor 19 = .ok (.getfield 109, 3) := by decide +kernel
theorem dX7_lacksFor_22 : decode cX7_lacksFor 22 = .ok (.ifCond .ne 8, 3) := by decide +kernel
theorem dX7_lacksFor_25 : decode cX7_lacksFor 25 = .ok (.bipush (-2), 2) := by decide +kernel
theorem dX7_lacksFor_27 : decode cX7_lacksFor 27 = .ok (.goto 26, 3) := by decide +kernel
theorem dX7_lacksFor_30 : decode cX7_lacksFor 30 = .ok (.aload_n 0, 1) := by decide +kernel
theorem dX7_lacksFor_31 : decode cX7_lacksFor 31 = .ok (.aload_n 0, 1) := by decide +kernel
theorem dX7_lacksFor_32 : decode cX7_lacksFor 32 = .ok (.iload_n 1, 1) := by decide +kernel
theorem dX7_lacksFor_33 : decode cX7_lacksFor 33 = .ok (.invokevirtual 286, 3) := by decide +kernel
theorem dX7_lacksFor_36 : decode cX7_lacksFor 36 = .ok (.invokevirtual 289, 3) := by decide +kernel
theorem dX7_lacksFor_39 : decode cX7_lacksFor 39 = .ok (.aload_n 0, 1) := by decide +kernel
theorem dX7_lacksFor_40 : decode cX7_lacksFor 40 = .ok (.iload_n 2, 1) := by decide +kernel
theorem dX7_lacksFor_41 : decode cX7_lacksFor 41 = .ok (.invokevirtual 184, 3) := by decide +kernel
theorem dX7_lacksFor_44 : decode cX7_lacksFor 44 = .ok (.if_icmp .ge 8, 3) := by decide +kernel
theorem dX7_lacksFor_47 : decode cX7_lacksFor 47 = .ok (.bipush (-4), 2) := by decide +kernel
theorem dX7_lacksFor_49 : decode cX7_lacksFor 49 = .ok (.goto 4, 3) := by decide +kernel
theorem dX7_lacksFor_52 : decode cX7_lacksFor 52 = .ok (.iconst 0, 1) := by decide +kernel
theorem dX7_lacksFor_53 : decode cX7_lacksFor 53 = .ok (.ireturn, 1) := by decide +kernel
theorem dX7_can_0 : decode cX7_can 0 = .ok (.aload_n 0, 1) := by decide +kernel
theorem dX7_can_1 : decode cX7_can 1 = .ok (.iload_n 1, 1) := by decide +kernel
theorem dX7_can_2 : decode cX7_can 2 = .ok (.iload_n 2, 1) := by decide +kernel
theorem dX7_can_3 : decode cX7_can 3 = .ok (.invokevirtual 292, 3) := by decide +kernel
theorem dX7_can_6 : decode cX7_can 6 = .ok (.istore_n 3, 1) := by decide +kernel
theorem dX7_can_7 : decode cX7_can 7 = .ok (.iload_n 3, 1) := by decide +kernel
theorem dX7_can_8 : decode cX7_can 8 = .ok (.ifCond .ge 7, 3) := by decide +kernel
theorem dX7_can_11 : decode cX7_can 11 = .ok (.iload_n 3, 1) := by decide +kernel
theorem dX7_can_12 : decode cX7_can 12 = .ok (.goto 8, 3) := by decide +kernel
theorem dX7_can_15 : decode cX7_can 15 = .ok (.aload_n 0, 1) := by decide +kernel
theorem dX7_can_16 : decode cX7_can 16 = .ok (.iload_n 1, 1) := by decide +kernel
theorem dX7_can_17 : decode cX7_can 17 = .ok (.invokevirtual 286, 3) := by decide +kernel
theorem dX7_can_20 : decode cX7_can 20 = .ok (.ireturn, 1) := by decide +kernel
theorem dX7_fewest_0 : decode cX7_fewest 0 = .ok (.iload_n 1, 1) := by decide +kernel
theorem dX7_fewest_1 : decode cX7_fewest 1 = .ok (.istore_n 3, 1) := by decide +kernel
theorem dX7_fewest_2 : decode cX7_fewest 2 = .ok (.iconst 0, 1) := by decide +kernel
theorem dX7_fewest_3 : decode cX7_fewest 3 = .ok (.istore 4, 2) := by decide +kernel
theorem dX7_fewest_5 : decode cX7_fewest 5 = .ok (.iload 4, 2) := by decide +kernel
theorem dX7_fewest_7 : decode cX7_fewest 7 = .ok (.iconst 1, 1) := by decide +kernel
theorem dX7_fewest_8 : decode cX7_fewest 8 = .ok (.aload_n 0, 1) := by decide +kernel
theorem dX7_fewest_9 : decode cX7_fewest 9 = .ok (.getfield 109, 3) := by decide +kernel
theorem dX7_fewest_12 : decode cX7_fewest 12 = .ok (.ishl, 1) := by decide +kernel
theorem dX7_fewest_13 : decode cX7_fewest 13 = .ok (.if_icmp .ge 65, 3) := by decide +kernel
theorem dX7_fewest_16 : decode cX7_fewest 16 = .ok (.iload 4, 2) := by decide +kernel
theorem dX7_fewest_18 : decode cX7_fewest 18 = .ok (.iload_n 1, 1) := by decide +kernel
theorem dX7_fewest_19 : decode cX7_fewest 19 = .ok (.iconst (-1), 1) := by decide +kernel
theorem dX7_fewest_20 : decode cX7_fewest 20 = .ok (.ixor, 1) := by decide +kernel
theorem dX7_fewest_21 : decode cX7_fewest 21 = .ok (.iand, 1) := by decide +kernel
theorem dX7_fewest_22 : decode cX7_fewest 22 = .ok (.ifCond .ne 50, 3) := by decide +kernel
theorem dX7_fewest_25 : decode cX7_fewest 25 = .ok (.aload_n 0, 1) := by decide +kernel
theorem dX7_fewest_26 : decode cX7_fewest 26 = .ok (.iload 4, 2) := by decide +kernel
theorem dX7_fewest_28 : decode cX7_fewest 28 = .ok (.invokevirtual 289, 3) := by decide +kernel
theorem dX7_fewest_31 : decode cX7_fewest 31 = .ok (.iload_n 2, 1) := by decide +kernel
theorem dX7_fewest_32 : decode cX7_fewest 32 = .ok (.if_icmp .lt 40, 3) := by decide +kernel
theorem dX7_fewest_35 : decode cX7_fewest 35 = .ok (.aload_n 0, 1) := by decide +kernel
theorem dX7_fewest_36 : decode cX7_fewest 36 = .ok (.iload 4, 2) := by decide +kernel
theorem dX7_fewest_38 : decode cX7_fewest 38 = .ok (.invokevirtual 289, 3) := by decide +kernel
theorem dX7_fewest_41 : decode cX7_fewest 41 = .ok (.aload_n 0, 1) := by decide +kernel
theorem dX7_fewest_42 : decode cX7_fewest 42 = .ok (.iload_n 3, 1) := by decide +kernel
theorem dX7_fewest_43 : decode cX7_fewest 43 = .ok (.invokevirtual 289, 3) := by decide +kernel
theorem dX7_fewest_46 : decode cX7_fewest 46 = .ok (.isub, 1) := by decide +kernel
theorem dX7_fewest_47 : decode cX7_fewest 47 = .ok (.istore 5, 2) := by decide +kernel
theorem dX7_fewest_49 : decode cX7_fewest 49 = .ok (.iload 5, 2) := by decide +kernel
theorem dX7_fewest_51 : decode cX7_fewest 51 = .ok (.ifCond .lt 14, 3) := by decide +kernel
theorem dX7_fewest_54 : decode cX7_fewest 54 = .ok (.iload 5, 2) := by decide +kernel
theorem dX7_fewest_56 : decode cX7_fewest 56 = .ok (.ifCond .ne 14, 3) := by decide +kernel
theorem dX7_fewest_59 : decode cX7_fewest 59 = .ok (.iload 4, 2) := by decide +kernel
theorem dX7_fewest_61 : decode cX7_fewest 61 = .ok (.iload_n 3, 1) := by decide +kernel
theorem dX7_fewest_62 : decode cX7_fewest 62 = .ok (.if_icmp .ge 8, 3) := by decide +kernel
theorem dX7_fewest_65 : decode cX7_fewest 65 = .ok (.iload 4, 2) := by decide +kernel
theorem dX7_fewest_67 : decode cX7_fewest 67 = .ok (.goto 4, 3) := by decide +kernel

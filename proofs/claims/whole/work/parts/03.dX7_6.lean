theorem dX7_image_6 : decode cX7_image 6 = .ok (.getfield 85, 3) := by decide +kernel
theorem dX7_image_9 : decode cX7_image 9 = .ok (.iconst 0, 1) := by decide +kernel
theorem dX7_image_10 : decode cX7_image 10 = .ok (.aload_n 0, 1) := by decide +kernel
theorem dX7_image_11 : decode cX7_image 11 = .ok (.getfield 109, 3) := by decide +kernel
theorem dX7_image_14 : decode cX7_image 14 = .ok (.iastore, 1) := by decide +kernel
theorem dX7_image_15 : decode cX7_image 15 = .ok (.aload_n 0, 1) := by decide +kernel
theorem dX7_image_16 : decode cX7_image 16 = .ok (.getfield 85, 3) := by decide +kernel
theorem dX7_image_19 : decode cX7_image 19 = .ok (.iconst 1, 1) := by decide +kernel
theorem dX7_image_20 : decode cX7_image 20 = .ok (.aload_n 0, 1) := by decide +kernel
theorem dX7_image_21 : decode cX7_image 21 = .ok (.getfield 100, 3) := by decide +kernel
theorem dX7_image_24 : decode cX7_image 24 = .ok (.iastore, 1) := by decide +kernel
theorem dX7_image_25 : decode cX7_image 25 = .ok (.aload_n 0, 1) := by decide +kernel
theorem dX7_image_26 : decode cX7_image 26 = .ok (.getfield 85, 3) := by decide +kernel
theorem dX7_image_29 : decode cX7_image 29 = .ok (.iconst 2, 1) := by decide +kernel
theorem dX7_image_30 : decode cX7_image 30 = .ok (.aload_n 0, 1) := by decide +kernel
theorem dX7_image_31 : decode cX7_image 31 = .ok (.getfield 103, 3) := by decide +kernel
theorem dX7_image_34 : decode cX7_image 34 = .ok (.iastore, 1) := by decide +kernel
theorem dX7_image_35 : decode cX7_image 35 = .ok (.aload_n 0, 1) := by decide +kernel
theorem dX7_image_36 : decode cX7_image 36 = .ok (.getfield 85, 3) := by decide +kernel
theorem dX7_image_39 : decode cX7_image 39 = .ok (.iconst 3, 1) := by decide +kernel
theorem dX7_image_40 : decode cX7_image 40 = .ok (.aload_n 0, 1) := by decide +kernel
theorem dX7_image_41 : decode cX7_image 41 = .ok (.getfield 106, 3) := by decide +kernel
theorem dX7_image_44 : decode cX7_image 44 = .ok (.iastore, 1) := by decide +kernel
theorem dX7_image_45 : decode cX7_image 45 = .ok (.aload_n 0, 1) := by decide +kernel
theorem dX7_image_46 : decode cX7_image 46 = .ok (.aload_n 0, 1) := by decide +kernel
theorem dX7_image_47 : decode cX7_image 47 = .ok (.getfield 85, 3) := by decide +kernel
theorem dX7_image_50 : decode cX7_image 50 = .ok (.invokevirtual 309, 3) := by decide +kernel
theorem dX7_image_53 : decode cX7_image 53 = .ok (.aload_n 0, 1) := by decide +kernel
theorem dX7_image_54 : decode cX7_image 54 = .ok (.aload_n 0, 1) := by decide +kernel
theorem dX7_image_55 : decode cX7_image 55 = .ok (.getfield 7, 3) := by decide +kernel
theorem dX7_image_58 : decode cX7_image 58 = .ok (.invokevirtual 309, 3) := by decide +kernel
theorem dX7_image_61 : decode cX7_image 61 = .ok (.aload_n 0, 1) := by decide +kernel
theorem dX7_image_62 : decode cX7_image 62 = .ok (.aload_n 0, 1) := by decide +kernel
theorem dX7_image_63 : decode cX7_image 63 = .ok (.getfield 13, 3) := by decide +kernel
theorem dX7_image_66 : decode cX7_image 66 = .ok (.invokevirtual 309, 3) := by decide +kernel
theorem dX7_image_69 : decode cX7_image 69 = .ok (.aload_n 0, 1) := by decide +kernel
theorem dX7_image_70 : decode cX7_image 70 = .ok (.aload_n 0, 1) := by decide +kernel
theorem dX7_image_71 : decode cX7_image 71 = .ok (.getfield 16, 3) := by decide +kernel
theorem dX7_image_74 : decode cX7_image 74 = .ok (.invokevirtual 309, 3) := by decide +kernel
theorem dX7_image_77 : decode cX7_image 77 = .ok (.aload_n 0, 1) := by decide +kernel
theorem dX7_image_78 : decode cX7_image 78 = .ok (.aload_n 0, 1) := by decide +kernel
theorem dX7_image_79 : decode cX7_image 79 = .ok (.getfield 19, 3) := by decide +kernel
theorem dX7_image_82 : decode cX7_image 82 = .ok (.invokevirtual 309, 3) := by decide +kernel
theorem dX7_image_85 : decode cX7_image 85 = .ok (.aload_n 0, 1) := by decide +kernel
theorem dX7_image_86 : decode cX7_image 86 = .ok (.aload_n 0, 1) := by decide +kernel
theorem dX7_image_87 : decode cX7_image 87 = .ok (.getfield 22, 3) := by decide +kernel
theorem dX7_image_90 : decode cX7_image 90 = .ok (.invokevirtual 309, 3) := by decide +kernel
theorem dX7_image_93 : decode cX7_image 93 = .ok (.aload_n 0, 1) := by decide +kernel
theorem dX7_image_94 : decode cX7_image 94 = .ok (.aload_n 0, 1) := by decide +kernel
theorem dX7_image_95 : decode cX7_image 95 = .ok (.getfield 25, 3) := by decide +kernel
theorem dX7_image_98 : decode cX7_image 98 = .ok (.invokevirtual 309, 3) := by decide +kernel
theorem dX7_image_101 : decode cX7_image 101 = .ok (.aload_n 0, 1) := by decide +kernel
theorem dX7_image_102 : decode cX7_image 102 = .ok (.aload_n 0, 1) := by decide +kernel
theorem dX7_image_103 : decode cX7_image 103 = .ok (.getfield 28, 3) := by decide +kernel
theorem dX7_image_106 : decode cX7_image 106 = .ok (.invokevirtual 309, 3) := by decide +kernel
theorem dX7_image_109 : decode cX7_image 109 = .ok (.aload_n 0, 1) := by decide +kernel
theorem dX7_image_110 : decode cX7_image 110 = .ok (.aload_n 0, 1) := by decide +kernel
theorem dX7_image_111 : decode cX7_image 111 = .ok (.getfield 31, 3) := by decide +kernel
theorem dX7_image_114 : decode cX7_image 114 = .ok (.invokevirtual 309, 3) := by decide +kernel
theorem dX7_image_117 : decode cX7_image 117 = .ok (.aload_n 0, 1) := by decide +kernel
theorem dX7_image_118 : decode cX7_image 118 = .ok (.aload_n 0, 1) := by decide +kernel
theorem dX7_image_119 : decode cX7_image 119 = .ok (.getfield 34, 3) := by decide +kernel
theorem dX7_image_122 : decode cX7_image 122 = .ok (.invokevirtual 309, 3) := by decide +kernel
theorem dX7_image_125 : decode cX7_image 125 = .ok (.aload_n 0, 1) := by decide +kernel
theorem dX7_image_126 : decode cX7_image 126 = .ok (.aload_n 0, 1) := by decide +kernel
theorem dX7_image_127 : decode cX7_image 127 = .ok (.getfield 37, 3) := by decide +kernel
theorem dX7_image_130 : decode cX7_image 130 = .ok (.invokevirtual 309, 3) := by decide +kernel
theorem dX7_image_133 : decode cX7_image 133 = .ok (.aload_n 0, 1) := by decide +kernel
theorem dX7_image_134 : decode cX7_image 134 = .ok (.iconst 1, 1) := by decide +kernel
theorem dX7_image_135 : decode cX7_image 135 = .ok (.putfield 313, 3) := by decide +kernel
theorem dX7_image_138 : decode cX7_image 138 = .ok (.iconst 1, 1) := by decide +kernel
theorem dX7_image_139 : decode cX7_image 139 = .ok (.ireturn, 1) := by decide +kernel
theorem dX7_restore_0 : decode cX7_restore 0 = .ok (.aload_n 0, 1) := by decide +kernel
theorem dX7_restore_1 : decode cX7_restore 1 = .ok (.getfield 313, 3) := by decide +kernel
theorem dX7_restore_4 : decode cX7_restore 4 = .ok (.ifCond .ne 6, 3) := by decide +kernel
theorem dX7_restore_7 : decode cX7_restore 7 = .ok (.bipush (-4), 2) := by decide +kernel
theorem dX7_restore_9 : decode cX7_restore 9 = .ok (.ireturn, 1) := by decide +kernel
theorem dX7_restore_10 : decode cX7_restore 10 = .ok (.aload_n 0, 1) := by decide +kernel
theorem dX7_restore_11 : decode cX7_restore 11 = .ok (.iconst 0, 1) := by decide +kernel
theorem dX7_restore_12 : decode cX7_restore 12 = .ok (.putfield 306, 3) := by decide +kernel
theorem dX7_restore_15 : decode cX7_restore 15 = .ok (.aload_n 0, 1) := by decide +kernel
theorem dX7_restore_16 : decode cX7_restore 16 = .ok (.aload_n 0, 1) := by decide +kernel
theorem dX7_restore_17 : decode cX7_restore 17 = .ok (.getfield 85, 3) := by decide +kernel
theorem dX7_restore_20 : decode cX7_restore 20 = .ok (.invokevirtual 316, 3) := by decide +kernel
theorem dX7_restore_23 : decode cX7_restore 23 = .ok (.aload_n 0, 1) := by decide +kernel
theorem dX7_restore_24 : decode cX7_restore 24 = .ok (.aload_n 0, 1) := by decide +kernel
theorem dX7_restore_25 : decode cX7_restore 25 = .ok (.getfield 85, 3) := by decide +kernel
theorem dX7_restore_28 : decode cX7_restore 28 = .ok (.iconst 0, 1) := by decide +kernel
theorem dX7_restore_29 : decode cX7_restore 29 = .ok (.iaload, 1) := by decide +kernel
theorem dX7_restore_30 : decode cX7_restore 30 = .ok (.putfield 109, 3) := by decide +kernel
theorem dX7_restore_33 : decode cX7_restore 33 = .ok (.aload_n 0, 1) := by decide +kernel
theorem dX7_restore_34 : decode cX7_restore 34 = .ok (.aload_n 0, 1) := by decide +kernel
theorem dX7_restore_35 : decode cX7_restore 35 = .ok (.getfield 85, 3) := by decide +kernel
theorem dX7_restore_38 : decode cX7_restore 38 = .ok (.iconst 1, 1) := by decide +kernel
theorem dX7_restore_39 : decode cX7_restore 39 = .ok (.iaload, 1) := by decide +kernel
theorem dX7_restore_40 : decode cX7_restore 40 = .ok (.putfield 100, 3) := by decide +kernel
theorem dX7_restore_43 : decode cX7_restore 43 = .ok (.aload_n 0, 1) := by decide +kernel
theorem dX7_restore_44 : decode cX7_restore 44 = .ok (.aload_n 0, 1) := by decide +kernel
theorem dX7_restore_45 : decode cX7_restore 45 = .ok (.getfield 85, 3) := by decide +kernel
theorem dX7_restore_48 : decode cX7_restore 48 = .ok (.iconst 2, 1) := by decide +kernel
theorem dX7_restore_49 : decode cX7_restore 49 = .ok (.iaload, 1) := by decide +kernel
theorem dX7_restore_50 : decode cX7_restore 50 = .ok (.putfield 103, 3) := by decide +kernel
theorem dX7_restore_53 : decode cX7_restore 53 = .ok (.aload_n 0, 1) := by decide +kernel
theorem dX7_restore_54 : decode cX7_restore 54 = .ok (.aload_n 0, 1) := by decide +kernel
theorem dX7_restore_55 : decode cX7_restore 55 = .ok (.getfield 85, 3) := by decide +kernel
theorem dX7_restore_58 : decode cX7_restore 58 = .ok (.iconst 3, 1) := by decide +kernel
theorem dX7_restore_59 : decode cX7_restore 59 = .ok (.iaload, 1) := by decide +kernel
theorem dX7_restore_60 : decode cX7_restore 60 = .ok (.putfield 106, 3) := by decide +kernel
theorem dX7_restore_63 : decode cX7_restore 63 = .ok (.aload_n 0, 1) := by decide +kernel
theorem dX7_restore_64 : decode cX7_restore 64 = .ok (.aload_n 0, 1) := by decide +kernel
theorem dX7_restore_65 : decode cX7_restore 65 = .ok (.getfield 7, 3) := by decide +kernel
theorem dX7_restore_68 : decode cX7_restore 68 = .ok (.invokevirtual 316, 3) := by decide +kernel
theorem dX7_restore_71 : decode cX7_restore 71 = .ok (.aload_n 0, 1) := by decide +kernel
theorem dX7_restore_72 : decode cX7_restore 72 = .ok (.aload_n 0, 1) := by decide +kernel
theorem dX7_restore_73 : decode cX7_restore 73 = .ok (.getfield 13, 3) := by decide +kernel
theorem dX7_restore_76 : decode cX7_restore 76 = .ok (.invokevirtual 316, 3) := by decide +kernel
theorem dX7_restore_79 : decode cX7_restore 79 = .ok (.aload_n 0, 1) := by decide +kernel
theorem dX7_restore_80 : decode cX7_restore 80 = .ok (.aload_n 0, 1) := by decide +kernel
theorem dX7_restore_81 : decode cX7_restore 81 = .ok (.getfield 16, 3) := by decide +kernel
theorem dX7_restore_84 : decode cX7_restore 84 = .ok (.invokevirtual 316, 3) := by decide +kernel
theorem dX7_restore_87 : decode cX7_restore 87 = .ok (.aload_n 0, 1) := by decide +kernel
theorem dX7_restore_88 : decode cX7_restore 88 = .ok (.aload_n 0, 1) := by decide +kernel
theorem dX7_restore_89 : decode cX7_restore 89 = .ok (.getfield 19, 3) := by decide +kernel
theorem dX7_restore_92 : decode cX7_restore 92 = .ok (.invokevirtual 316, 3) := by decide +kernel
theorem dX7_restore_95 : decode cX7_restore 95 = .ok (.aload_n 0, 1) := by decide +kernel
theorem dX7_restore_96 : decode cX7_restore 96 = .ok (.aload_n 0, 1) := by decide +kernel
theorem dX7_restore_97 : decode cX7_restore 97 = .ok (.getfield 22, 3) := by decide +kernel
theorem dX7_restore_100 : decode cX7_restore 100 = .ok (.invokevirtual 316, 3) := by decide +kernel
theorem dX7_restore_103 : decode cX7_restore 103 = .ok (.aload_n 0, 1) := by decide +kernel
theorem dX7_restore_104 : decode cX7_restore 104 = .ok (.aload_n 0, 1) := by decide +kernel
theorem dX7_restore_105 : decode cX7_restore 105 = .ok (.getfield 25, 3) := by decide +kernel
theorem dX7_restore_108 : decode cX7_restore 108 = .ok (.invokevirtual 316, 3) := by decide +kernel
theorem dX7_restore_111 : decode cX7_restore 111 = .ok (.aload_n 0, 1) := by decide +kernel
theorem dX7_restore_112 : decode cX7_restore 112 = .ok (.aload_n 0, 1) := by decide +kernel
theorem dX7_restore_113 : decode cX7_restore 113 = .ok (.getfield 28, 3) := by decide +kernel
theorem dX7_restore_116 : decode cX7_restore 116 = .ok (.invokevirtual 316, 3) := by decide +kernel
theorem dX7_restore_119 : decode cX7_restore 119 = .ok (.aload_n 0, 1) := by decide +kernel
theorem dX7_restore_120 : decode cX7_restore 120 = .ok (.aload_n 0, 1) := by decide +kernel
theorem dX7_restore_121 : decode cX7_restore 121 = .ok (.getfield 31, 3) := by decide +kernel
theorem dX7_restore_124 : decode cX7_restore 124 = .ok (.invokevirtual 316, 3) := by decide +kernel
theorem dX7_restore_127 : decode cX7_restore 127 = .ok (.aload_n 0, 1) := by decide +kernel
theorem dX7_restore_128 : decode cX7_restore 128 = .ok (.aload_n 0, 1) := by decide +kernel
theorem dX7_restore_129 : decode cX7_restore 129 = .ok (.getfield 34, 3) := by decide +kernel
theorem dX7_restore_132 : decode cX7_restore 132 = .ok (.invokevirtual 316, 3) := by decide +kernel
theorem dX7_restore_135 : decode cX7_restore 135 = .ok (.aload_n 0, 1) := by decide +kernel
theorem dX7_restore_136 : decode cX7_restore 136 = .ok (.aload_n 0, 1) := by decide +kernel
theorem dX7_restore_137 : decode cX7_restore 137 = .ok (.getfield 37, 3) := by decide +kernel
theorem dX7_restore_140 : decode cX7_restore 140 = .ok (.invokevirtual 316, 3) := by decide +kernel
theorem dX7_restore_143 : decode cX7_restore 143 = .ok (.iconst 1, 1) := by decide +kernel
theorem dX7_restore_144 : decode cX7_restore 144 = .ok (.ireturn, 1) := by decide +kernel
theorem dX7_isSheet_0 : decode cX7_isSheet 0 = .ok (.iload_n 0, 1) := by decide +kernel
theorem dX7_isSheet_1 : decode cX7_isSheet 1 = .ok (.i2l, 1) := by decide +kernel
theorem dX7_isSheet_2 : decode cX7_isSheet 2 = .ok (.lconst 0, 1) := by decide +kernel
theorem dX7_isSheet_3 : decode cX7_isSheet 3 = .ok (.ldc2_w 145, 3) := by decide +kernel
theorem dX7_isSheet_6 : decode cX7_isSheet 6 = .ok (.invokestatic 118, 3) := by decide +kernel
theorem dX7_isSheet_9 : decode cX7_isSheet 9 = .ok (.ifCond .eq 19, 3) := by decide +kernel
theorem dX7_isSheet_12 : decode cX7_isSheet 12 = .ok (.iload_n 1, 1) := by decide +kernel
theorem dX7_isSheet_13 : decode cX7_isSheet 13 = .ok (.i2l, 1) := by decide +kernel
theorem dX7_isSheet_14 : decode cX7_isSheet 14 = .ok (.lconst 0, 1) := by decide +kernel
theorem dX7_isSheet_15 : decode cX7_isSheet 15 = .ok (.ldc2_w 301, 3) := by decide +kernel
theorem dX7_isSheet_18 : decode cX7_isSheet 18 = .ok (.invokestatic 118, 3) := by decide +kernel
theorem dX7_isSheet_21 : decode cX7_isSheet 21 = .ok (.ifCond .eq 7, 3) := by decide +kernel
theorem dX7_isSheet_24 : decode cX7_isSheet 24 = .ok (.iconst 1, 1) := by decide +kernel
theorem dX7_isSheet_25 : decode cX7_isSheet 25 = .ok (.goto 4, 3) := by decide +kernel
theorem dX7_isSheet_28 : decode cX7_isSheet 28 = .ok (.iconst 0, 1) := by decide +kernel
theorem dX7_isSheet_29 : decode cX7_isSheet 29 = .ok (.ireturn, 1) := by decide +kernel
theorem dX7_sheet_0 : decode cX7_sheet 0 = .ok (.iload_n 1, 1) := by decide +kernel
theorem dX7_sheet_1 : decode cX7_sheet 1 = .ok (.iload_n 2, 1) := by decide +kernel
theorem dX7_sheet_2 : decode cX7_sheet 2 = .ok (.invokestatic 319, 3) := by decide +kernel
theorem dX7_sheet_5 : decode cX7_sheet 5 = .ok (.ifCond .eq 9, 3) := by decide +kernel
theorem dX7_sheet_8 : decode cX7_sheet 8 = .ok (.iload_n 3, 1) := by decide +kernel
theorem dX7_sheet_9 : decode cX7_sheet 9 = .ok (.bipush 24, 2) := by decide +kernel
theorem dX7_sheet_11 : decode cX7_sheet 11 = .ok (.if_icmp .le 5, 3) := by decide +kernel
theorem dX7_sheet_14 : decode cX7_sheet 14 = .ok (.iconst (-1), 1) := by decide +kernel
theorem dX7_sheet_15 : decode cX7_sheet 15 = .ok (.ireturn, 1) := by decide +kernel
theorem dX7_sheet_16 : decode cX7_sheet 16 = .ok (.iload_n 3, 1) := by decide +kernel
theorem dX7_sheet_17 : decode cX7_sheet 17 = .ok (.ifCond .ge 6, 3) := by decide +kernel
theorem dX7_sheet_20 : decode cX7_sheet 20 = .ok (.bipush (-14), 2) := by decide +kernel
theorem dX7_sheet_22 : decode cX7_sheet 22 = .ok (.ireturn, 1) := by decide +kernel
theorem dX7_sheet_23 : decode cX7_sheet 23 = .ok (.aload_n 0, 1) := by decide +kernel
theorem dX7_sheet_24 : decode cX7_sheet 24 = .ok (.getfield 88, 3) := by decide +kernel
theorem dX7_sheet_27 : decode cX7_sheet 27 = .ok (.iload_n 1, 1) := by decide +kernel
theorem dX7_sheet_28 : decode cX7_sheet 28 = .ok (.iload_n 2, 1) := by decide +kernel
theorem dX7_sheet_29 : decode cX7_sheet 29 = .ok (.iastore, 1) := by decide +kernel
theorem dX7_sheet_30 : decode cX7_sheet 30 = .ok (.aload_n 0, 1) := by decide +kernel
theorem dX7_sheet_31 : decode cX7_sheet 31 = .ok (.getfield 91, 3) := by decide +kernel
theorem dX7_sheet_34 : decode cX7_sheet 34 = .ok (.iload_n 1, 1) := by decide +kernel
theorem dX7_sheet_35 : decode cX7_sheet 35 = .ok (.iload_n 3, 1) := by decide +kernel
theorem dX7_sheet_36 : decode cX7_sheet 36 = .ok (.iastore, 1) := by decide +kernel
theorem dX7_sheet_37 : decode cX7_sheet 37 = .ok (.iconst 0, 1) := by decide +kernel
theorem dX7_sheet_38 : decode cX7_sheet 38 = .ok (.istore 4, 2) := by decide +kernel
theorem dX7_sheet_40 : decode cX7_sheet 40 = .ok (.iload 4, 2) := by decide +kernel
theorem dX7_sheet_42 : decode cX7_sheet 42 = .ok (.bipush 24, 2) := by decide +kernel
theorem dX7_sheet_44 : decode cX7_sheet 44 = .ok (.if_icmp .ge 22, 3) := by decide +kernel
theorem dX7_sheet_47 : decode cX7_sheet 47 = .ok (.aload_n 0, 1) := by decide +kernel
theorem dX7_sheet_48 : decode cX7_sheet 48 = .ok (.getfield 94, 3) := by decide +kernel
theorem dX7_sheet_51 : decode cX7_sheet 51 = .ok (.bipush 24, 2) := by decide +kernel
theorem dX7_sheet_53 : decode cX7_sheet 53 = .ok (.iload_n 1, 1) := by decide +kernel
theorem dX7_sheet_54 : decode cX7_sheet 54 = .ok (.imul, 1) := by decide +kernel
theorem dX7_sheet_55 : decode cX7_sheet 55 = .ok (.iload 4, 2) := by decide +kernel
theorem dX7_sheet_57 : decode cX7_sheet 57 = .ok (.iadd, 1) := by decide +kernel
theorem dX7_sheet_58 : decode cX7_sheet 58 = .ok (.iconst 0, 1) := by decide +kernel
theorem dX7_sheet_59 : decode cX7_sheet 59 = .ok (.iastore, 1) := by decide +kernel
theorem dX7_sheet_60 : decode cX7_sheet 60 = .ok (.iinc 4 1, 3) := by decide +kernel
theorem dX7_sheet_63 : decode cX7_sheet 63 = .ok (.goto (-23), 3) := by decide +kernel
theorem dX7_sheet_66 : decode cX7_sheet 66 = .ok (.iload_n 3, 1) := by decide +kernel
theorem dX7_sheet_67 : decode cX7_sheet 67 = .ok (.ireturn, 1) := by decide +kernel
theorem dX7_drop_0 : decode cX7_drop 0 = .ok (.iload_n 1, 1) := by decide +kernel
theorem dX7_drop_1 : decode cX7_drop 1 = .ok (.i2l, 1) := by decide +kernel
theorem dX7_drop_2 : decode cX7_drop 2 = .ok (.lconst 0, 1) := by decide +kernel
theorem dX7_drop_3 : decode cX7_drop 3 = .ok (.ldc2_w 145, 3) := by decide +kernel
theorem dX7_drop_6 : decode cX7_drop 6 = .ok (.invokestatic 118, 3) := by decide +kernel
theorem dX7_drop_9 : decode cX7_drop 9 = .ok (.ifCond .ne 5, 3) := by decide +kernel
theorem dX7_drop_12 : decode cX7_drop 12 = .ok (.iconst (-1), 1) := by decide +kernel
theorem dX7_drop_13 : decode cX7_drop 13 = .ok (.ireturn, 1) := by decide +kernel
theorem dX7_drop_14 : decode cX7_drop 14 = .ok (.aload_n 0, 1) := by decide +kernel
theorem dX7_drop_15 : decode cX7_drop 15 = .ok (.getfield 88, 3) := by decide +kernel
theorem dX7_drop_18 : decode cX7_drop 18 = .ok (.iload_n 1, 1) := by decide +kernel
theorem dX7_drop_19 : decode cX7_drop 19 = .ok (.iaload, 1) := by decide +kernel
theorem dX7_drop_20 : decode cX7_drop 20 = .ok (.ifCond .ge 6, 3) := by decide +kernel
theorem dX7_drop_23 : decode cX7_drop 23 = .ok (.bipush (-11), 2) := by decide +kernel
theorem dX7_drop_25 : decode cX7_drop 25 = .ok (.ireturn, 1) := by decide +kernel
theorem dX7_drop_26 : decode cX7_drop 26 = .ok (.aload_n 0, 1) := by decide +kernel
theorem dX7_drop_27 : decode cX7_drop 27 = .ok (.getfield 88, 3) := by decide +kernel
theorem dX7_drop_30 : decode cX7_drop 30 = .ok (.iload_n 1, 1) := by decide +kernel
theorem dX7_drop_31 : decode cX7_drop 31 = .ok (.iconst (-1), 1) := by decide +kernel
theorem dX7_drop_32 : decode cX7_drop 32 = .ok (.iastore, 1) := by decide +kernel
theorem dX7_drop_33 : decode cX7_drop 33 = .ok (.aload_n 0, 1) := by decide +kernel
theorem dX7_drop_34 : decode cX7_drop 34 = .ok (.getfield 91, 3) := by decide +kernel
theorem dX7_drop_37 : decode cX7_drop 37 = .ok (.iload_n 1, 1) := by decide +kernel
theorem dX7_drop_38 : decode cX7_drop 38 = .ok (.iaload, 1) := by decide +kernel
theorem dX7_drop_39 : decode cX7_drop 39 = .ok (.ireturn, 1) := by decide +kernel
theorem dX7_lacksRow_0 : decode cX7_lacksRow 0 = .ok (.aload_n 0, 1) := by decide +kernel
theorem dX7_lacksRow_1 : decode cX7_lacksRow 1 = .ok (.getfield 88, 3) := by decide +kernel
theorem dX7_lacksRow_4 : decode cX7_lacksRow 4 = .ok (.iload_n 1, 1) := by decide +kernel
theorem dX7_lacksRow_5 : decode cX7_lacksRow 5 = .ok (.iaload, 1) := by decide +kernel
theorem dX7_lacksRow_6 : decode cX7_lacksRow 6 = .ok (.iload_n 2, 1) := by decide +kernel
theorem dX7_lacksRow_7 : decode cX7_lacksRow 7 = .ok (.if_icmp .eq 20, 3) := by decide +kernel
theorem dX7_lacksRow_10 : decode cX7_lacksRow 10 = .ok (.aload_n 0, 1) := by decide +kernel
theorem dX7_lacksRow_11 : decode cX7_lacksRow 11 = .ok (.getfield 88, 3) := by decide +kernel
theorem dX7_lacksRow_14 : decode cX7_lacksRow 14 = .ok (.iload_n 1, 1) := by decide +kernel
theorem dX7_lacksRow_15 : decode cX7_lacksRow 15 = .ok (.iaload, 1) := by decide +kernel
theorem dX7_lacksRow_16 : decode cX7_lacksRow 16 = .ok (.ifCond .ge 8, 3) := by decide +kernel
theorem dX7_lacksRow_19 : decode cX7_lacksRow 19 = .ok (.bipush (-11), 2) := by decide +kernel
theorem dX7_lacksRow_21 : decode cX7_lacksRow 21 = .ok (.goto 5, 3) := by decide +kernel
theorem dX7_lacksRow_24 : decode cX7_lacksRow 24 = .ok (.bipush (-12), 2) := by decide +kernel
theorem dX7_lacksRow_26 : decode cX7_lacksRow 26 = .ok (.ireturn, 1) := by decide +kernel
theorem dX7_lacksRow_27 : decode cX7_lacksRow 27 = .ok (.iload_n 3, 1) := by decide +kernel
theorem dX7_lacksRow_28 : decode cX7_lacksRow 28 = .ok (.i2l, 1) := by decide +kernel
theorem dX7_lacksRow_29 : decode cX7_lacksRow 29 = .ok (.lconst 0, 1) := by decide +kernel
theorem dX7_lacksRow_30 : decode cX7_lacksRow 30 = .ok (.aload_n 0, 1) := by decide +kernel
theorem dX7_lacksRow_31 : decode cX7_lacksRow 31 = .ok (.getfield 91, 3) := by decide +kernel
theorem dX7_lacksRow_34 : decode cX7_lacksRow 34 = .ok (.iload_n 1, 1) := by decide +kernel
theorem dX7_lacksRow_35 : decode cX7_lacksRow 35 = .ok (.iaload, 1) := by decide +kernel
theorem dX7_lacksRow_36 : decode cX7_lacksRow 36 = .ok (.iload 4, 2) := by decide +kernel
theorem dX7_lacksRow_38 : decode cX7_lacksRow 38 = .ok (.isub, 1) := by decide +kernel
theorem dX7_lacksRow_39 : decode cX7_lacksRow 39 = .ok (.i2l, 1) := by decide +kernel
theorem dX7_lacksRow_40 : decode cX7_lacksRow 40 = .ok (.invokestatic 118, 3) := by decide +kernel
theorem dX7_lacksRow_43 : decode cX7_lacksRow 43 = .ok (.ifCond .eq 7, 3) := by decide +kernel
theorem dX7_lacksRow_46 : decode cX7_lacksRow 46 = .ok (.iconst 0, 1) := by decide +kernel
theorem dX7_lacksRow_47 : decode cX7_lacksRow 47 = .ok (.goto 5, 3) := by decide +kernel
theorem dX7_lacksRow_50 : decode cX7_lacksRow 50 = .ok (.bipush (-13), 2) := by decide +kernel
theorem dX7_lacksRow_52 : decode cX7_lacksRow 52 = .ok (.ireturn, 1) := by decide +kernel
theorem dX7_item_0 : decode cX7_item 0 = .ok (.iload_n 1, 1) := by decide +kernel
theorem dX7_item_1 : decode cX7_item 1 = .ok (.iload_n 2, 1) := by decide +kernel
theorem dX7_item_2 : decode cX7_item 2 = .ok (.invokestatic 319, 3) := by decide +kernel
theorem dX7_item_5 : decode cX7_item 5 = .ok (.ifCond .ne 5, 3) := by decide +kernel
theorem dX7_item_8 : decode cX7_item 8 = .ok (.iconst (-1), 1) := by decide +kernel
theorem dX7_item_9 : decode cX7_item 9 = .ok (.ireturn, 1) := by decide +kernel
theorem dX7_item_10 : decode cX7_item 10 = .ok (.aload_n 0, 1) := by decide +kernel
theorem dX7_item_11 : decode cX7_item 11 = .ok (.iload_n 1, 1) := by decide +kernel
theorem dX7_item_12 : decode cX7_item 12 = .ok (.iload_n 2, 1) := by decide +kernel
theorem dX7_item_13 : decode cX7_item 13 = .ok (.iload_n 3, 1) := by decide +kernel
theorem dX7_item_14 : decode cX7_item 14 = .ok (.iconst 1, 1) := by decide +kernel
theorem dX7_item_15 : decode cX7_item 15 = .ok (.invokevirtual 322, 3) := by decide +kernel
theorem dX7_item_18 : decode cX7_item 18 = .ok (.istore 5, 2) := by decide +kernel
theorem dX7_item_20 : decode cX7_item 20 = .ok (.iload 5, 2) := by decide +kernel
theorem dX7_item_22 : decode cX7_item 22 = .ok (.ifCond .ge 6, 3) := by decide +kernel
theorem dX7_item_25 : decode cX7_item 25 = .ok (.iload 5, 2) := by decide +kernel
theorem dX7_item_27 : decode cX7_item 27 = .ok (.ireturn, 1) := by decide +kernel
theorem dX7_item_28 : decode cX7_item 28 = .ok (.aload_n 0, 1) := by decide +kernel
theorem dX7_item_29 : decode cX7_item 29 = .ok (.getfield 94, 3) := by decide +kernel
theorem dX7_item_32 : decode cX7_item 32 = .ok (.bipush 24, 2) := by decide +kernel
theorem dX7_item_34 : decode cX7_item 34 = .ok (.iload_n 1, 1) := by decide +kernel
theorem dX7_item_35 : decode cX7_item 35 = .ok (.imul, 1) := by decide +kernel
theorem dX7_item_36 : decode cX7_item 36 = .ok (.iload_n 3, 1) := by decide +kernel
theorem dX7_item_37 : decode cX7_item 37 = .ok (.iadd, 1) := by decide +kernel
theorem dX7_item_38 : decode cX7_item 38 = .ok (.iload_n 2, 1) := by decide +kernel
theorem dX7_item_39 : decode cX7_item 39 = .ok (.ifCond .ne 14, 3) := by decide +kernel
theorem dX7_item_42 : decode cX7_item 42 = .ok (.iload 4, 2) := by decide +kernel
theorem dX7_item_44 : decode cX7_item 44 = .ok (.bipush 24, 2) := by decide +kernel
theorem dX7_item_46 : decode cX7_item 46 = .ok (.ishl, 1) := by decide +kernel
theorem dX7_item_47 : decode cX7_item 47 = .ok (.bipush 24, 2) := by decide +kernel
theorem dX7_item_49 : decode cX7_item 49 = .ok (.ishr, 1) := by decide +kernel
theorem dX7_item_50 : decode cX7_item 50 = .ok (.goto 21, 3) := by decide +kernel
theorem dX7_item_53 : decode cX7_item 53 = .ok (.iload_n 2, 1) := by decide +kernel
theorem dX7_item_54 : decode cX7_item 54 = .ok (.iconst 1, 1) := by decide +kernel
theorem dX7_item_55 : decode cX7_item 55 = .ok (.if_icmp .ne 14, 3) := by decide +kernel
theorem dX7_item_58 : decode cX7_item 58 = .ok (.iload 4, 2) := by decide +kernel
theorem dX7_item_60 : decode cX7_item 60 = .ok (.bipush 16, 2) := by decide +kernel
theorem dX7_item_62 : decode cX7_item 62 = .ok (.ishl, 1) := by decide +kernel
theorem dX7_item_63 : decode cX7_item 63 = .ok (.bipush 16, 2) := by decide +kernel
theorem dX7_item_65 : decode cX7_item 65 = .ok (.ishr, 1) := by decide +kernel
theorem dX7_item_66 : decode cX7_item 66 = .ok (.goto 5, 3) := by decide +kernel
theorem dX7_item_69 : decode cX7_item 69 = .ok (.iload 4, 2) := by decide +kernel
theorem dX7_item_71 : decode cX7_item 71 = .ok (.iastore, 1) := by decide +kernel
theorem dX7_item_72 : decode cX7_item 72 = .ok (.iconst 1, 1) := by decide +kernel
theorem dX7_item_73 : decode cX7_item 73 = .ok (.ireturn, 1) := by decide +kernel
theorem dX7_lots_0 : decode cX7_lots 0 = .ok (.iload_n 1, 1) := by decide +kernel
theorem dX7_lots_1 : decode cX7_lots 1 = .ok (.iload_n 2, 1) := by decide +kernel
theorem dX7_lots_2 : decode cX7_lots 2 = .ok (.invokestatic 319, 3) := by decide +kernel
theorem dX7_lots_5 : decode cX7_lots 5 = .ok (.ifCond .eq 16, 3) := by decide +kernel
theorem dX7_lots_8 : decode cX7_lots 8 = .ok (.iload 4, 2) := by decide +kernel
theorem dX7_lots_10 : decode cX7_lots 10 = .ok (.i2l, 1) := by decide +kernel
theorem dX7_lots_11 : decode cX7_lots 11 = .ok (.lconst 1, 1) := by decide +kernel
theorem dX7_lots_12 : decode cX7_lots 12 = .ok (.ldc2_w 326, 3) := by decide +kernel
theorem dX7_lots_15 : decode cX7_lots 15 = .ok (.invokestatic 118, 3) := by decide +kernel
theorem dX7_lots_18 : decode cX7_lots 18 = .ok (.ifCond .ne 5, 3) := by decide +kernel
theorem dX7_lots_21 : decode cX7_lots 21 = .ok (.iconst (-1), 1) := by decide +kernel
theorem dX7_lots_22 : decode cX7_lots 22 = .ok (.ireturn, 1) := by decide +kernel
theorem dX7_lots_23 : decode cX7_lots 23 = .ok (.aload_n 0, 1) := by decide +kernel
theorem dX7_lots_24 : decode cX7_lots 24 = .ok (.iload_n 1, 1) := by decide +kernel
theorem dX7_lots_25 : decode cX7_lots 25 = .ok (.iload_n 2, 1) := by decide +kernel
theorem dX7_lots_26 : decode cX7_lots 26 = .ok (.iload_n 3, 1) := by decide +kernel
theorem dX7_lots_27 : decode cX7_lots 27 = .ok (.iload 4, 2) := by decide +kernel
theorem dX7_lots_29 : decode cX7_lots 29 = .ok (.invokevirtual 322, 3) := by decide +kernel
theorem dX7_lots_32 : decode cX7_lots 32 = .ok (.istore 5, 2) := by decide +kernel
theorem dX7_lots_34 : decode cX7_lots 34 = .ok (.iload 5, 2) := by decide +kernel
theorem dX7_lots_36 : decode cX7_lots 36 = .ok (.ifCond .ge 6, 3) := by decide +kernel
theorem dX7_lots_39 : decode cX7_lots 39 = .ok (.iload 5, 2) := by decide +kernel
theorem dX7_lots_41 : decode cX7_lots 41 = .ok (.ireturn, 1) := by decide +kernel
theorem dX7_lots_42 : decode cX7_lots 42 = .ok (.bipush 24, 2) := by decide +kernel
theorem dX7_lots_44 : decode cX7_lots 44 = .ok (.iload_n 1, 1) := by decide +kernel
theorem dX7_lots_45 : decode cX7_lots 45 = .ok (.imul, 1) := by decide +kernel
theorem dX7_lots_46 : decode cX7_lots 46 = .ok (.iload_n 3, 1) := by decide +kernel
theorem dX7_lots_47 : decode cX7_lots 47 = .ok (.iadd, 1) := by decide +kernel
theorem dX7_lots_48 : decode cX7_lots 48 = .ok (.istore 6, 2) := by decide +kernel
theorem dX7_lots_50 : decode cX7_lots 50 = .ok (.iconst 0, 1) := by decide +kernel
theorem dX7_lots_51 : decode cX7_lots 51 = .ok (.istore 7, 2) := by decide +kernel
theorem dX7_lots_53 : decode cX7_lots 53 = .ok (.iload 7, 2) := by decide +kernel
theorem dX7_lots_55 : decode cX7_lots 55 = .ok (.iload 4, 2) := by decide +kernel
theorem dX7_lots_57 : decode cX7_lots 57 = .ok (.if_icmp .ge 33, 3) := by decide +kernel
theorem dX7_lots_60 : decode cX7_lots 60 = .ok (.aload_n 0, 1) := by decide +kernel
theorem dX7_lots_61 : decode cX7_lots 61 = .ok (.getfield 94, 3) := by decide +kernel
theorem dX7_lots_64 : decode cX7_lots 64 = .ok (.iload 6, 2) := by decide +kernel
theorem dX7_lots_66 : decode cX7_lots 66 = .ok (.iload 7, 2) := by decide +kernel
theorem dX7_lots_68 : decode cX7_lots 68 = .ok (.iadd, 1) := by decide +kernel
theorem dX7_lots_69 : decode cX7_lots 69 = .ok (.iaload, 1) := by decide +kernel
theorem dX7_lots_70 : decode cX7_lots 70 = .ok (.i2l, 1) := by decide +kernel
theorem dX7_lots_71 : decode cX7_lots 71 = .ok (.lconst 0, 1) := by decide +kernel
theorem dX7_lots_72 : decode cX7_lots 72 = .ok (.ldc2_w 145, 3) := by decide +kernel
theorem dX7_lots_75 : decode cX7_lots 75 = .ok (.invokestatic 118, 3) := by decide +kernel
theorem dX7_lots_78 : decode cX7_lots 78 = .ok (.ifCond .ne 6, 3) := by decide +kernel
theorem dX7_lots_81 : decode cX7_lots 81 = .ok (.bipush (-2), 2) := by decide +kernel
theorem dX7_lots_83 : decode cX7_lots 83 = .ok (.ireturn, 1) := by decide +kernel
theorem dX7_lots_84 : decode cX7_lots 84 = .ok (.iinc 7 1, 3) := by decide +kernel
theorem dX7_lots_87 : decode cX7_lots 87 = .ok (.goto (-34), 3) := by decide +kernel
theorem dX7_lots_90 : decode cX7_lots 90 = .ok (.iconst 0, 1) := by decide +kernel
theorem dX7_lots_91 : decode cX7_lots 91 = .ok (.istore 7, 2) := by decide +kernel
theorem dX7_lots_93 : decode cX7_lots 93 = .ok (.iload 7, 2) := by decide +kernel
theorem dX7_lots_95 : decode cX7_lots 95 = .ok (.iload 4, 2) := by decide +kernel
theorem dX7_lots_97 : decode cX7_lots 97 = .ok (.if_icmp .ge 26, 3) := by decide +kernel
theorem dX7_lots_100 : decode cX7_lots 100 = .ok (.aload_n 0, 1) := by decide +kernel
theorem dX7_lots_101 : decode cX7_lots 101 = .ok (.getfield 34, 3) := by decide +kernel
theorem dX7_lots_104 : decode cX7_lots 104 = .ok (.iload 7, 2) := by decide +kernel
theorem dX7_lots_106 : decode cX7_lots 106 = .ok (.aload_n 0, 1) := by decide +kernel
theorem dX7_lots_107 : decode cX7_lots 107 = .ok (.getfield 94, 3) := by decide +kernel
theorem dX7_lots_110 : decode cX7_lots 110 = .ok (.iload 6, 2) := by decide +kernel
theorem dX7_lots_112 : decode cX7_lots 112 = .ok (.iload 7, 2) := by decide +kernel
theorem dX7_lots_114 : decode cX7_lots 114 = .ok (.iadd, 1) := by decide +kernel
theorem dX7_lots_115 : decode cX7_lots 115 = .ok (.iaload, 1) := by decide +kernel
theorem dX7_lots_116 : decode cX7_lots 116 = .ok (.iastore, 1) := by decide +kernel
theorem dX7_lots_117 : decode cX7_lots 117 = .ok (.iinc 7 1, 3) := by decide +kernel
theorem dX7_lots_120 : decode cX7_lots 120 = .ok (.goto (-27), 3) := by decide +kernel
theorem dX7_lots_123 : decode cX7_lots 123 = .ok (.iload 4, 2) := by decide +kernel
theorem dX7_lots_125 : decode cX7_lots 125 = .ok (.ireturn, 1) := by decide +kernel
theorem dX7_judge_0 : decode cX7_judge 0 = .ok (.iload_n 1, 1) := by decide +kernel
theorem dX7_judge_1 : decode cX7_judge 1 = .ok (.iload_n 2, 1) := by decide +kernel
theorem dX7_judge_2 : decode cX7_judge 2 = .ok (.invokestatic 319, 3) := by decide +kernel
theorem dX7_judge_5 : decode cX7_judge 5 = .ok (.ifCond .eq 16, 3) := by decide +kernel
theorem dX7_judge_8 : decode cX7_judge 8 = .ok (.iload 4, 2) := by decide +kernel
theorem dX7_judge_10 : decode cX7_judge 10 = .ok (.i2l, 1) := by decide +kernel
theorem dX7_judge_11 : decode cX7_judge 11 = .ok (.lconst 1, 1) := by decide +kernel
theorem dX7_judge_12 : decode cX7_judge 12 = .ok (.ldc2_w 172, 3) := by decide +kernel
theorem dX7_judge_15 : decode cX7_judge 15 = .ok (.invokestatic 118, 3) := by decide +kernel
theorem dX7_judge_18 : decode cX7_judge 18 = .ok (.ifCond .ne 5, 3) := by decide +kernel
theorem dX7_judge_21 : decode cX7_judge 21 = .ok (.iconst (-1), 1) := by decide +kernel
theorem dX7_judge_22 : decode cX7_judge 22 = .ok (.ireturn, 1) := by decide +kernel
theorem dX7_judge_23 : decode cX7_judge 23 = .ok (.aload_n 0, 1) := by decide +kernel
theorem dX7_judge_24 : decode cX7_judge 24 = .ok (.iload_n 1, 1) := by decide +kernel
theorem dX7_judge_25 : decode cX7_judge 25 = .ok (.iload_n 2, 1) := by decide +kernel
theorem dX7_judge_26 : decode cX7_judge 26 = .ok (.iload_n 3, 1) := by decide +kernel
theorem dX7_judge_27 : decode cX7_judge 27 = .ok (.iconst 5, 1) := by decide +kernel
theorem dX7_judge_28 : decode cX7_judge 28 = .ok (.iload 4, 2) := by decide +kernel
theorem dX7_judge_30 : decode cX7_judge 30 = .ok (.imul, 1) := by decide +kernel
theorem dX7_judge_31 : decode cX7_judge 31 = .ok (.invokevirtual 322, 3) := by decide +kernel
theorem dX7_judge_34 : decode cX7_judge 34 = .ok (.istore 5, 2) := by decide +kernel
theorem dX7_judge_36 : decode cX7_judge 36 = .ok (.iload 5, 2) := by decide +kernel
theorem dX7_judge_38 : decode cX7_judge 38 = .ok (.ifCond .ge 6, 3) := by decide +kernel
theorem dX7_judge_41 : decode cX7_judge 41 = .ok (.iload 5, 2) := by decide +kernel
theorem dX7_judge_43 : decode cX7_judge 43 = .ok (.ireturn, 1) := by decide +kernel
theorem dX7_judge_44 : decode cX7_judge 44 = .ok (.aload_n 0, 1) := by decide +kernel
theorem dX7_judge_45 : decode cX7_judge 45 = .ok (.getfield 109, 3) := by decide +kernel
theorem dX7_judge_48 : decode cX7_judge 48 = .ok (.ifCond .ne 6, 3) := by decide +kernel
theorem dX7_judge_51 : decode cX7_judge 51 = .ok (.bipush (-2), 2) := by decide +kernel
theorem dX7_judge_53 : decode cX7_judge 53 = .ok (.ireturn, 1) := by decide +kernel
theorem dX7_judge_54 : decode cX7_judge 54 = .ok (.bipush 24, 2) := by decide +kernel
theorem dX7_judge_56 : decode cX7_judge 56 = .ok (.iload_n 1, 1) := by decide +kernel
theorem dX7_judge_57 : decode cX7_judge 57 = .ok (.imul, 1) := by decide +kernel
theorem dX7_judge_58 : decode cX7_judge 58 = .ok (.iload_n 3, 1) := by decide +kernel
theorem dX7_judge_59 : decode cX7_judge 59 = .ok (.iadd, 1) := by decide +kernel
theorem dX7_judge_60 : decode cX7_judge 60 = .ok (.istore 6, 2) := by decide +kernel
theorem dX7_judge_62 : decode cX7_judge 62 = .ok (.aload_n 0, 1) := by decide +kernel
theorem dX7_judge_63 : decode cX7_judge 63 = .ok (.invokevirtual 249, 3) := by decide +kernel
theorem dX7_judge_66 : decode cX7_judge 66 = .ok (.iconst 0, 1) := by decide +kernel
theorem dX7_judge_67 : decode cX7_judge 67 = .ok (.istore 7, 2) := by decide +kernel
theorem dX7_judge_69 : decode cX7_judge 69 = .ok (.iconst 0, 1) := by decide +kernel
theorem dX7_judge_70 : decode cX7_judge 70 = .ok (.istore 8, 2) := by decide +kernel
theorem dX7_judge_72 : decode cX7_judge 72 = .ok (.iload 8, 2) := by decide +kernel
theorem dX7_judge_74 : decode cX7_judge 74 = .ok (.iload 4, 2) := by decide +kernel
theorem dX7_judge_76 : decode cX7_judge 76 = .ok (.if_icmp .ge 92, 3) := by decide +kernel
theorem dX7_judge_79 : decode cX7_judge 79 = .ok (.iload 7, 2) := by decide +kernel
theorem dX7_judge_81 : decode cX7_judge 81 = .ok (.ifCond .eq 6, 3) := by decide +kernel
theorem dX7_judge_84 : decode cX7_judge 84 = .ok (.iload 8, 2) := by decide +kernel
theorem dX7_judge_86 : decode cX7_judge 86 = .ok (.ireturn, 1) := by decide +kernel
theorem dX7_judge_87 : decode cX7_judge 87 = .ok (.aload_n 0, 1) := by decide +kernel
theorem dX7_judge_88 : decode cX7_judge 88 = .ok (.iload 8, 2) := by decide +kernel
theorem dX7_judge_90 : decode cX7_judge 90 = .ok (.iload 8, 2) := by decide +kernel
theorem dX7_judge_92 : decode cX7_judge 92 = .ok (.ifCond .ne 7, 3) := by decide +kernel
theorem dX7_judge_95 : decode cX7_judge 95 = .ok (.iconst 1, 1) := by decide +kernel
theorem dX7_judge_96 : decode cX7_judge 96 = .ok (.goto 4, 3) := by decide +kernel
theorem dX7_judge_99 : decode cX7_judge 99 = .ok (.iconst 0, 1) := by decide +kernel
theorem dX7_judge_100 : decode cX7_judge 100 = .ok (.invokevirtual 242, 3) := by decide +kernel
theorem dX7_judge_103 : decode cX7_judge 103 = .ok (.iconst 0, 1) := by decide +kernel
theorem dX7_judge_104 : decode cX7_judge 104 = .ok (.istore 9, 2) := by decide +kernel
theorem dX7_judge_106 : decode cX7_judge 106 = .ok (.iload 9, 2) := by decide +kernel
theorem dX7_judge_108 : decode cX7_judge 108 = .ok (.iconst 5, 1) := by decide +kernel
theorem dX7_judge_109 : decode cX7_judge 109 = .ok (.if_icmp .ge 37, 3) := by decide +kernel
theorem dX7_judge_112 : decode cX7_judge 112 = .ok (.aload_n 0, 1) := by decide +kernel
theorem dX7_judge_113 : decode cX7_judge 113 = .ok (.getfield 94, 3) := by decide +kernel
theorem dX7_judge_116 : decode cX7_judge 116 = .ok (.iload 6, 2) := by decide +kernel
theorem dX7_judge_118 : decode cX7_judge 118 = .ok (.iconst 5, 1) := by decide +kernel
theorem dX7_judge_119 : decode cX7_judge 119 = .ok (.iload 8, 2) := by decide +kernel
theorem dX7_judge_121 : decode cX7_judge 121 = .ok (.imul, 1) := by decide +kernel
theorem dX7_judge_122 : decode cX7_judge 122 = .ok (.iadd, 1) := by decide +kernel
theorem dX7_judge_123 : decode cX7_judge 123 = .ok (.iload 9, 2) := by decide +kernel
theorem dX7_judge_125 : decode cX7_judge 125 = .ok (.iadd, 1) := by decide +kernel
theorem dX7_judge_126 : decode cX7_judge 126 = .ok (.iaload, 1) := by decide +kernel
theorem dX7_judge_127 : decode cX7_judge 127 = .ok (.aload_n 0, 1) := by decide +kernel
theorem dX7_judge_128 : decode cX7_judge 128 = .ok (.getfield 67, 3) := by decide +kernel

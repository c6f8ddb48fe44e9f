theorem dX7_fewest_70 : decode cX7_fewest 70 = .ok (.iload_n 3, 1) := by decide +kernel
theorem dX7_fewest_71 : decode cX7_fewest 71 = .ok (.istore_n 3, 1) := by decide +kernel
theorem dX7_fewest_72 : decode cX7_fewest 72 = .ok (.iinc 4 1, 3) := by decide +kernel
theorem dX7_fewest_75 : decode cX7_fewest 75 = .ok (.goto (-70), 3) := by decide +kernel
theorem dX7_fewest_78 : decode cX7_fewest 78 = .ok (.iload_n 3, 1) := by decide +kernel
theorem dX7_fewest_79 : decode cX7_fewest 79 = .ok (.ireturn, 1) := by decide +kernel
theorem dX7_makes_0 : decode cX7_makes 0 = .ok (.aload_n 0, 1) := by decide +kernel
theorem dX7_makes_1 : decode cX7_makes 1 = .ok (.iload_n 1, 1) := by decide +kernel
theorem dX7_makes_2 : decode cX7_makes 2 = .ok (.iload_n 2, 1) := by decide +kernel
theorem dX7_makes_3 : decode cX7_makes 3 = .ok (.invokevirtual 292, 3) := by decide +kernel
theorem dX7_makes_6 : decode cX7_makes 6 = .ok (.istore_n 3, 1) := by decide +kernel
theorem dX7_makes_7 : decode cX7_makes 7 = .ok (.iload_n 3, 1) := by decide +kernel
theorem dX7_makes_8 : decode cX7_makes 8 = .ok (.ifCond .ge 7, 3) := by decide +kernel
theorem dX7_makes_11 : decode cX7_makes 11 = .ok (.iload_n 3, 1) := by decide +kernel
theorem dX7_makes_12 : decode cX7_makes 12 = .ok (.goto 17, 3) := by decide +kernel
theorem dX7_makes_15 : decode cX7_makes 15 = .ok (.aload_n 0, 1) := by decide +kernel
theorem dX7_makes_16 : decode cX7_makes 16 = .ok (.aload_n 0, 1) := by decide +kernel
theorem dX7_makes_17 : decode cX7_makes 17 = .ok (.iload_n 1, 1) := by decide +kernel
theorem dX7_makes_18 : decode cX7_makes 18 = .ok (.invokevirtual 286, 3) := by decide +kernel
theorem dX7_makes_21 : decode cX7_makes 21 = .ok (.aload_n 0, 1) := by decide +kernel
theorem dX7_makes_22 : decode cX7_makes 22 = .ok (.iload_n 2, 1) := by decide +kernel
theorem dX7_makes_23 : decode cX7_makes 23 = .ok (.invokevirtual 184, 3) := by decide +kernel
theorem dX7_makes_26 : decode cX7_makes 26 = .ok (.invokevirtual 295, 3) := by decide +kernel
theorem dX7_makes_29 : decode cX7_makes 29 = .ok (.ireturn, 1) := by decide +kernel
theorem dX7_stops_0 : decode cX7_stops 0 = .ok (.iload_n 1, 1) := by decide +kernel
theorem dX7_stops_1 : decode cX7_stops 1 = .ok (.invokestatic 179, 3) := by decide +kernel
theorem dX7_stops_4 : decode cX7_stops 4 = .ok (.ifCond .ne 5, 3) := by decide +kernel
theorem dX7_stops_7 : decode cX7_stops 7 = .ok (.iconst (-1), 1) := by decide +kernel
theorem dX7_stops_8 : decode cX7_stops 8 = .ok (.ireturn, 1) := by decide +kernel
theorem dX7_stops_9 : decode cX7_stops 9 = .ok (.aload_n 0, 1) := by decide +kernel
theorem dX7_stops_10 : decode cX7_stops 10 = .ok (.getfield 109, 3) := by decide +kernel
theorem dX7_stops_13 : decode cX7_stops 13 = .ok (.ifCond .ne 8, 3) := by decide +kernel
theorem dX7_stops_16 : decode cX7_stops 16 = .ok (.bipush (-2), 2) := by decide +kernel
theorem dX7_stops_18 : decode cX7_stops 18 = .ok (.goto 27, 3) := by decide +kernel
theorem dX7_stops_21 : decode cX7_stops 21 = .ok (.aload_n 0, 1) := by decide +kernel
theorem dX7_stops_22 : decode cX7_stops 22 = .ok (.iconst 1, 1) := by decide +kernel
theorem dX7_stops_23 : decode cX7_stops 23 = .ok (.aload_n 0, 1) := by decide +kernel
theorem dX7_stops_24 : decode cX7_stops 24 = .ok (.getfield 109, 3) := by decide +kernel
theorem dX7_stops_27 : decode cX7_stops 27 = .ok (.ishl, 1) := by decide +kernel
theorem dX7_stops_28 : decode cX7_stops 28 = .ok (.iconst 1, 1) := by decide +kernel
theorem dX7_stops_29 : decode cX7_stops 29 = .ok (.isub, 1) := by decide +kernel
theorem dX7_stops_30 : decode cX7_stops 30 = .ok (.aload_n 0, 1) := by decide +kernel
theorem dX7_stops_31 : decode cX7_stops 31 = .ok (.invokevirtual 112, 3) := by decide +kernel
theorem dX7_stops_34 : decode cX7_stops 34 = .ok (.aload_n 0, 1) := by decide +kernel
theorem dX7_stops_35 : decode cX7_stops 35 = .ok (.iload_n 1, 1) := by decide +kernel
theorem dX7_stops_36 : decode cX7_stops 36 = .ok (.invokevirtual 184, 3) := by decide +kernel
theorem dX7_stops_39 : decode cX7_stops 39 = .ok (.isub, 1) := by decide +kernel
theorem dX7_stops_40 : decode cX7_stops 40 = .ok (.iconst 1, 1) := by decide +kernel
theorem dX7_stops_41 : decode cX7_stops 41 = .ok (.iadd, 1) := by decide +kernel
theorem dX7_stops_42 : decode cX7_stops 42 = .ok (.invokevirtual 295, 3) := by decide +kernel
theorem dX7_stops_45 : decode cX7_stops 45 = .ok (.ireturn, 1) := by decide +kernel
theorem dX7_ratherOf_0 : decode cX7_ratherOf 0 = .ok (.iconst 0, 1) := by decide +kernel
theorem dX7_ratherOf_1 : decode cX7_ratherOf 1 = .ok (.istore_n 3, 1) := by decide +kernel
theorem dX7_ratherOf_2 : decode cX7_ratherOf 2 = .ok (.iconst 0, 1) := by decide +kernel
theorem dX7_ratherOf_3 : decode cX7_ratherOf 3 = .ok (.istore 4, 2) := by decide +kernel
theorem dX7_ratherOf_5 : decode cX7_ratherOf 5 = .ok (.iload 4, 2) := by decide +kernel
theorem dX7_ratherOf_7 : decode cX7_ratherOf 7 = .ok (.aload_n 0, 1) := by decide +kernel
theorem dX7_ratherOf_8 : decode cX7_ratherOf 8 = .ok (.getfield 109, 3) := by decide +kernel
theorem dX7_ratherOf_11 : decode cX7_ratherOf 11 = .ok (.if_icmp .ge 58, 3) := by decide +kernel
theorem dX7_ratherOf_14 : decode cX7_ratherOf 14 = .ok (.aload_n 0, 1) := by decide +kernel
theorem dX7_ratherOf_15 : decode cX7_ratherOf 15 = .ok (.iload 4, 2) := by decide +kernel
theorem dX7_ratherOf_17 : decode cX7_ratherOf 17 = .ok (.iload_n 1, 1) := by decide +kernel
theorem dX7_ratherOf_18 : decode cX7_ratherOf 18 = .ok (.invokevirtual 200, 3) := by decide +kernel
theorem dX7_ratherOf_21 : decode cX7_ratherOf 21 = .ok (.istore 5, 2) := by decide +kernel
theorem dX7_ratherOf_23 : decode cX7_ratherOf 23 = .ok (.aload_n 0, 1) := by decide +kernel
theorem dX7_ratherOf_24 : decode cX7_ratherOf 24 = .ok (.iload 4, 2) := by decide +kernel
theorem dX7_ratherOf_26 : decode cX7_ratherOf 26 = .ok (.iload_n 2, 1) := by decide +kernel
theorem dX7_ratherOf_27 : decode cX7_ratherOf 27 = .ok (.invokevirtual 200, 3) := by decide +kernel
theorem dX7_ratherOf_30 : decode cX7_ratherOf 30 = .ok (.istore 6, 2) := by decide +kernel
theorem dX7_ratherOf_32 : decode cX7_ratherOf 32 = .ok (.iload_n 3, 1) := by decide +kernel
theorem dX7_ratherOf_33 : decode cX7_ratherOf 33 = .ok (.iload 5, 2) := by decide +kernel
theorem dX7_ratherOf_35 : decode cX7_ratherOf 35 = .ok (.ifCond .lt 25, 3) := by decide +kernel
theorem dX7_ratherOf_38 : decode cX7_ratherOf 38 = .ok (.iload 6, 2) := by decide +kernel
theorem dX7_ratherOf_40 : decode cX7_ratherOf 40 = .ok (.ifCond .lt 10, 3) := by decide +kernel
theorem dX7_ratherOf_43 : decode cX7_ratherOf 43 = .ok (.iload 5, 2) := by decide +kernel
theorem dX7_ratherOf_45 : decode cX7_ratherOf 45 = .ok (.iload 6, 2) := by decide +kernel
theorem dX7_ratherOf_47 : decode cX7_ratherOf 47 = .ok (.if_icmp .ge 13, 3) := by decide +kernel
theorem dX7_ratherOf_50 : decode cX7_ratherOf 50 = .ok (.aload_n 0, 1) := by decide +kernel
theorem dX7_ratherOf_51 : decode cX7_ratherOf 51 = .ok (.getfield 7, 3) := by decide +kernel
theorem dX7_ratherOf_54 : decode cX7_ratherOf 54 = .ok (.iload 4, 2) := by decide +kernel
theorem dX7_ratherOf_56 : decode cX7_ratherOf 56 = .ok (.iaload, 1) := by decide +kernel
theorem dX7_ratherOf_57 : decode cX7_ratherOf 57 = .ok (.goto 4, 3) := by decide +kernel
theorem dX7_ratherOf_60 : decode cX7_ratherOf 60 = .ok (.iconst 0, 1) := by decide +kernel
theorem dX7_ratherOf_61 : decode cX7_ratherOf 61 = .ok (.iadd, 1) := by decide +kernel
theorem dX7_ratherOf_62 : decode cX7_ratherOf 62 = .ok (.istore_n 3, 1) := by decide +kernel
theorem dX7_ratherOf_63 : decode cX7_ratherOf 63 = .ok (.iinc 4 1, 3) := by decide +kernel
theorem dX7_ratherOf_66 : decode cX7_ratherOf 66 = .ok (.goto (-61), 3) := by decide +kernel
theorem dX7_ratherOf_69 : decode cX7_ratherOf 69 = .ok (.iload_n 3, 1) := by decide +kernel
theorem dX7_ratherOf_70 : decode cX7_ratherOf 70 = .ok (.ireturn, 1) := by decide +kernel
theorem dX7_rather_0 : decode cX7_rather 0 = .ok (.iload_n 1, 1) := by decide +kernel
theorem dX7_rather_1 : decode cX7_rather 1 = .ok (.invokestatic 188, 3) := by decide +kernel
theorem dX7_rather_4 : decode cX7_rather 4 = .ok (.ifCond .eq 15, 3) := by decide +kernel
theorem dX7_rather_7 : decode cX7_rather 7 = .ok (.iload_n 2, 1) := by decide +kernel
theorem dX7_rather_8 : decode cX7_rather 8 = .ok (.invokestatic 188, 3) := by decide +kernel
theorem dX7_rather_11 : decode cX7_rather 11 = .ok (.ifCond .eq 8, 3) := by decide +kernel
theorem dX7_rather_14 : decode cX7_rather 14 = .ok (.iload_n 1, 1) := by decide +kernel
theorem dX7_rather_15 : decode cX7_rather 15 = .ok (.iload_n 2, 1) := by decide +kernel
theorem dX7_rather_16 : decode cX7_rather 16 = .ok (.if_icmp .ne 5, 3) := by decide +kernel
theorem dX7_rather_19 : decode cX7_rather 19 = .ok (.iconst (-1), 1) := by decide +kernel
theorem dX7_rather_20 : decode cX7_rather 20 = .ok (.ireturn, 1) := by decide +kernel
theorem dX7_rather_21 : decode cX7_rather 21 = .ok (.aload_n 0, 1) := by decide +kernel
theorem dX7_rather_22 : decode cX7_rather 22 = .ok (.getfield 109, 3) := by decide +kernel
theorem dX7_rather_25 : decode cX7_rather 25 = .ok (.ifCond .ne 8, 3) := by decide +kernel
theorem dX7_rather_28 : decode cX7_rather 28 = .ok (.bipush (-2), 2) := by decide +kernel
theorem dX7_rather_30 : decode cX7_rather 30 = .ok (.goto 9, 3) := by decide +kernel
theorem dX7_rather_33 : decode cX7_rather 33 = .ok (.aload_n 0, 1) := by decide +kernel
theorem dX7_rather_34 : decode cX7_rather 34 = .ok (.iload_n 1, 1) := by decide +kernel
theorem dX7_rather_35 : decode cX7_rather 35 = .ok (.iload_n 2, 1) := by decide +kernel
theorem dX7_rather_36 : decode cX7_rather 36 = .ok (.invokevirtual 298, 3) := by decide +kernel
theorem dX7_rather_39 : decode cX7_rather 39 = .ok (.ireturn, 1) := by decide +kernel
theorem dX7_beats_0 : decode cX7_beats 0 = .ok (.iload_n 1, 1) := by decide +kernel
theorem dX7_beats_1 : decode cX7_beats 1 = .ok (.i2l, 1) := by decide +kernel
theorem dX7_beats_2 : decode cX7_beats 2 = .ok (.lconst 0, 1) := by decide +kernel
theorem dX7_beats_3 : decode cX7_beats 3 = .ok (.lconst 1, 1) := by decide +kernel
theorem dX7_beats_4 : decode cX7_beats 4 = .ok (.invokestatic 118, 3) := by decide +kernel
theorem dX7_beats_7 : decode cX7_beats 7 = .ok (.ifCond .ne 5, 3) := by decide +kernel
theorem dX7_beats_10 : decode cX7_beats 10 = .ok (.iconst (-1), 1) := by decide +kernel
theorem dX7_beats_11 : decode cX7_beats 11 = .ok (.ireturn, 1) := by decide +kernel
theorem dX7_beats_12 : decode cX7_beats 12 = .ok (.aload_n 0, 1) := by decide +kernel
theorem dX7_beats_13 : decode cX7_beats 13 = .ok (.getfield 109, 3) := by decide +kernel
theorem dX7_beats_16 : decode cX7_beats 16 = .ok (.ifCond .ne 6, 3) := by decide +kernel
theorem dX7_beats_19 : decode cX7_beats 19 = .ok (.bipush (-2), 2) := by decide +kernel
theorem dX7_beats_21 : decode cX7_beats 21 = .ok (.ireturn, 1) := by decide +kernel
theorem dX7_beats_22 : decode cX7_beats 22 = .ok (.iconst 0, 1) := by decide +kernel
theorem dX7_beats_23 : decode cX7_beats 23 = .ok (.istore_n 2, 1) := by decide +kernel
theorem dX7_beats_24 : decode cX7_beats 24 = .ok (.iload_n 2, 1) := by decide +kernel
theorem dX7_beats_25 : decode cX7_beats 25 = .ok (.iconst 5, 1) := by decide +kernel
theorem dX7_beats_26 : decode cX7_beats 26 = .ok (.if_icmp .ge 87, 3) := by decide +kernel
theorem dX7_beats_29 : decode cX7_beats 29 = .ok (.iconst 1, 1) := by decide +kernel
theorem dX7_beats_30 : decode cX7_beats 30 = .ok (.istore_n 3, 1) := by decide +kernel
theorem dX7_beats_31 : decode cX7_beats 31 = .ok (.iconst 0, 1) := by decide +kernel
theorem dX7_beats_32 : decode cX7_beats 32 = .ok (.istore 4, 2) := by decide +kernel
theorem dX7_beats_34 : decode cX7_beats 34 = .ok (.iload 4, 2) := by decide +kernel
theorem dX7_beats_36 : decode cX7_beats 36 = .ok (.iconst 5, 1) := by decide +kernel
theorem dX7_beats_37 : decode cX7_beats 37 = .ok (.if_icmp .ge 64, 3) := by decide +kernel
theorem dX7_beats_40 : decode cX7_beats 40 = .ok (.iload_n 3, 1) := by decide +kernel
theorem dX7_beats_41 : decode cX7_beats 41 = .ok (.ifCond .eq 52, 3) := by decide +kernel
theorem dX7_beats_44 : decode cX7_beats 44 = .ok (.iload_n 2, 1) := by decide +kernel
theorem dX7_beats_45 : decode cX7_beats 45 = .ok (.iload 4, 2) := by decide +kernel
theorem dX7_beats_47 : decode cX7_beats 47 = .ok (.if_icmp .eq 42, 3) := by decide +kernel
theorem dX7_beats_50 : decode cX7_beats 50 = .ok (.iload_n 1, 1) := by decide +kernel
theorem dX7_beats_51 : decode cX7_beats 51 = .ok (.ifCond .ne 23, 3) := by decide +kernel
theorem dX7_beats_54 : decode cX7_beats 54 = .ok (.aload_n 0, 1) := by decide +kernel
theorem dX7_beats_55 : decode cX7_beats 55 = .ok (.iload_n 2, 1) := by decide +kernel
theorem dX7_beats_56 : decode cX7_beats 56 = .ok (.iload 4, 2) := by decide +kernel
theorem dX7_beats_58 : decode cX7_beats 58 = .ok (.invokevirtual 298, 3) := by decide +kernel
theorem dX7_beats_61 : decode cX7_beats 61 = .ok (.aload_n 0, 1) := by decide +kernel
theorem dX7_beats_62 : decode cX7_beats 62 = .ok (.iload 4, 2) := by decide +kernel
theorem dX7_beats_64 : decode cX7_beats 64 = .ok (.iload_n 2, 1) := by decide +kernel
theorem dX7_beats_65 : decode cX7_beats 65 = .ok (.invokevirtual 298, 3) := by decide +kernel
theorem dX7_beats_68 : decode cX7_beats 68 = .ok (.if_icmp .le 25, 3) := by decide +kernel
theorem dX7_beats_71 : decode cX7_beats 71 = .ok (.goto 18, 3) := by decide +kernel
theorem dX7_beats_74 : decode cX7_beats 74 = .ok (.aload_n 0, 1) := by decide +kernel
theorem dX7_beats_75 : decode cX7_beats 75 = .ok (.iload_n 2, 1) := by decide +kernel
theorem dX7_beats_76 : decode cX7_beats 76 = .ok (.iload 4, 2) := by decide +kernel
theorem dX7_beats_78 : decode cX7_beats 78 = .ok (.invokevirtual 298, 3) := by decide +kernel
theorem dX7_beats_81 : decode cX7_beats 81 = .ok (.aload_n 0, 1) := by decide +kernel
theorem dX7_beats_82 : decode cX7_beats 82 = .ok (.iconst 0, 1) := by decide +kernel
theorem dX7_beats_83 : decode cX7_beats 83 = .ok (.invokevirtual 184, 3) := by decide +kernel
theorem dX7_beats_86 : decode cX7_beats 86 = .ok (.if_icmp .lt 7, 3) := by decide +kernel
theorem dX7_beats_89 : decode cX7_beats 89 = .ok (.iconst 1, 1) := by decide +kernel
theorem dX7_beats_90 : decode cX7_beats 90 = .ok (.goto 4, 3) := by decide +kernel
theorem dX7_beats_93 : decode cX7_beats 93 = .ok (.iconst 0, 1) := by decide +kernel
theorem dX7_beats_94 : decode cX7_beats 94 = .ok (.istore_n 3, 1) := by decide +kernel
theorem dX7_beats_95 : decode cX7_beats 95 = .ok (.iinc 4 1, 3) := by decide +kernel
theorem dX7_beats_98 : decode cX7_beats 98 = .ok (.goto (-64), 3) := by decide +kernel
theorem dX7_beats_101 : decode cX7_beats 101 = .ok (.iload_n 3, 1) := by decide +kernel
theorem dX7_beats_102 : decode cX7_beats 102 = .ok (.ifCond .eq 5, 3) := by decide +kernel
theorem dX7_beats_105 : decode cX7_beats 105 = .ok (.iload_n 2, 1) := by decide +kernel
theorem dX7_beats_106 : decode cX7_beats 106 = .ok (.ireturn, 1) := by decide +kernel
theorem dX7_beats_107 : decode cX7_beats 107 = .ok (.iinc 2 1, 3) := by decide +kernel
theorem dX7_beats_110 : decode cX7_beats 110 = .ok (.goto (-86), 3) := by decide +kernel
theorem dX7_beats_113 : decode cX7_beats 113 = .ok (.bipush (-4), 2) := by decide +kernel
theorem dX7_beats_115 : decode cX7_beats 115 = .ok (.ireturn, 1) := by decide +kernel
theorem dX7_waits_0 : decode cX7_waits 0 = .ok (.aload_n 0, 1) := by decide +kernel
theorem dX7_waits_1 : decode cX7_waits 1 = .ok (.iload_n 1, 1) := by decide +kernel
theorem dX7_waits_2 : decode cX7_waits 2 = .ok (.invokevirtual 176, 3) := by decide +kernel
theorem dX7_waits_5 : decode cX7_waits 5 = .ok (.ifCond .eq 13, 3) := by decide +kernel
theorem dX7_waits_8 : decode cX7_waits 8 = .ok (.iload_n 2, 1) := by decide +kernel
theorem dX7_waits_9 : decode cX7_waits 9 = .ok (.i2l, 1) := by decide +kernel
theorem dX7_waits_10 : decode cX7_waits 10 = .ok (.lconst 0, 1) := by decide +kernel
theorem dX7_waits_11 : decode cX7_waits 11 = .ok (.lconst 1, 1) := by decide +kernel
theorem dX7_waits_12 : decode cX7_waits 12 = .ok (.invokestatic 118, 3) := by decide +kernel
theorem dX7_waits_15 : decode cX7_waits 15 = .ok (.ifCond .ne 5, 3) := by decide +kernel
theorem dX7_waits_18 : decode cX7_waits 18 = .ok (.iconst (-1), 1) := by decide +kernel
theorem dX7_waits_19 : decode cX7_waits 19 = .ok (.ireturn, 1) := by decide +kernel
theorem dX7_waits_20 : decode cX7_waits 20 = .ok (.bipush (-4), 2) := by decide +kernel
theorem dX7_waits_22 : decode cX7_waits 22 = .ok (.istore_n 3, 1) := by decide +kernel
theorem dX7_waits_23 : decode cX7_waits 23 = .ok (.bipush 99, 2) := by decide +kernel
theorem dX7_waits_25 : decode cX7_waits 25 = .ok (.istore 4, 2) := by decide +kernel
theorem dX7_waits_27 : decode cX7_waits 27 = .ok (.aload_n 0, 1) := by decide +kernel
theorem dX7_waits_28 : decode cX7_waits 28 = .ok (.iload_n 1, 1) := by decide +kernel
theorem dX7_waits_29 : decode cX7_waits 29 = .ok (.putfield 70, 3) := by decide +kernel
theorem dX7_waits_32 : decode cX7_waits 32 = .ok (.iconst 0, 1) := by decide +kernel
theorem dX7_waits_33 : decode cX7_waits 33 = .ok (.istore 5, 2) := by decide +kernel
theorem dX7_waits_35 : decode cX7_waits 35 = .ok (.iload 5, 2) := by decide +kernel
theorem dX7_waits_37 : decode cX7_waits 37 = .ok (.iconst 4, 1) := by decide +kernel
theorem dX7_waits_38 : decode cX7_waits 38 = .ok (.if_icmp .gt 70, 3) := by decide +kernel
theorem dX7_waits_41 : decode cX7_waits 41 = .ok (.aload_n 0, 1) := by decide +kernel
theorem dX7_waits_42 : decode cX7_waits 42 = .ok (.iload 5, 2) := by decide +kernel
theorem dX7_waits_44 : decode cX7_waits 44 = .ok (.putfield 216, 3) := by decide +kernel
theorem dX7_waits_47 : decode cX7_waits 47 = .ok (.aload_n 0, 1) := by decide +kernel
theorem dX7_waits_48 : decode cX7_waits 48 = .ok (.invokevirtual 258, 3) := by decide +kernel
theorem dX7_waits_51 : decode cX7_waits 51 = .ok (.aload_n 0, 1) := by decide +kernel
theorem dX7_waits_52 : decode cX7_waits 52 = .ok (.getfield 252, 3) := by decide +kernel
theorem dX7_waits_55 : decode cX7_waits 55 = .ok (.ifCond .ge 8, 3) := by decide +kernel
theorem dX7_waits_58 : decode cX7_waits 58 = .ok (.bipush (-4), 2) := by decide +kernel
theorem dX7_waits_60 : decode cX7_waits 60 = .ok (.goto 12, 3) := by decide +kernel
theorem dX7_waits_63 : decode cX7_waits 63 = .ok (.aload_n 0, 1) := by decide +kernel
theorem dX7_waits_64 : decode cX7_waits 64 = .ok (.iload_n 1, 1) := by decide +kernel
theorem dX7_waits_65 : decode cX7_waits 65 = .ok (.aload_n 0, 1) := by decide +kernel
theorem dX7_waits_66 : decode cX7_waits 66 = .ok (.getfield 252, 3) := by decide +kernel
theorem dX7_waits_69 : decode cX7_waits 69 = .ok (.invokevirtual 200, 3) := by decide +kernel
theorem dX7_waits_72 : decode cX7_waits 72 = .ok (.istore 6, 2) := by decide +kernel
theorem dX7_waits_74 : decode cX7_waits 74 = .ok (.iload 6, 2) := by decide +kernel
theorem dX7_waits_76 : decode cX7_waits 76 = .ok (.ifCond .ge 8, 3) := by decide +kernel
theorem dX7_waits_79 : decode cX7_waits 79 = .ok (.bipush 9, 2) := by decide +kernel
theorem dX7_waits_81 : decode cX7_waits 81 = .ok (.goto 5, 3) := by decide +kernel
theorem dX7_waits_84 : decode cX7_waits 84 = .ok (.iload 6, 2) := by decide +kernel
theorem dX7_waits_86 : decode cX7_waits 86 = .ok (.istore 7, 2) := by decide +kernel
theorem dX7_waits_88 : decode cX7_waits 88 = .ok (.iload 7, 2) := by decide +kernel
theorem dX7_waits_90 : decode cX7_waits 90 = .ok (.iload 4, 2) := by decide +kernel
theorem dX7_waits_92 : decode cX7_waits 92 = .ok (.if_icmp .ge 10, 3) := by decide +kernel
theorem dX7_waits_95 : decode cX7_waits 95 = .ok (.iload 7, 2) := by decide +kernel
theorem dX7_waits_97 : decode cX7_waits 97 = .ok (.istore 4, 2) := by decide +kernel
theorem dX7_waits_99 : decode cX7_waits 99 = .ok (.iload 5, 2) := by decide +kernel
theorem dX7_waits_101 : decode cX7_waits 101 = .ok (.istore_n 3, 1) := by decide +kernel
theorem dX7_waits_102 : decode cX7_waits 102 = .ok (.iinc 5 1, 3) := by decide +kernel
theorem dX7_waits_105 : decode cX7_waits 105 = .ok (.goto (-70), 3) := by decide +kernel
theorem dX7_waits_108 : decode cX7_waits 108 = .ok (.aload_n 0, 1) := by decide +kernel
theorem dX7_waits_109 : decode cX7_waits 109 = .ok (.bipush (-4), 2) := by decide +kernel
theorem dX7_waits_111 : decode cX7_waits 111 = .ok (.putfield 70, 3) := by decide +kernel
theorem dX7_waits_114 : decode cX7_waits 114 = .ok (.iload_n 2, 1) := by decide +kernel
theorem dX7_waits_115 : decode cX7_waits 115 = .ok (.ifCond .ne 7, 3) := by decide +kernel
theorem dX7_waits_118 : decode cX7_waits 118 = .ok (.iload_n 3, 1) := by decide +kernel
theorem dX7_waits_119 : decode cX7_waits 119 = .ok (.goto 5, 3) := by decide +kernel
theorem dX7_waits_122 : decode cX7_waits 122 = .ok (.iload 4, 2) := by decide +kernel
theorem dX7_waits_124 : decode cX7_waits 124 = .ok (.ireturn, 1) := by decide +kernel
theorem dX7_aside_0 : decode cX7_aside 0 = .ok (.iload_n 1, 1) := by decide +kernel
theorem dX7_aside_1 : decode cX7_aside 1 = .ok (.i2l, 1) := by decide +kernel
theorem dX7_aside_2 : decode cX7_aside 2 = .ok (.lconst 0, 1) := by decide +kernel
theorem dX7_aside_3 : decode cX7_aside 3 = .ok (.ldc2_w 301, 3) := by decide +kernel
theorem dX7_aside_6 : decode cX7_aside 6 = .ok (.invokestatic 118, 3) := by decide +kernel
theorem dX7_aside_9 : decode cX7_aside 9 = .ok (.ifCond .ne 5, 3) := by decide +kernel
theorem dX7_aside_12 : decode cX7_aside 12 = .ok (.iconst (-1), 1) := by decide +kernel
theorem dX7_aside_13 : decode cX7_aside 13 = .ok (.ireturn, 1) := by decide +kernel
theorem dX7_aside_14 : decode cX7_aside 14 = .ok (.aload_n 0, 1) := by decide +kernel
theorem dX7_aside_15 : decode cX7_aside 15 = .ok (.getfield 109, 3) := by decide +kernel
theorem dX7_aside_18 : decode cX7_aside 18 = .ok (.ifCond .ne 6, 3) := by decide +kernel
theorem dX7_aside_21 : decode cX7_aside 21 = .ok (.bipush (-2), 2) := by decide +kernel
theorem dX7_aside_23 : decode cX7_aside 23 = .ok (.ireturn, 1) := by decide +kernel
theorem dX7_aside_24 : decode cX7_aside 24 = .ok (.aload_n 0, 1) := by decide +kernel
theorem dX7_aside_25 : decode cX7_aside 25 = .ok (.invokevirtual 258, 3) := by decide +kernel
theorem dX7_aside_28 : decode cX7_aside 28 = .ok (.aload_n 0, 1) := by decide +kernel
theorem dX7_aside_29 : decode cX7_aside 29 = .ok (.getfield 255, 3) := by decide +kernel
theorem dX7_aside_32 : decode cX7_aside 32 = .ok (.ifCond .ge 8, 3) := by decide +kernel
theorem dX7_aside_35 : decode cX7_aside 35 = .ok (.bipush 99, 2) := by decide +kernel
theorem dX7_aside_37 : decode cX7_aside 37 = .ok (.goto 7, 3) := by decide +kernel
theorem dX7_aside_40 : decode cX7_aside 40 = .ok (.aload_n 0, 1) := by decide +kernel
theorem dX7_aside_41 : decode cX7_aside 41 = .ok (.getfield 255, 3) := by decide +kernel
theorem dX7_aside_44 : decode cX7_aside 44 = .ok (.istore_n 2, 1) := by decide +kernel
theorem dX7_aside_45 : decode cX7_aside 45 = .ok (.bipush (-4), 2) := by decide +kernel
theorem dX7_aside_47 : decode cX7_aside 47 = .ok (.istore_n 3, 1) := by decide +kernel
theorem dX7_aside_48 : decode cX7_aside 48 = .ok (.bipush (-4), 2) := by decide +kernel
theorem dX7_aside_50 : decode cX7_aside 50 = .ok (.istore 4, 2) := by decide +kernel
theorem dX7_aside_52 : decode cX7_aside 52 = .ok (.iconst 0, 1) := by decide +kernel
theorem dX7_aside_53 : decode cX7_aside 53 = .ok (.istore 5, 2) := by decide +kernel
theorem dX7_aside_55 : decode cX7_aside 55 = .ok (.iload 5, 2) := by decide +kernel
theorem dX7_aside_57 : decode cX7_aside 57 = .ok (.bipush 8, 2) := by decide +kernel
theorem dX7_aside_59 : decode cX7_aside 59 = .ok (.if_icmp .ge 94, 3) := by decide +kernel
theorem dX7_aside_62 : decode cX7_aside 62 = .ok (.iconst 0, 1) := by decide +kernel
theorem dX7_aside_63 : decode cX7_aside 63 = .ok (.istore 6, 2) := by decide +kernel
theorem dX7_aside_65 : decode cX7_aside 65 = .ok (.iload 6, 2) := by decide +kernel
theorem dX7_aside_67 : decode cX7_aside 67 = .ok (.iconst 5, 1) := by decide +kernel
theorem dX7_aside_68 : decode cX7_aside 68 = .ok (.if_icmp .ge 79, 3) := by decide +kernel
theorem dX7_aside_71 : decode cX7_aside 71 = .ok (.aload_n 0, 1) := by decide +kernel
theorem dX7_aside_72 : decode cX7_aside 72 = .ok (.getfield 31, 3) := by decide +kernel
theorem dX7_aside_75 : decode cX7_aside 75 = .ok (.iload 6, 2) := by decide +kernel
theorem dX7_aside_77 : decode cX7_aside 77 = .ok (.iaload, 1) := by decide +kernel
theorem dX7_aside_78 : decode cX7_aside 78 = .ok (.istore 7, 2) := by decide +kernel
theorem dX7_aside_80 : decode cX7_aside 80 = .ok (.aload_n 0, 1) := by decide +kernel
theorem dX7_aside_81 : decode cX7_aside 81 = .ok (.getfield 31, 3) := by decide +kernel
theorem dX7_aside_84 : decode cX7_aside 84 = .ok (.iload 6, 2) := by decide +kernel
theorem dX7_aside_86 : decode cX7_aside 86 = .ok (.iload 5, 2) := by decide +kernel
theorem dX7_aside_88 : decode cX7_aside 88 = .ok (.iload 7, 2) := by decide +kernel
theorem dX7_aside_90 : decode cX7_aside 90 = .ok (.if_icmp .ge 8, 3) := by decide +kernel
theorem dX7_aside_93 : decode cX7_aside 93 = .ok (.iload 5, 2) := by decide +kernel
theorem dX7_aside_95 : decode cX7_aside 95 = .ok (.goto 5, 3) := by decide +kernel
theorem dX7_aside_98 : decode cX7_aside 98 = .ok (.iload 7, 2) := by decide +kernel
theorem dX7_aside_100 : decode cX7_aside 100 = .ok (.iastore, 1) := by decide +kernel
theorem dX7_aside_101 : decode cX7_aside 101 = .ok (.aload_n 0, 1) := by decide +kernel
theorem dX7_aside_102 : decode cX7_aside 102 = .ok (.invokevirtual 258, 3) := by decide +kernel
theorem dX7_aside_105 : decode cX7_aside 105 = .ok (.aload_n 0, 1) := by decide +kernel
theorem dX7_aside_106 : decode cX7_aside 106 = .ok (.getfield 31, 3) := by decide +kernel
theorem dX7_aside_109 : decode cX7_aside 109 = .ok (.iload 6, 2) := by decide +kernel
theorem dX7_aside_111 : decode cX7_aside 111 = .ok (.iload 7, 2) := by decide +kernel
theorem dX7_aside_113 : decode cX7_aside 113 = .ok (.iastore, 1) := by decide +kernel
theorem dX7_aside_114 : decode cX7_aside 114 = .ok (.aload_n 0, 1) := by decide +kernel
theorem dX7_aside_115 : decode cX7_aside 115 = .ok (.getfield 255, 3) := by decide +kernel
theorem dX7_aside_118 : decode cX7_aside 118 = .ok (.ifCond .lt 23, 3) := by decide +kernel
theorem dX7_aside_121 : decode cX7_aside 121 = .ok (.aload_n 0, 1) := by decide +kernel
theorem dX7_aside_122 : decode cX7_aside 122 = .ok (.getfield 255, 3) := by decide +kernel
theorem dX7_aside_125 : decode cX7_aside 125 = .ok (.iload_n 2, 1) := by decide +kernel
theorem dX7_aside_126 : decode cX7_aside 126 = .ok (.if_icmp .ge 15, 3) := by decide +kernel
theorem dX7_aside_129 : decode cX7_aside 129 = .ok (.aload_n 0, 1) := by decide +kernel
theorem dX7_aside_130 : decode cX7_aside 130 = .ok (.getfield 255, 3) := by decide +kernel
theorem dX7_aside_133 : decode cX7_aside 133 = .ok (.istore_n 2, 1) := by decide +kernel
theorem dX7_aside_134 : decode cX7_aside 134 = .ok (.iload 6, 2) := by decide +kernel
theorem dX7_aside_136 : decode cX7_aside 136 = .ok (.istore_n 3, 1) := by decide +kernel
theorem dX7_aside_137 : decode cX7_aside 137 = .ok (.iload 5, 2) := by decide +kernel
theorem dX7_aside_139 : decode cX7_aside 139 = .ok (.istore 4, 2) := by decide +kernel
theorem dX7_aside_141 : decode cX7_aside 141 = .ok (.iinc 6 1, 3) := by decide +kernel
theorem dX7_aside_144 : decode cX7_aside 144 = .ok (.goto (-79), 3) := by decide +kernel
theorem dX7_aside_147 : decode cX7_aside 147 = .ok (.iinc 5 1, 3) := by decide +kernel
theorem dX7_aside_150 : decode cX7_aside 150 = .ok (.goto (-95), 3) := by decide +kernel
theorem dX7_aside_153 : decode cX7_aside 153 = .ok (.iload_n 3, 1) := by decide +kernel
theorem dX7_aside_154 : decode cX7_aside 154 = .ok (.ifCond .ge 8, 3) := by decide +kernel
theorem dX7_aside_157 : decode cX7_aside 157 = .ok (.bipush (-4), 2) := by decide +kernel
theorem dX7_aside_159 : decode cX7_aside 159 = .ok (.goto 22, 3) := by decide +kernel
theorem dX7_aside_162 : decode cX7_aside 162 = .ok (.iload_n 1, 1) := by decide +kernel
theorem dX7_aside_163 : decode cX7_aside 163 = .ok (.ifCond .ne 7, 3) := by decide +kernel
theorem dX7_aside_166 : decode cX7_aside 166 = .ok (.iload_n 3, 1) := by decide +kernel
theorem dX7_aside_167 : decode cX7_aside 167 = .ok (.goto 14, 3) := by decide +kernel
theorem dX7_aside_170 : decode cX7_aside 170 = .ok (.iload_n 1, 1) := by decide +kernel
theorem dX7_aside_171 : decode cX7_aside 171 = .ok (.iconst 1, 1) := by decide +kernel
theorem dX7_aside_172 : decode cX7_aside 172 = .ok (.if_icmp .ne 8, 3) := by decide +kernel
theorem dX7_aside_175 : decode cX7_aside 175 = .ok (.iload 4, 2) := by decide +kernel
theorem dX7_aside_177 : decode cX7_aside 177 = .ok (.goto 4, 3) := by decide +kernel
theorem dX7_aside_180 : decode cX7_aside 180 = .ok (.iload_n 2, 1) := by decide +kernel
theorem dX7_aside_181 : decode cX7_aside 181 = .ok (.ireturn, 1) := by decide +kernel
theorem dX7_swap_0 : decode cX7_swap 0 = .ok (.aload_n 0, 1) := by decide +kernel
theorem dX7_swap_1 : decode cX7_swap 1 = .ok (.getfield 22, 3) := by decide +kernel
theorem dX7_swap_4 : decode cX7_swap 4 = .ok (.iload_n 1, 1) := by decide +kernel
theorem dX7_swap_5 : decode cX7_swap 5 = .ok (.iaload, 1) := by decide +kernel
theorem dX7_swap_6 : decode cX7_swap 6 = .ok (.istore_n 2, 1) := by decide +kernel
theorem dX7_swap_7 : decode cX7_swap 7 = .ok (.aload_n 0, 1) := by decide +kernel
theorem dX7_swap_8 : decode cX7_swap 8 = .ok (.getfield 22, 3) := by decide +kernel
theorem dX7_swap_11 : decode cX7_swap 11 = .ok (.iload_n 1, 1) := by decide +kernel
theorem dX7_swap_12 : decode cX7_swap 12 = .ok (.aload_n 0, 1) := by decide +kernel
theorem dX7_swap_13 : decode cX7_swap 13 = .ok (.getfield 22, 3) := by decide +kernel
theorem dX7_swap_16 : decode cX7_swap 16 = .ok (.iload_n 1, 1) := by decide +kernel
theorem dX7_swap_17 : decode cX7_swap 17 = .ok (.iconst 1, 1) := by decide +kernel
theorem dX7_swap_18 : decode cX7_swap 18 = .ok (.iadd, 1) := by decide +kernel
theorem dX7_swap_19 : decode cX7_swap 19 = .ok (.iaload, 1) := by decide +kernel
theorem dX7_swap_20 : decode cX7_swap 20 = .ok (.iastore, 1) := by decide +kernel
theorem dX7_swap_21 : decode cX7_swap 21 = .ok (.aload_n 0, 1) := by decide +kernel
theorem dX7_swap_22 : decode cX7_swap 22 = .ok (.getfield 22, 3) := by decide +kernel
theorem dX7_swap_25 : decode cX7_swap 25 = .ok (.iload_n 1, 1) := by decide +kernel
theorem dX7_swap_26 : decode cX7_swap 26 = .ok (.iconst 1, 1) := by decide +kernel
theorem dX7_swap_27 : decode cX7_swap 27 = .ok (.iadd, 1) := by decide +kernel
theorem dX7_swap_28 : decode cX7_swap 28 = .ok (.iload_n 2, 1) := by decide +kernel
theorem dX7_swap_29 : decode cX7_swap 29 = .ok (.iastore, 1) := by decide +kernel
theorem dX7_swap_30 : decode cX7_swap 30 = .ok (.return_, 1) := by decide +kernel
theorem dX7_edge_0 : decode cX7_edge 0 = .ok (.aload_n 0, 1) := by decide +kernel
theorem dX7_edge_1 : decode cX7_edge 1 = .ok (.iload_n 1, 1) := by decide +kernel
theorem dX7_edge_2 : decode cX7_edge 2 = .ok (.invokevirtual 176, 3) := by decide +kernel
theorem dX7_edge_5 : decode cX7_edge 5 = .ok (.ifCond .ne 5, 3) := by decide +kernel
theorem dX7_edge_8 : decode cX7_edge 8 = .ok (.iconst (-1), 1) := by decide +kernel
theorem dX7_edge_9 : decode cX7_edge 9 = .ok (.ireturn, 1) := by decide +kernel
theorem dX7_edge_10 : decode cX7_edge 10 = .ok (.aload_n 0, 1) := by decide +kernel
theorem dX7_edge_11 : decode cX7_edge 11 = .ok (.invokevirtual 258, 3) := by decide +kernel
theorem dX7_edge_14 : decode cX7_edge 14 = .ok (.aload_n 0, 1) := by decide +kernel
theorem dX7_edge_15 : decode cX7_edge 15 = .ok (.getfield 252, 3) := by decide +kernel
theorem dX7_edge_18 : decode cX7_edge 18 = .ok (.istore_n 2, 1) := by decide +kernel
theorem dX7_edge_19 : decode cX7_edge 19 = .ok (.iconst 0, 1) := by decide +kernel
theorem dX7_edge_20 : decode cX7_edge 20 = .ok (.istore_n 3, 1) := by decide +kernel
theorem dX7_edge_21 : decode cX7_edge 21 = .ok (.iload_n 3, 1) := by decide +kernel
theorem dX7_edge_22 : decode cX7_edge 22 = .ok (.iconst 1, 1) := by decide +kernel
theorem dX7_edge_23 : decode cX7_edge 23 = .ok (.iadd, 1) := by decide +kernel
theorem dX7_edge_24 : decode cX7_edge 24 = .ok (.aload_n 0, 1) := by decide +kernel
theorem dX7_edge_25 : decode cX7_edge 25 = .ok (.getfield 19, 3) := by decide +kernel
theorem dX7_edge_28 : decode cX7_edge 28 = .ok (.iload_n 1, 1) := by decide +kernel
theorem dX7_edge_29 : decode cX7_edge 29 = .ok (.iaload, 1) := by decide +kernel
theorem dX7_edge_30 : decode cX7_edge 30 = .ok (.if_icmp .ge 41, 3) := by decide +kernel
theorem dX7_edge_33 : decode cX7_edge 33 = .ok (.aload_n 0, 1) := by decide +kernel
theorem dX7_edge_34 : decode cX7_edge 34 = .ok (.iconst 5, 1) := by decide +kernel
theorem dX7_edge_35 : decode cX7_edge 35 = .ok (.iload_n 1, 1) := by decide +kernel
theorem dX7_edge_36 : decode cX7_edge 36 = .ok (.imul, 1) := by decide +kernel
theorem dX7_edge_37 : decode cX7_edge 37 = .ok (.iload_n 3, 1) := by decide +kernel
theorem dX7_edge_38 : decode cX7_edge 38 = .ok (.iadd, 1) := by decide +kernel
theorem dX7_edge_39 : decode cX7_edge 39 = .ok (.invokevirtual 303, 3) := by decide +kernel
theorem dX7_edge_42 : decode cX7_edge 42 = .ok (.aload_n 0, 1) := by decide +kernel
theorem dX7_edge_43 : decode cX7_edge 43 = .ok (.invokevirtual 258, 3) := by decide +kernel
theorem dX7_edge_46 : decode cX7_edge 46 = .ok (.aload_n 0, 1) := by decide +kernel
theorem dX7_edge_47 : decode cX7_edge 47 = .ok (.iconst 5, 1) := by decide +kernel
theorem dX7_edge_48 : decode cX7_edge 48 = .ok (.iload_n 1, 1) := by decide +kernel
theorem dX7_edge_49 : decode cX7_edge 49 = .ok (.imul, 1) := by decide +kernel
theorem dX7_edge_50 : decode cX7_edge 50 = .ok (.iload_n 3, 1) := by decide +kernel
theorem dX7_edge_51 : decode cX7_edge 51 = .ok (.iadd, 1) := by decide +kernel
theorem dX7_edge_52 : decode cX7_edge 52 = .ok (.invokevirtual 303, 3) := by decide +kernel
theorem dX7_edge_55 : decode cX7_edge 55 = .ok (.aload_n 0, 1) := by decide +kernel
theorem dX7_edge_56 : decode cX7_edge 56 = .ok (.getfield 252, 3) := by decide +kernel
theorem dX7_edge_59 : decode cX7_edge 59 = .ok (.iload_n 2, 1) := by decide +kernel
theorem dX7_edge_60 : decode cX7_edge 60 = .ok (.if_icmp .eq 5, 3) := by decide +kernel
theorem dX7_edge_63 : decode cX7_edge 63 = .ok (.iload_n 3, 1) := by decide +kernel
theorem dX7_edge_64 : decode cX7_edge 64 = .ok (.ireturn, 1) := by decide +kernel
theorem dX7_edge_65 : decode cX7_edge 65 = .ok (.iinc 3 1, 3) := by decide +kernel
theorem dX7_edge_68 : decode cX7_edge 68 = .ok (.goto (-47), 3) := by decide +kernel
theorem dX7_edge_71 : decode cX7_edge 71 = .ok (.bipush (-4), 2) := by decide +kernel
theorem dX7_edge_73 : decode cX7_edge 73 = .ok (.ireturn, 1) := by decide +kernel
theorem dX7_keep_0 : decode cX7_keep 0 = .ok (.iconst 0, 1) := by decide +kernel
theorem dX7_keep_1 : decode cX7_keep 1 = .ok (.istore_n 2, 1) := by decide +kernel
theorem dX7_keep_2 : decode cX7_keep 2 = .ok (.iload_n 2, 1) := by decide +kernel
theorem dX7_keep_3 : decode cX7_keep 3 = .ok (.aload_n 1, 1) := by decide +kernel
theorem dX7_keep_4 : decode cX7_keep 4 = .ok (.arraylength, 1) := by decide +kernel
theorem dX7_keep_5 : decode cX7_keep 5 = .ok (.if_icmp .ge 31, 3) := by decide +kernel
theorem dX7_keep_8 : decode cX7_keep 8 = .ok (.aload_n 0, 1) := by decide +kernel
theorem dX7_keep_9 : decode cX7_keep 9 = .ok (.getfield 82, 3) := by decide +kernel
theorem dX7_keep_12 : decode cX7_keep 12 = .ok (.aload_n 0, 1) := by decide +kernel
theorem dX7_keep_13 : decode cX7_keep 13 = .ok (.getfield 306, 3) := by decide +kernel
theorem dX7_keep_16 : decode cX7_keep 16 = .ok (.aload_n 1, 1) := by decide +kernel
theorem dX7_keep_17 : decode cX7_keep 17 = .ok (.iload_n 2, 1) := by decide +kernel
theorem dX7_keep_18 : decode cX7_keep 18 = .ok (.iaload, 1) := by decide +kernel
theorem dX7_keep_19 : decode cX7_keep 19 = .ok (.iastore, 1) := by decide +kernel
theorem dX7_keep_20 : decode cX7_keep 20 = .ok (.aload_n 0, 1) := by decide +kernel
theorem dX7_keep_21 : decode cX7_keep 21 = .ok (.dup, 1) := by decide +kernel
theorem dX7_keep_22 : decode cX7_keep 22 = .ok (.getfield 306, 3) := by decide +kernel
theorem dX7_keep_25 : decode cX7_keep 25 = .ok (.iconst 1, 1) := by decide +kernel
theorem dX7_keep_26 : decode cX7_keep 26 = .ok (.iadd, 1) := by decide +kernel
theorem dX7_keep_27 : decode cX7_keep 27 = .ok (.putfield 306, 3) := by decide +kernel
theorem dX7_keep_30 : decode cX7_keep 30 = .ok (.iinc 2 1, 3) := by decide +kernel
theorem dX7_keep_33 : decode cX7_keep 33 = .ok (.goto (-31), 3) := by decide +kernel
theorem dX7_keep_36 : decode cX7_keep 36 = .ok (.return_, 1) := by decide +kernel
theorem dX7_bring_0 : decode cX7_bring 0 = .ok (.iconst 0, 1) := by decide +kernel
theorem dX7_bring_1 : decode cX7_bring 1 = .ok (.istore_n 2, 1) := by decide +kernel
theorem dX7_bring_2 : decode cX7_bring 2 = .ok (.iload_n 2, 1) := by decide +kernel
theorem dX7_bring_3 : decode cX7_bring 3 = .ok (.aload_n 1, 1) := by decide +kernel
theorem dX7_bring_4 : decode cX7_bring 4 = .ok (.arraylength, 1) := by decide +kernel
theorem dX7_bring_5 : decode cX7_bring 5 = .ok (.if_icmp .ge 31, 3) := by decide +kernel
theorem dX7_bring_8 : decode cX7_bring 8 = .ok (.aload_n 1, 1) := by decide +kernel
theorem dX7_bring_9 : decode cX7_bring 9 = .ok (.iload_n 2, 1) := by decide +kernel
theorem dX7_bring_10 : decode cX7_bring 10 = .ok (.aload_n 0, 1) := by decide +kernel
theorem dX7_bring_11 : decode cX7_bring 11 = .ok (.getfield 82, 3) := by decide +kernel
theorem dX7_bring_14 : decode cX7_bring 14 = .ok (.aload_n 0, 1) := by decide +kernel
theorem dX7_bring_15 : decode cX7_bring 15 = .ok (.getfield 306, 3) := by decide +kernel
theorem dX7_bring_18 : decode cX7_bring 18 = .ok (.iaload, 1) := by decide +kernel
theorem dX7_bring_19 : decode cX7_bring 19 = .ok (.iastore, 1) := by decide +kernel
theorem dX7_bring_20 : decode cX7_bring 20 = .ok (.aload_n 0, 1) := by decide +kernel
theorem dX7_bring_21 : decode cX7_bring 21 = .ok (.dup, 1) := by decide +kernel
theorem dX7_bring_22 : decode cX7_bring 22 = .ok (.getfield 306, 3) := by decide +kernel
theorem dX7_bring_25 : decode cX7_bring 25 = .ok (.iconst 1, 1) := by decide +kernel
theorem dX7_bring_26 : decode cX7_bring 26 = .ok (.iadd, 1) := by decide +kernel
theorem dX7_bring_27 : decode cX7_bring 27 = .ok (.putfield 306, 3) := by decide +kernel
theorem dX7_bring_30 : decode cX7_bring 30 = .ok (.iinc 2 1, 3) := by decide +kernel
theorem dX7_bring_33 : decode cX7_bring 33 = .ok (.goto (-31), 3) := by decide +kernel
theorem dX7_bring_36 : decode cX7_bring 36 = .ok (.return_, 1) := by decide +kernel
theorem dX7_image_0 : decode cX7_image 0 = .ok (.aload_n 0, 1) := by decide +kernel
theorem dX7_image_1 : decode cX7_image 1 = .ok (.iconst 0, 1) := by decide +kernel
theorem dX7_image_2 : decode cX7_image 2 = .ok (.putfield 306, 3) := by decide +kernel
theorem dX7_image_5 : decode cX7_image 5 = .ok (.aload_n 0, 1) := by decide +kernel

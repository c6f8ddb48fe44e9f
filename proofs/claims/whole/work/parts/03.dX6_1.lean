theorem dX6_ring_9 : decode cX6_ring 9 = .ok (.iconst (-1), 1) := by decide +kernel
theorem dX6_ring_10 : decode cX6_ring 10 = .ok (.ireturn, 1) := by decide +kernel
theorem dX6_ring_11 : decode cX6_ring 11 = .ok (.aload_n 0, 1) := by decide +kernel
theorem dX6_ring_12 : decode cX6_ring 12 = .ok (.invokevirtual 123, 3) := by decide +kernel
theorem dX6_ring_15 : decode cX6_ring 15 = .ok (.ifCond .ne 15, 3) := by decide +kernel
theorem dX6_ring_18 : decode cX6_ring 18 = .ok (.aload_n 0, 1) := by decide +kernel
theorem dX6_ring_19 : decode cX6_ring 19 = .ok (.getfield 19, 3) := by decide +kernel
theorem dX6_ring_22 : decode cX6_ring 22 = .ok (.iconst 0, 1) := by decide +kernel
theorem dX6_ring_23 : decode cX6_ring 23 = .ok (.invokevirtual 189, 3) := by decide +kernel
theorem dX6_ring_26 : decode cX6_ring 26 = .ok (.iconst (-1), 1) := by decide +kernel
theorem dX6_ring_27 : decode cX6_ring 27 = .ok (.if_icmp .eq 6, 3) := by decide +kernel
theorem dX6_ring_30 : decode cX6_ring 30 = .ok (.bipush (-2), 2) := by decide +kernel
theorem dX6_ring_32 : decode cX6_ring 32 = .ok (.ireturn, 1) := by decide +kernel
theorem dX6_ring_33 : decode cX6_ring 33 = .ok (.aload_n 0, 1) := by decide +kernel
theorem dX6_ring_34 : decode cX6_ring 34 = .ok (.getfield 40, 3) := by decide +kernel
theorem dX6_ring_37 : decode cX6_ring 37 = .ok (.aload_n 0, 1) := by decide +kernel
theorem dX6_ring_38 : decode cX6_ring 38 = .ok (.getfield 19, 3) := by decide +kernel
theorem dX6_ring_41 : decode cX6_ring 41 = .ok (.invokevirtual 192, 3) := by decide +kernel
theorem dX6_ring_44 : decode cX6_ring 44 = .ok (.aload_n 0, 1) := by decide +kernel
theorem dX6_ring_45 : decode cX6_ring 45 = .ok (.getfield 40, 3) := by decide +kernel
theorem dX6_ring_48 : decode cX6_ring 48 = .ok (.aload_n 0, 1) := by decide +kernel
theorem dX6_ring_49 : decode cX6_ring 49 = .ok (.getfield 26, 3) := by decide +kernel
theorem dX6_ring_52 : decode cX6_ring 52 = .ok (.invokevirtual 172, 3) := by decide +kernel
theorem dX6_ring_55 : decode cX6_ring 55 = .ok (.invokevirtual 195, 3) := by decide +kernel
theorem dX6_ring_58 : decode cX6_ring 58 = .ok (.aload_n 0, 1) := by decide +kernel
theorem dX6_ring_59 : decode cX6_ring 59 = .ok (.getfield 26, 3) := by decide +kernel
theorem dX6_ring_62 : decode cX6_ring 62 = .ok (.invokevirtual 199, 3) := by decide +kernel
theorem dX6_ring_65 : decode cX6_ring 65 = .ok (.istore_n 2, 1) := by decide +kernel
theorem dX6_ring_66 : decode cX6_ring 66 = .ok (.aload_n 0, 1) := by decide +kernel
theorem dX6_ring_67 : decode cX6_ring 67 = .ok (.iload_n 2, 1) := by decide +kernel
theorem dX6_ring_68 : decode cX6_ring 68 = .ok (.invokevirtual 202, 3) := by decide +kernel
theorem dX6_ring_71 : decode cX6_ring 71 = .ok (.istore_n 3, 1) := by decide +kernel
theorem dX6_ring_72 : decode cX6_ring 72 = .ok (.iload_n 1, 1) := by decide +kernel
theorem dX6_ring_73 : decode cX6_ring 73 = .ok (.ifCond .ne 12, 3) := by decide +kernel
theorem dX6_ring_76 : decode cX6_ring 76 = .ok (.aload_n 0, 1) := by decide +kernel
theorem dX6_ring_77 : decode cX6_ring 77 = .ok (.iload_n 2, 1) := by decide +kernel
theorem dX6_ring_78 : decode cX6_ring 78 = .ok (.iload_n 3, 1) := by decide +kernel
theorem dX6_ring_79 : decode cX6_ring 79 = .ok (.invokevirtual 205, 3) := by decide +kernel
theorem dX6_ring_82 : decode cX6_ring 82 = .ok (.goto 4, 3) := by decide +kernel
theorem dX6_ring_85 : decode cX6_ring 85 = .ok (.iload_n 3, 1) := by decide +kernel
theorem dX6_ring_86 : decode cX6_ring 86 = .ok (.ireturn, 1) := by decide +kernel
theorem dX6_chance_0 : decode cX6_chance 0 = .ok (.iload_n 1, 1) := by decide +kernel
theorem dX6_chance_1 : decode cX6_chance 1 = .ok (.invokestatic 130, 3) := by decide +kernel
theorem dX6_chance_4 : decode cX6_chance 4 = .ok (.ifCond .eq 23, 3) := by decide +kernel
theorem dX6_chance_7 : decode cX6_chance 7 = .ok (.iload_n 2, 1) := by decide +kernel
theorem dX6_chance_8 : decode cX6_chance 8 = .ok (.iconst 1, 1) := by decide +kernel
theorem dX6_chance_9 : decode cX6_chance 9 = .ok (.if_icmp .lt 18, 3) := by decide +kernel
theorem dX6_chance_12 : decode cX6_chance 12 = .ok (.iload_n 2, 1) := by decide +kernel
theorem dX6_chance_13 : decode cX6_chance 13 = .ok (.bipush 12, 2) := by decide +kernel
theorem dX6_chance_15 : decode cX6_chance 15 = .ok (.if_icmp .gt 12, 3) := by decide +kernel
theorem dX6_chance_18 : decode cX6_chance 18 = .ok (.iload_n 3, 1) := by decide +kernel
theorem dX6_chance_19 : decode cX6_chance 19 = .ok (.ifCond .lt 8, 3) := by decide +kernel
theorem dX6_chance_22 : decode cX6_chance 22 = .ok (.iload_n 3, 1) := by decide +kernel
theorem dX6_chance_23 : decode cX6_chance 23 = .ok (.iconst 1, 1) := by decide +kernel
theorem dX6_chance_24 : decode cX6_chance 24 = .ok (.if_icmp .le 7, 3) := by decide +kernel
theorem dX6_chance_27 : decode cX6_chance 27 = .ok (.ldc2_w 208, 3) := by decide +kernel
theorem dX6_chance_30 : decode cX6_chance 30 = .ok (.lreturn, 1) := by decide +kernel
theorem dX6_chance_31 : decode cX6_chance 31 = .ok (.aload_n 0, 1) := by decide +kernel
theorem dX6_chance_32 : decode cX6_chance 32 = .ok (.invokevirtual 123, 3) := by decide +kernel
theorem dX6_chance_35 : decode cX6_chance 35 = .ok (.ifCond .eq 7, 3) := by decide +kernel
theorem dX6_chance_38 : decode cX6_chance 38 = .ok (.ldc2_w 210, 3) := by decide +kernel
theorem dX6_chance_41 : decode cX6_chance 41 = .ok (.lreturn, 1) := by decide +kernel
theorem dX6_chance_42 : decode cX6_chance 42 = .ok (.aload_n 0, 1) := by decide +kernel
theorem dX6_chance_43 : decode cX6_chance 43 = .ok (.getfield 49, 3) := by decide +kernel
theorem dX6_chance_46 : decode cX6_chance 46 = .ok (.aload_n 0, 1) := by decide +kernel
theorem dX6_chance_47 : decode cX6_chance 47 = .ok (.getfield 19, 3) := by decide +kernel
theorem dX6_chance_50 : decode cX6_chance 50 = .ok (.aload_n 0, 1) := by decide +kernel
theorem dX6_chance_51 : decode cX6_chance 51 = .ok (.getfield 26, 3) := by decide +kernel
theorem dX6_chance_54 : decode cX6_chance 54 = .ok (.iload_n 1, 1) := by decide +kernel
theorem dX6_chance_55 : decode cX6_chance 55 = .ok (.iload_n 2, 1) := by decide +kernel
theorem dX6_chance_56 : decode cX6_chance 56 = .ok (.invokevirtual 212, 3) := by decide +kernel
theorem dX6_chance_59 : decode cX6_chance 59 = .ok (.iload_n 3, 1) := by decide +kernel
theorem dX6_chance_60 : decode cX6_chance 60 = .ok (.ifCond .ne 13, 3) := by decide +kernel
theorem dX6_chance_63 : decode cX6_chance 63 = .ok (.aload_n 0, 1) := by decide +kernel
theorem dX6_chance_64 : decode cX6_chance 64 = .ok (.getfield 49, 3) := by decide +kernel
theorem dX6_chance_67 : decode cX6_chance 67 = .ok (.getfield 216, 3) := by decide +kernel
theorem dX6_chance_70 : decode cX6_chance 70 = .ok (.goto 10, 3) := by decide +kernel
theorem dX6_chance_73 : decode cX6_chance 73 = .ok (.aload_n 0, 1) := by decide +kernel
theorem dX6_chance_74 : decode cX6_chance 74 = .ok (.getfield 49, 3) := by decide +kernel
theorem dX6_chance_77 : decode cX6_chance 77 = .ok (.getfield 219, 3) := by decide +kernel
theorem dX6_chance_80 : decode cX6_chance 80 = .ok (.lreturn, 1) := by decide +kernel
theorem dX6_can_0 : decode cX6_can 0 = .ok (.iload_n 1, 1) := by decide +kernel
theorem dX6_can_1 : decode cX6_can 1 = .ok (.invokestatic 130, 3) := by decide +kernel
theorem dX6_can_4 : decode cX6_can 4 = .ok (.ifCond .eq 10, 3) := by decide +kernel
theorem dX6_can_7 : decode cX6_can 7 = .ok (.iload_n 2, 1) := by decide +kernel
theorem dX6_can_8 : decode cX6_can 8 = .ok (.invokestatic 114, 3) := by decide +kernel
theorem dX6_can_11 : decode cX6_can 11 = .ok (.ifCond .ne 5, 3) := by decide +kernel
theorem dX6_can_14 : decode cX6_can 14 = .ok (.iconst (-1), 1) := by decide +kernel
theorem dX6_can_15 : decode cX6_can 15 = .ok (.ireturn, 1) := by decide +kernel
theorem dX6_can_16 : decode cX6_can 16 = .ok (.aload_n 0, 1) := by decide +kernel
theorem dX6_can_17 : decode cX6_can 17 = .ok (.invokevirtual 123, 3) := by decide +kernel
theorem dX6_can_20 : decode cX6_can 20 = .ok (.ifCond .eq 6, 3) := by decide +kernel
theorem dX6_can_23 : decode cX6_can 23 = .ok (.bipush (-2), 2) := by decide +kernel
theorem dX6_can_25 : decode cX6_can 25 = .ok (.ireturn, 1) := by decide +kernel
theorem dX6_can_26 : decode cX6_can 26 = .ok (.aload_n 0, 1) := by decide +kernel
theorem dX6_can_27 : decode cX6_can 27 = .ok (.getfield 19, 3) := by decide +kernel
theorem dX6_can_30 : decode cX6_can 30 = .ok (.iload_n 1, 1) := by decide +kernel
theorem dX6_can_31 : decode cX6_can 31 = .ok (.invokevirtual 221, 3) := by decide +kernel
theorem dX6_can_34 : decode cX6_can 34 = .ok (.istore_n 3, 1) := by decide +kernel
theorem dX6_can_35 : decode cX6_can 35 = .ok (.aload_n 0, 1) := by decide +kernel
theorem dX6_can_36 : decode cX6_can 36 = .ok (.getfield 19, 3) := by decide +kernel
theorem dX6_can_39 : decode cX6_can 39 = .ok (.iload_n 3, 1) := by decide +kernel
theorem dX6_can_40 : decode cX6_can 40 = .ok (.invokevirtual 224, 3) := by decide +kernel
theorem dX6_can_43 : decode cX6_can 43 = .ok (.aload_n 0, 1) := by decide +kernel
theorem dX6_can_44 : decode cX6_can 44 = .ok (.getfield 19, 3) := by decide +kernel
theorem dX6_can_47 : decode cX6_can 47 = .ok (.iload_n 2, 1) := by decide +kernel
theorem dX6_can_48 : decode cX6_can 48 = .ok (.invokevirtual 127, 3) := by decide +kernel
theorem dX6_can_51 : decode cX6_can 51 = .ok (.if_icmp .lt 7, 3) := by decide +kernel
theorem dX6_can_54 : decode cX6_can 54 = .ok (.iload_n 3, 1) := by decide +kernel
theorem dX6_can_55 : decode cX6_can 55 = .ok (.goto 5, 3) := by decide +kernel
theorem dX6_can_58 : decode cX6_can 58 = .ok (.bipush (-4), 2) := by decide +kernel
theorem dX6_can_60 : decode cX6_can 60 = .ok (.ireturn, 1) := by decide +kernel
theorem dX6_makes_0 : decode cX6_makes 0 = .ok (.iload_n 1, 1) := by decide +kernel
theorem dX6_makes_1 : decode cX6_makes 1 = .ok (.invokestatic 130, 3) := by decide +kernel
theorem dX6_makes_4 : decode cX6_makes 4 = .ok (.ifCond .eq 10, 3) := by decide +kernel
theorem dX6_makes_7 : decode cX6_makes 7 = .ok (.iload_n 2, 1) := by decide +kernel
theorem dX6_makes_8 : decode cX6_makes 8 = .ok (.invokestatic 114, 3) := by decide +kernel
theorem dX6_makes_11 : decode cX6_makes 11 = .ok (.ifCond .ne 5, 3) := by decide +kernel
theorem dX6_makes_14 : decode cX6_makes 14 = .ok (.iconst (-1), 1) := by decide +kernel
theorem dX6_makes_15 : decode cX6_makes 15 = .ok (.ireturn, 1) := by decide +kernel
theorem dX6_makes_16 : decode cX6_makes 16 = .ok (.aload_n 0, 1) := by decide +kernel
theorem dX6_makes_17 : decode cX6_makes 17 = .ok (.invokevirtual 123, 3) := by decide +kernel
theorem dX6_makes_20 : decode cX6_makes 20 = .ok (.ifCond .eq 6, 3) := by decide +kernel
theorem dX6_makes_23 : decode cX6_makes 23 = .ok (.bipush (-2), 2) := by decide +kernel
theorem dX6_makes_25 : decode cX6_makes 25 = .ok (.ireturn, 1) := by decide +kernel
theorem dX6_makes_26 : decode cX6_makes 26 = .ok (.aload_n 0, 1) := by decide +kernel
theorem dX6_makes_27 : decode cX6_makes 27 = .ok (.aload_n 0, 1) := by decide +kernel
theorem dX6_makes_28 : decode cX6_makes 28 = .ok (.getfield 19, 3) := by decide +kernel
theorem dX6_makes_31 : decode cX6_makes 31 = .ok (.iload_n 1, 1) := by decide +kernel
theorem dX6_makes_32 : decode cX6_makes 32 = .ok (.invokevirtual 221, 3) := by decide +kernel
theorem dX6_makes_35 : decode cX6_makes 35 = .ok (.aload_n 0, 1) := by decide +kernel
theorem dX6_makes_36 : decode cX6_makes 36 = .ok (.getfield 19, 3) := by decide +kernel
theorem dX6_makes_39 : decode cX6_makes 39 = .ok (.iload_n 2, 1) := by decide +kernel
theorem dX6_makes_40 : decode cX6_makes 40 = .ok (.invokevirtual 127, 3) := by decide +kernel
theorem dX6_makes_43 : decode cX6_makes 43 = .ok (.invokevirtual 227, 3) := by decide +kernel
theorem dX6_makes_46 : decode cX6_makes 46 = .ok (.ireturn, 1) := by decide +kernel
theorem dX6_stops_0 : decode cX6_stops 0 = .ok (.iload_n 1, 1) := by decide +kernel
theorem dX6_stops_1 : decode cX6_stops 1 = .ok (.invokestatic 114, 3) := by decide +kernel
theorem dX6_stops_4 : decode cX6_stops 4 = .ok (.ifCond .ne 5, 3) := by decide +kernel
theorem dX6_stops_7 : decode cX6_stops 7 = .ok (.iconst (-1), 1) := by decide +kernel
theorem dX6_stops_8 : decode cX6_stops 8 = .ok (.ireturn, 1) := by decide +kernel
theorem dX6_stops_9 : decode cX6_stops 9 = .ok (.aload_n 0, 1) := by decide +kernel
theorem dX6_stops_10 : decode cX6_stops 10 = .ok (.invokevirtual 123, 3) := by decide +kernel
theorem dX6_stops_13 : decode cX6_stops 13 = .ok (.ifCond .eq 6, 3) := by decide +kernel
theorem dX6_stops_16 : decode cX6_stops 16 = .ok (.bipush (-2), 2) := by decide +kernel
theorem dX6_stops_18 : decode cX6_stops 18 = .ok (.ireturn, 1) := by decide +kernel
theorem dX6_stops_19 : decode cX6_stops 19 = .ok (.aload_n 0, 1) := by decide +kernel
theorem dX6_stops_20 : decode cX6_stops 20 = .ok (.getfield 19, 3) := by decide +kernel
theorem dX6_stops_23 : decode cX6_stops 23 = .ok (.invokevirtual 165, 3) := by decide +kernel
theorem dX6_stops_26 : decode cX6_stops 26 = .ok (.aload_n 0, 1) := by decide +kernel
theorem dX6_stops_27 : decode cX6_stops 27 = .ok (.getfield 19, 3) := by decide +kernel
theorem dX6_stops_30 : decode cX6_stops 30 = .ok (.iload_n 1, 1) := by decide +kernel
theorem dX6_stops_31 : decode cX6_stops 31 = .ok (.invokevirtual 127, 3) := by decide +kernel
theorem dX6_stops_34 : decode cX6_stops 34 = .ok (.isub, 1) := by decide +kernel
theorem dX6_stops_35 : decode cX6_stops 35 = .ok (.iconst 1, 1) := by decide +kernel
theorem dX6_stops_36 : decode cX6_stops 36 = .ok (.iadd, 1) := by decide +kernel
theorem dX6_stops_37 : decode cX6_stops 37 = .ok (.istore_n 2, 1) := by decide +kernel
theorem dX6_stops_38 : decode cX6_stops 38 = .ok (.aload_n 0, 1) := by decide +kernel
theorem dX6_stops_39 : decode cX6_stops 39 = .ok (.aload_n 0, 1) := by decide +kernel
theorem dX6_stops_40 : decode cX6_stops 40 = .ok (.getfield 19, 3) := by decide +kernel
theorem dX6_stops_43 : decode cX6_stops 43 = .ok (.invokevirtual 230, 3) := by decide +kernel
theorem dX6_stops_46 : decode cX6_stops 46 = .ok (.iload_n 2, 1) := by decide +kernel
theorem dX6_stops_47 : decode cX6_stops 47 = .ok (.invokevirtual 227, 3) := by decide +kernel
theorem dX6_stops_50 : decode cX6_stops 50 = .ok (.ireturn, 1) := by decide +kernel
theorem dX6_rather_0 : decode cX6_rather 0 = .ok (.iload_n 1, 1) := by decide +kernel
theorem dX6_rather_1 : decode cX6_rather 1 = .ok (.invokestatic 130, 3) := by decide +kernel
theorem dX6_rather_4 : decode cX6_rather 4 = .ok (.ifCond .eq 15, 3) := by decide +kernel
theorem dX6_rather_7 : decode cX6_rather 7 = .ok (.iload_n 2, 1) := by decide +kernel
theorem dX6_rather_8 : decode cX6_rather 8 = .ok (.invokestatic 130, 3) := by decide +kernel
theorem dX6_rather_11 : decode cX6_rather 11 = .ok (.ifCond .eq 8, 3) := by decide +kernel
theorem dX6_rather_14 : decode cX6_rather 14 = .ok (.iload_n 1, 1) := by decide +kernel
theorem dX6_rather_15 : decode cX6_rather 15 = .ok (.iload_n 2, 1) := by decide +kernel
theorem dX6_rather_16 : decode cX6_rather 16 = .ok (.if_icmp .ne 5, 3) := by decide +kernel
theorem dX6_rather_19 : decode cX6_rather 19 = .ok (.iconst (-1), 1) := by decide +kernel
theorem dX6_rather_20 : decode cX6_rather 20 = .ok (.ireturn, 1) := by decide +kernel
theorem dX6_rather_21 : decode cX6_rather 21 = .ok (.aload_n 0, 1) := by decide +kernel
theorem dX6_rather_22 : decode cX6_rather 22 = .ok (.invokevirtual 123, 3) := by decide +kernel
theorem dX6_rather_25 : decode cX6_rather 25 = .ok (.ifCond .eq 8, 3) := by decide +kernel
theorem dX6_rather_28 : decode cX6_rather 28 = .ok (.bipush (-2), 2) := by decide +kernel
theorem dX6_rather_30 : decode cX6_rather 30 = .ok (.goto 12, 3) := by decide +kernel
theorem dX6_rather_33 : decode cX6_rather 33 = .ok (.aload_n 0, 1) := by decide +kernel
theorem dX6_rather_34 : decode cX6_rather 34 = .ok (.getfield 19, 3) := by decide +kernel
theorem dX6_rather_37 : decode cX6_rather 37 = .ok (.iload_n 1, 1) := by decide +kernel
theorem dX6_rather_38 : decode cX6_rather 38 = .ok (.iload_n 2, 1) := by decide +kernel
theorem dX6_rather_39 : decode cX6_rather 39 = .ok (.invokevirtual 233, 3) := by decide +kernel
theorem dX6_rather_42 : decode cX6_rather 42 = .ok (.ireturn, 1) := by decide +kernel
theorem dX6_beats_0 : decode cX6_beats 0 = .ok (.iload_n 1, 1) := by decide +kernel
theorem dX6_beats_1 : decode cX6_beats 1 = .ok (.ifCond .lt 8, 3) := by decide +kernel
theorem dX6_beats_4 : decode cX6_beats 4 = .ok (.iload_n 1, 1) := by decide +kernel
theorem dX6_beats_5 : decode cX6_beats 5 = .ok (.iconst 1, 1) := by decide +kernel
theorem dX6_beats_6 : decode cX6_beats 6 = .ok (.if_icmp .le 5, 3) := by decide +kernel
theorem dX6_beats_9 : decode cX6_beats 9 = .ok (.iconst (-1), 1) := by decide +kernel
theorem dX6_beats_10 : decode cX6_beats 10 = .ok (.ireturn, 1) := by decide +kernel
theorem dX6_beats_11 : decode cX6_beats 11 = .ok (.aload_n 0, 1) := by decide +kernel
theorem dX6_beats_12 : decode cX6_beats 12 = .ok (.invokevirtual 123, 3) := by decide +kernel
theorem dX6_beats_15 : decode cX6_beats 15 = .ok (.ifCond .eq 6, 3) := by decide +kernel
theorem dX6_beats_18 : decode cX6_beats 18 = .ok (.bipush (-2), 2) := by decide +kernel
theorem dX6_beats_20 : decode cX6_beats 20 = .ok (.ireturn, 1) := by decide +kernel
theorem dX6_beats_21 : decode cX6_beats 21 = .ok (.iconst 0, 1) := by decide +kernel
theorem dX6_beats_22 : decode cX6_beats 22 = .ok (.istore_n 2, 1) := by decide +kernel
theorem dX6_beats_23 : decode cX6_beats 23 = .ok (.iload_n 2, 1) := by decide +kernel
theorem dX6_beats_24 : decode cX6_beats 24 = .ok (.iconst 5, 1) := by decide +kernel
theorem dX6_beats_25 : decode cX6_beats 25 = .ok (.if_icmp .ge 20, 3) := by decide +kernel
theorem dX6_beats_28 : decode cX6_beats 28 = .ok (.aload_n 0, 1) := by decide +kernel
theorem dX6_beats_29 : decode cX6_beats 29 = .ok (.iload_n 2, 1) := by decide +kernel
theorem dX6_beats_30 : decode cX6_beats 30 = .ok (.iload_n 1, 1) := by decide +kernel
theorem dX6_beats_31 : decode cX6_beats 31 = .ok (.invokevirtual 236, 3) := by decide +kernel
theorem dX6_beats_34 : decode cX6_beats 34 = .ok (.ifCond .eq 5, 3) := by decide +kernel
theorem dX6_beats_37 : decode cX6_beats 37 = .ok (.iload_n 2, 1) := by decide +kernel
theorem dX6_beats_38 : decode cX6_beats 38 = .ok (.ireturn, 1) := by decide +kernel
theorem dX6_beats_39 : decode cX6_beats 39 = .ok (.iinc 2 1, 3) := by decide +kernel
theorem dX6_beats_42 : decode cX6_beats 42 = .ok (.goto (-19), 3) := by decide +kernel
theorem dX6_beats_45 : decode cX6_beats 45 = .ok (.bipush (-4), 2) := by decide +kernel
theorem dX6_beats_47 : decode cX6_beats 47 = .ok (.ireturn, 1) := by decide +kernel
theorem dX6_waits_0 : decode cX6_waits 0 = .ok (.aload_n 0, 1) := by decide +kernel
theorem dX6_waits_1 : decode cX6_waits 1 = .ok (.iload_n 1, 1) := by decide +kernel
theorem dX6_waits_2 : decode cX6_waits 2 = .ok (.invokevirtual 83, 3) := by decide +kernel
theorem dX6_waits_5 : decode cX6_waits 5 = .ok (.ifCond .eq 12, 3) := by decide +kernel
theorem dX6_waits_8 : decode cX6_waits 8 = .ok (.iload_n 2, 1) := by decide +kernel
theorem dX6_waits_9 : decode cX6_waits 9 = .ok (.ifCond .lt 8, 3) := by decide +kernel
theorem dX6_waits_12 : decode cX6_waits 12 = .ok (.iload_n 2, 1) := by decide +kernel
theorem dX6_waits_13 : decode cX6_waits 13 = .ok (.iconst 1, 1) := by decide +kernel
theorem dX6_waits_14 : decode cX6_waits 14 = .ok (.if_icmp .le 5, 3) := by decide +kernel
theorem dX6_waits_17 : decode cX6_waits 17 = .ok (.iconst (-1), 1) := by decide +kernel
theorem dX6_waits_18 : decode cX6_waits 18 = .ok (.ireturn, 1) := by decide +kernel
theorem dX6_waits_19 : decode cX6_waits 19 = .ok (.iconst 0, 1) := by decide +kernel
theorem dX6_waits_20 : decode cX6_waits 20 = .ok (.istore_n 3, 1) := by decide +kernel
theorem dX6_waits_21 : decode cX6_waits 21 = .ok (.aload_n 0, 1) := by decide +kernel
theorem dX6_waits_22 : decode cX6_waits 22 = .ok (.iload_n 1, 1) := by decide +kernel
theorem dX6_waits_23 : decode cX6_waits 23 = .ok (.iconst 0, 1) := by decide +kernel
theorem dX6_waits_24 : decode cX6_waits 24 = .ok (.invokevirtual 240, 3) := by decide +kernel
theorem dX6_waits_27 : decode cX6_waits 27 = .ok (.istore 4, 2) := by decide +kernel
theorem dX6_waits_29 : decode cX6_waits 29 = .ok (.iconst 1, 1) := by decide +kernel
theorem dX6_waits_30 : decode cX6_waits 30 = .ok (.istore 5, 2) := by decide +kernel
theorem dX6_waits_32 : decode cX6_waits 32 = .ok (.iload 5, 2) := by decide +kernel
theorem dX6_waits_34 : decode cX6_waits 34 = .ok (.iconst 4, 1) := by decide +kernel
theorem dX6_waits_35 : decode cX6_waits 35 = .ok (.if_icmp .gt 32, 3) := by decide +kernel
theorem dX6_waits_38 : decode cX6_waits 38 = .ok (.aload_n 0, 1) := by decide +kernel
theorem dX6_waits_39 : decode cX6_waits 39 = .ok (.iload_n 1, 1) := by decide +kernel
theorem dX6_waits_40 : decode cX6_waits 40 = .ok (.iload 5, 2) := by decide +kernel
theorem dX6_waits_42 : decode cX6_waits 42 = .ok (.invokevirtual 240, 3) := by decide +kernel
theorem dX6_waits_45 : decode cX6_waits 45 = .ok (.istore 6, 2) := by decide +kernel
theorem dX6_waits_47 : decode cX6_waits 47 = .ok (.iload 6, 2) := by decide +kernel
theorem dX6_waits_49 : decode cX6_waits 49 = .ok (.iload 4, 2) := by decide +kernel
theorem dX6_waits_51 : decode cX6_waits 51 = .ok (.if_icmp .ge 10, 3) := by decide +kernel
theorem dX6_waits_54 : decode cX6_waits 54 = .ok (.iload 5, 2) := by decide +kernel
theorem dX6_waits_56 : decode cX6_waits 56 = .ok (.istore_n 3, 1) := by decide +kernel
theorem dX6_waits_57 : decode cX6_waits 57 = .ok (.iload 6, 2) := by decide +kernel
theorem dX6_waits_59 : decode cX6_waits 59 = .ok (.istore 4, 2) := by decide +kernel
theorem dX6_waits_61 : decode cX6_waits 61 = .ok (.iinc 5 1, 3) := by decide +kernel
theorem dX6_waits_64 : decode cX6_waits 64 = .ok (.goto (-32), 3) := by decide +kernel
theorem dX6_waits_67 : decode cX6_waits 67 = .ok (.iload_n 2, 1) := by decide +kernel
theorem dX6_waits_68 : decode cX6_waits 68 = .ok (.ifCond .ne 7, 3) := by decide +kernel
theorem dX6_waits_71 : decode cX6_waits 71 = .ok (.iload_n 3, 1) := by decide +kernel
theorem dX6_waits_72 : decode cX6_waits 72 = .ok (.goto 5, 3) := by decide +kernel
theorem dX6_waits_75 : decode cX6_waits 75 = .ok (.iload 4, 2) := by decide +kernel
theorem dX6_waits_77 : decode cX6_waits 77 = .ok (.ireturn, 1) := by decide +kernel
theorem dX6_aside_0 : decode cX6_aside 0 = .ok (.iload_n 1, 1) := by decide +kernel
theorem dX6_aside_1 : decode cX6_aside 1 = .ok (.ifCond .lt 8, 3) := by decide +kernel
theorem dX6_aside_4 : decode cX6_aside 4 = .ok (.iload_n 1, 1) := by decide +kernel
theorem dX6_aside_5 : decode cX6_aside 5 = .ok (.iconst 2, 1) := by decide +kernel
theorem dX6_aside_6 : decode cX6_aside 6 = .ok (.if_icmp .le 5, 3) := by decide +kernel
theorem dX6_aside_9 : decode cX6_aside 9 = .ok (.iconst (-1), 1) := by decide +kernel
theorem dX6_aside_10 : decode cX6_aside 10 = .ok (.ireturn, 1) := by decide +kernel
theorem dX6_aside_11 : decode cX6_aside 11 = .ok (.aload_n 0, 1) := by decide +kernel
theorem dX6_aside_12 : decode cX6_aside 12 = .ok (.invokevirtual 123, 3) := by decide +kernel
theorem dX6_aside_15 : decode cX6_aside 15 = .ok (.ifCond .eq 6, 3) := by decide +kernel
theorem dX6_aside_18 : decode cX6_aside 18 = .ok (.bipush (-2), 2) := by decide +kernel
theorem dX6_aside_20 : decode cX6_aside 20 = .ok (.ireturn, 1) := by decide +kernel
theorem dX6_aside_21 : decode cX6_aside 21 = .ok (.aload_n 0, 1) := by decide +kernel
theorem dX6_aside_22 : decode cX6_aside 22 = .ok (.invokevirtual 243, 3) := by decide +kernel
theorem dX6_aside_25 : decode cX6_aside 25 = .ok (.istore_n 2, 1) := by decide +kernel
theorem dX6_aside_26 : decode cX6_aside 26 = .ok (.iload_n 2, 1) := by decide +kernel
theorem dX6_aside_27 : decode cX6_aside 27 = .ok (.ifCond .ge 6, 3) := by decide +kernel
theorem dX6_aside_30 : decode cX6_aside 30 = .ok (.bipush (-4), 2) := by decide +kernel
theorem dX6_aside_32 : decode cX6_aside 32 = .ok (.ireturn, 1) := by decide +kernel
theorem dX6_aside_33 : decode cX6_aside 33 = .ok (.iload_n 1, 1) := by decide +kernel
theorem dX6_aside_34 : decode cX6_aside 34 = .ok (.lookupswitch 38 #[(0, 26), (1, 31)], 26) := by decide +kernel
theorem dX6_aside_60 : decode cX6_aside 60 = .ok (.iload_n 2, 1) := by decide +kernel
theorem dX6_aside_61 : decode cX6_aside 61 = .ok (.bipush 7, 2) := by decide +kernel
theorem dX6_aside_63 : decode cX6_aside 63 = .ok (.iand, 1) := by decide +kernel
theorem dX6_aside_64 : decode cX6_aside 64 = .ok (.ireturn, 1) := by decide +kernel
theorem dX6_aside_65 : decode cX6_aside 65 = .ok (.iload_n 2, 1) := by decide +kernel
theorem dX6_aside_66 : decode cX6_aside 66 = .ok (.iconst 3, 1) := by decide +kernel
theorem dX6_aside_67 : decode cX6_aside 67 = .ok (.ishr, 1) := by decide +kernel
theorem dX6_aside_68 : decode cX6_aside 68 = .ok (.bipush 7, 2) := by decide +kernel
theorem dX6_aside_70 : decode cX6_aside 70 = .ok (.iand, 1) := by decide +kernel
theorem dX6_aside_71 : decode cX6_aside 71 = .ok (.ireturn, 1) := by decide +kernel
theorem dX6_aside_72 : decode cX6_aside 72 = .ok (.iload_n 2, 1) := by decide +kernel
theorem dX6_aside_73 : decode cX6_aside 73 = .ok (.bipush 6, 2) := by decide +kernel
theorem dX6_aside_75 : decode cX6_aside 75 = .ok (.ishr, 1) := by decide +kernel
theorem dX6_aside_76 : decode cX6_aside 76 = .ok (.ireturn, 1) := by decide +kernel
theorem dX6_edge_0 : decode cX6_edge 0 = .ok (.aload_n 0, 1) := by decide +kernel
theorem dX6_edge_1 : decode cX6_edge 1 = .ok (.iload_n 1, 1) := by decide +kernel
theorem dX6_edge_2 : decode cX6_edge 2 = .ok (.invokevirtual 83, 3) := by decide +kernel
theorem dX6_edge_5 : decode cX6_edge 5 = .ok (.ifCond .ne 5, 3) := by decide +kernel
theorem dX6_edge_8 : decode cX6_edge 8 = .ok (.iconst (-1), 1) := by decide +kernel
theorem dX6_edge_9 : decode cX6_edge 9 = .ok (.ireturn, 1) := by decide +kernel
theorem dX6_edge_10 : decode cX6_edge 10 = .ok (.aload_n 0, 1) := by decide +kernel
theorem dX6_edge_11 : decode cX6_edge 11 = .ok (.getfield 40, 3) := by decide +kernel
theorem dX6_edge_14 : decode cX6_edge 14 = .ok (.aload_n 0, 1) := by decide +kernel
theorem dX6_edge_15 : decode cX6_edge 15 = .ok (.getfield 19, 3) := by decide +kernel
theorem dX6_edge_18 : decode cX6_edge 18 = .ok (.invokevirtual 192, 3) := by decide +kernel
theorem dX6_edge_21 : decode cX6_edge 21 = .ok (.aload_n 0, 1) := by decide +kernel
theorem dX6_edge_22 : decode cX6_edge 22 = .ok (.getfield 43, 3) := by decide +kernel
theorem dX6_edge_25 : decode cX6_edge 25 = .ok (.aload_n 0, 1) := by decide +kernel
theorem dX6_edge_26 : decode cX6_edge 26 = .ok (.getfield 40, 3) := by decide +kernel
theorem dX6_edge_29 : decode cX6_edge 29 = .ok (.invokevirtual 183, 3) := by decide +kernel
theorem dX6_edge_32 : decode cX6_edge 32 = .ok (.aload_n 0, 1) := by decide +kernel
theorem dX6_edge_33 : decode cX6_edge 33 = .ok (.getfield 43, 3) := by decide +kernel
theorem dX6_edge_36 : decode cX6_edge 36 = .ok (.getfield 159, 3) := by decide +kernel
theorem dX6_edge_39 : decode cX6_edge 39 = .ok (.istore_n 2, 1) := by decide +kernel
theorem dX6_edge_40 : decode cX6_edge 40 = .ok (.iconst 0, 1) := by decide +kernel
theorem dX6_edge_41 : decode cX6_edge 41 = .ok (.istore_n 3, 1) := by decide +kernel
theorem dX6_edge_42 : decode cX6_edge 42 = .ok (.iload_n 3, 1) := by decide +kernel
theorem dX6_edge_43 : decode cX6_edge 43 = .ok (.iconst 1, 1) := by decide +kernel
theorem dX6_edge_44 : decode cX6_edge 44 = .ok (.iadd, 1) := by decide +kernel
theorem dX6_edge_45 : decode cX6_edge 45 = .ok (.aload_n 0, 1) := by decide +kernel
theorem dX6_edge_46 : decode cX6_edge 46 = .ok (.getfield 19, 3) := by decide +kernel
theorem dX6_edge_49 : decode cX6_edge 49 = .ok (.getfield 100, 3) := by decide +kernel
theorem dX6_edge_52 : decode cX6_edge 52 = .ok (.iload_n 1, 1) := by decide +kernel
theorem dX6_edge_53 : decode cX6_edge 53 = .ok (.iaload, 1) := by decide +kernel
theorem dX6_edge_54 : decode cX6_edge 54 = .ok (.if_icmp .ge 51, 3) := by decide +kernel
theorem dX6_edge_57 : decode cX6_edge 57 = .ok (.aload_n 0, 1) := by decide +kernel
theorem dX6_edge_58 : decode cX6_edge 58 = .ok (.getfield 40, 3) := by decide +kernel
theorem dX6_edge_61 : decode cX6_edge 61 = .ok (.iload_n 1, 1) := by decide +kernel
theorem dX6_edge_62 : decode cX6_edge 62 = .ok (.iload_n 3, 1) := by decide +kernel
theorem dX6_edge_63 : decode cX6_edge 63 = .ok (.invokevirtual 246, 3) := by decide +kernel
theorem dX6_edge_66 : decode cX6_edge 66 = .ok (.aload_n 0, 1) := by decide +kernel
theorem dX6_edge_67 : decode cX6_edge 67 = .ok (.getfield 43, 3) := by decide +kernel
theorem dX6_edge_70 : decode cX6_edge 70 = .ok (.aload_n 0, 1) := by decide +kernel
theorem dX6_edge_71 : decode cX6_edge 71 = .ok (.getfield 40, 3) := by decide +kernel
theorem dX6_edge_74 : decode cX6_edge 74 = .ok (.invokevirtual 183, 3) := by decide +kernel
theorem dX6_edge_77 : decode cX6_edge 77 = .ok (.aload_n 0, 1) := by decide +kernel
theorem dX6_edge_78 : decode cX6_edge 78 = .ok (.getfield 43, 3) := by decide +kernel
theorem dX6_edge_81 : decode cX6_edge 81 = .ok (.getfield 159, 3) := by decide +kernel
theorem dX6_edge_84 : decode cX6_edge 84 = .ok (.iload_n 2, 1) := by decide +kernel
theorem dX6_edge_85 : decode cX6_edge 85 = .ok (.if_icmp .eq 5, 3) := by decide +kernel
theorem dX6_edge_88 : decode cX6_edge 88 = .ok (.iload_n 3, 1) := by decide +kernel
theorem dX6_edge_89 : decode cX6_edge 89 = .ok (.ireturn, 1) := by decide +kernel
theorem dX6_edge_90 : decode cX6_edge 90 = .ok (.aload_n 0, 1) := by decide +kernel
theorem dX6_edge_91 : decode cX6_edge 91 = .ok (.getfield 40, 3) := by decide +kernel
theorem dX6_edge_94 : decode cX6_edge 94 = .ok (.iload_n 1, 1) := by decide +kernel
theorem dX6_edge_95 : decode cX6_edge 95 = .ok (.iload_n 3, 1) := by decide +kernel
theorem dX6_edge_96 : decode cX6_edge 96 = .ok (.invokevirtual 246, 3) := by decide +kernel
theorem dX6_edge_99 : decode cX6_edge 99 = .ok (.iinc 3 1, 3) := by decide +kernel
theorem dX6_edge_102 : decode cX6_edge 102 = .ok (.goto (-60), 3) := by decide +kernel
theorem dX6_edge_105 : decode cX6_edge 105 = .ok (.bipush (-4), 2) := by decide +kernel
theorem dX6_edge_107 : decode cX6_edge 107 = .ok (.ireturn, 1) := by decide +kernel
theorem dX6_judge_0 : decode cX6_judge 0 = .ok (.iload 4, 2) := by decide +kernel
theorem dX6_judge_2 : decode cX6_judge 2 = .ok (.iconst 1, 1) := by decide +kernel
theorem dX6_judge_3 : decode cX6_judge 3 = .ok (.if_icmp .lt 9, 3) := by decide +kernel
theorem dX6_judge_6 : decode cX6_judge 6 = .ok (.iload 4, 2) := by decide +kernel
theorem dX6_judge_8 : decode cX6_judge 8 = .ok (.iconst 4, 1) := by decide +kernel
theorem dX6_judge_9 : decode cX6_judge 9 = .ok (.if_icmp .le 5, 3) := by decide +kernel
theorem dX6_judge_12 : decode cX6_judge 12 = .ok (.iconst (-1), 1) := by decide +kernel
theorem dX6_judge_13 : decode cX6_judge 13 = .ok (.ireturn, 1) := by decide +kernel
theorem dX6_judge_14 : decode cX6_judge 14 = .ok (.aload_n 0, 1) := by decide +kernel
theorem dX6_judge_15 : decode cX6_judge 15 = .ok (.getfield 56, 3) := by decide +kernel
theorem dX6_judge_18 : decode cX6_judge 18 = .ok (.iload_n 1, 1) := by decide +kernel
theorem dX6_judge_19 : decode cX6_judge 19 = .ok (.iload_n 2, 1) := by decide +kernel
theorem dX6_judge_20 : decode cX6_judge 20 = .ok (.iload_n 3, 1) := by decide +kernel
theorem dX6_judge_21 : decode cX6_judge 21 = .ok (.iconst 5, 1) := by decide +kernel
theorem dX6_judge_22 : decode cX6_judge 22 = .ok (.iload 4, 2) := by decide +kernel
theorem dX6_judge_24 : decode cX6_judge 24 = .ok (.imul, 1) := by decide +kernel
theorem dX6_judge_25 : decode cX6_judge 25 = .ok (.invokevirtual 142, 3) := by decide +kernel
theorem dX6_judge_28 : decode cX6_judge 28 = .ok (.istore 5, 2) := by decide +kernel
theorem dX6_judge_30 : decode cX6_judge 30 = .ok (.iload 5, 2) := by decide +kernel
theorem dX6_judge_32 : decode cX6_judge 32 = .ok (.ifCond .eq 6, 3) := by decide +kernel
theorem dX6_judge_35 : decode cX6_judge 35 = .ok (.iload 5, 2) := by decide +kernel
theorem dX6_judge_37 : decode cX6_judge 37 = .ok (.ireturn, 1) := by decide +kernel
theorem dX6_judge_38 : decode cX6_judge 38 = .ok (.aload_n 0, 1) := by decide +kernel
theorem dX6_judge_39 : decode cX6_judge 39 = .ok (.invokevirtual 123, 3) := by decide +kernel
theorem dX6_judge_42 : decode cX6_judge 42 = .ok (.ifCond .eq 6, 3) := by decide +kernel
theorem dX6_judge_45 : decode cX6_judge 45 = .ok (.bipush (-2), 2) := by decide +kernel
theorem dX6_judge_47 : decode cX6_judge 47 = .ok (.ireturn, 1) := by decide +kernel
theorem dX6_judge_48 : decode cX6_judge 48 = .ok (.aload_n 0, 1) := by decide +kernel
theorem dX6_judge_49 : decode cX6_judge 49 = .ok (.getfield 43, 3) := by decide +kernel
theorem dX6_judge_52 : decode cX6_judge 52 = .ok (.invokevirtual 80, 3) := by decide +kernel
theorem dX6_judge_55 : decode cX6_judge 55 = .ok (.iconst 0, 1) := by decide +kernel
theorem dX6_judge_56 : decode cX6_judge 56 = .ok (.istore 6, 2) := by decide +kernel
theorem dX6_judge_58 : decode cX6_judge 58 = .ok (.iload 6, 2) := by decide +kernel
theorem dX6_judge_60 : decode cX6_judge 60 = .ok (.iload 4, 2) := by decide +kernel
theorem dX6_judge_62 : decode cX6_judge 62 = .ok (.if_icmp .ge 51, 3) := by decide +kernel
theorem dX6_judge_65 : decode cX6_judge 65 = .ok (.aload_n 0, 1) := by decide +kernel
theorem dX6_judge_66 : decode cX6_judge 66 = .ok (.getfield 43, 3) := by decide +kernel
theorem dX6_judge_69 : decode cX6_judge 69 = .ok (.invokevirtual 250, 3) := by decide +kernel
theorem dX6_judge_72 : decode cX6_judge 72 = .ok (.ifCond .eq 6, 3) := by decide +kernel
theorem dX6_judge_75 : decode cX6_judge 75 = .ok (.iload 6, 2) := by decide +kernel
theorem dX6_judge_77 : decode cX6_judge 77 = .ok (.ireturn, 1) := by decide +kernel
theorem dX6_judge_78 : decode cX6_judge 78 = .ok (.aload_n 0, 1) := by decide +kernel
theorem dX6_judge_79 : decode cX6_judge 79 = .ok (.getfield 43, 3) := by decide +kernel
theorem dX6_judge_82 : decode cX6_judge 82 = .ok (.aload_n 0, 1) := by decide +kernel
theorem dX6_judge_83 : decode cX6_judge 83 = .ok (.getfield 19, 3) := by decide +kernel
theorem dX6_judge_86 : decode cX6_judge 86 = .ok (.iconst 1, 1) := by decide +kernel
theorem dX6_judge_87 : decode cX6_judge 87 = .ok (.invokevirtual 152, 3) := by decide +kernel
theorem dX6_judge_90 : decode cX6_judge 90 = .ok (.aload_n 0, 1) := by decide +kernel
theorem dX6_judge_91 : decode cX6_judge 91 = .ok (.iload_n 1, 1) := by decide +kernel
theorem dX6_judge_92 : decode cX6_judge 92 = .ok (.iload_n 3, 1) := by decide +kernel
theorem dX6_judge_93 : decode cX6_judge 93 = .ok (.iconst 5, 1) := by decide +kernel
theorem dX6_judge_94 : decode cX6_judge 94 = .ok (.iload 6, 2) := by decide +kernel
theorem dX6_judge_96 : decode cX6_judge 96 = .ok (.imul, 1) := by decide +kernel
theorem dX6_judge_97 : decode cX6_judge 97 = .ok (.iadd, 1) := by decide +kernel
theorem dX6_judge_98 : decode cX6_judge 98 = .ok (.invokevirtual 253, 3) := by decide +kernel
theorem dX6_judge_101 : decode cX6_judge 101 = .ok (.ifCond .ne 6, 3) := by decide +kernel
theorem dX6_judge_104 : decode cX6_judge 104 = .ok (.iload 6, 2) := by decide +kernel
theorem dX6_judge_106 : decode cX6_judge 106 = .ok (.ireturn, 1) := by decide +kernel
theorem dX6_judge_107 : decode cX6_judge 107 = .ok (.iinc 6 1, 3) := by decide +kernel
theorem dX6_judge_110 : decode cX6_judge 110 = .ok (.goto (-52), 3) := by decide +kernel
theorem dX6_judge_113 : decode cX6_judge 113 = .ok (.bipush (-4), 2) := by decide +kernel
theorem dX6_judge_115 : decode cX6_judge 115 = .ok (.ireturn, 1) := by decide +kernel
theorem dX6_image_0 : decode cX6_image 0 = .ok (.aload_n 0, 1) := by decide +kernel
theorem dX6_image_1 : decode cX6_image 1 = .ok (.getfield 30, 3) := by decide +kernel
theorem dX6_image_4 : decode cX6_image 4 = .ok (.aload_n 0, 1) := by decide +kernel
theorem dX6_image_5 : decode cX6_image 5 = .ok (.getfield 19, 3) := by decide +kernel
theorem dX6_image_8 : decode cX6_image 8 = .ok (.invokevirtual 192, 3) := by decide +kernel
theorem dX6_image_11 : decode cX6_image 11 = .ok (.aload_n 0, 1) := by decide +kernel
theorem dX6_image_12 : decode cX6_image 12 = .ok (.getfield 33, 3) := by decide +kernel
theorem dX6_image_15 : decode cX6_image 15 = .ok (.aload_n 0, 1) := by decide +kernel
theorem dX6_image_16 : decode cX6_image 16 = .ok (.getfield 26, 3) := by decide +kernel
theorem dX6_image_19 : decode cX6_image 19 = .ok (.invokevirtual 256, 3) := by decide +kernel
theorem dX6_image_22 : decode cX6_image 22 = .ok (.aload_n 0, 1) := by decide +kernel
theorem dX6_image_23 : decode cX6_image 23 = .ok (.iconst 1, 1) := by decide +kernel
theorem dX6_image_24 : decode cX6_image 24 = .ok (.putfield 36, 3) := by decide +kernel
theorem dX6_image_27 : decode cX6_image 27 = .ok (.iconst 1, 1) := by decide +kernel
theorem dX6_image_28 : decode cX6_image 28 = .ok (.ireturn, 1) := by decide +kernel
theorem dX6_restore_0 : decode cX6_restore 0 = .ok (.aload_n 0, 1) := by decide +kernel
theorem dX6_restore_1 : decode cX6_restore 1 = .ok (.getfield 36, 3) := by decide +kernel
theorem dX6_restore_4 : decode cX6_restore 4 = .ok (.ifCond .ne 6, 3) := by decide +kernel
theorem dX6_restore_7 : decode cX6_restore 7 = .ok (.bipush (-4), 2) := by decide +kernel
theorem dX6_restore_9 : decode cX6_restore 9 = .ok (.ireturn, 1) := by decide +kernel
theorem dX6_restore_10 : decode cX6_restore 10 = .ok (.aload_n 0, 1) := by decide +kernel
theorem dX6_restore_11 : decode cX6_restore 11 = .ok (.getfield 19, 3) := by decide +kernel
theorem dX6_restore_14 : decode cX6_restore 14 = .ok (.aload_n 0, 1) := by decide +kernel
theorem dX6_restore_15 : decode cX6_restore 15 = .ok (.getfield 30, 3) := by decide +kernel
theorem dX6_restore_18 : decode cX6_restore 18 = .ok (.invokevirtual 192, 3) := by decide +kernel
theorem dX6_restore_21 : decode cX6_restore 21 = .ok (.aload_n 0, 1) := by decide +kernel
theorem dX6_restore_22 : decode cX6_restore 22 = .ok (.getfield 26, 3) := by decide +kernel
theorem dX6_restore_25 : decode cX6_restore 25 = .ok (.aload_n 0, 1) := by decide +kernel
theorem dX6_restore_26 : decode cX6_restore 26 = .ok (.getfield 33, 3) := by decide +kernel
theorem dX6_restore_29 : decode cX6_restore 29 = .ok (.invokevirtual 256, 3) := by decide +kernel
theorem dX6_restore_32 : decode cX6_restore 32 = .ok (.iconst 1, 1) := by decide +kernel
theorem dX6_restore_33 : decode cX6_restore 33 = .ok (.ireturn, 1) := by decide +kernel
theorem dX6_sheet_0 : decode cX6_sheet 0 = .ok (.iload_n 1, 1) := by decide +kernel
theorem dX6_sheet_1 : decode cX6_sheet 1 = .ok (.invokestatic 259, 3) := by decide +kernel
theorem dX6_sheet_4 : decode cX6_sheet 4 = .ok (.ifCond .eq 16, 3) := by decide +kernel
theorem dX6_sheet_7 : decode cX6_sheet 7 = .ok (.iload_n 2, 1) := by decide +kernel
theorem dX6_sheet_8 : decode cX6_sheet 8 = .ok (.invokestatic 262, 3) := by decide +kernel
theorem dX6_sheet_11 : decode cX6_sheet 11 = .ok (.ifCond .eq 9, 3) := by decide +kernel
theorem dX6_sheet_14 : decode cX6_sheet 14 = .ok (.iload_n 3, 1) := by decide +kernel

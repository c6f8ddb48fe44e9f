theorem dX0_init_0 : decode cX0_init 0 = .ok (.aload_n 0, 1) := by decide +kernel
theorem dX0_init_1 : decode cX0_init 1 = .ok (.invokespecial 3, 3) := by decide +kernel
theorem dX0_init_4 : decode cX0_init 4 = .ok (.aload_n 0, 1) := by decide +kernel
theorem dX0_init_5 : decode cX0_init 5 = .ok (.iconst 0, 1) := by decide +kernel
theorem dX0_init_6 : decode cX0_init 6 = .ok (.putfield 9, 3) := by decide +kernel
theorem dX0_init_9 : decode cX0_init 9 = .ok (.aload_n 0, 1) := by decide +kernel
theorem dX0_init_10 : decode cX0_init 10 = .ok (.iconst 0, 1) := by decide +kernel
theorem dX0_init_11 : decode cX0_init 11 = .ok (.putfield 15, 3) := by decide +kernel
theorem dX0_init_14 : decode cX0_init 14 = .ok (.aload_n 0, 1) := by decide +kernel
theorem dX0_init_15 : decode cX0_init 15 = .ok (.iconst (-1), 1) := by decide +kernel
theorem dX0_init_16 : decode cX0_init 16 = .ok (.putfield 18, 3) := by decide +kernel
theorem dX0_init_19 : decode cX0_init 19 = .ok (.aload_n 0, 1) := by decide +kernel
theorem dX0_init_20 : decode cX0_init 20 = .ok (.iconst (-1), 1) := by decide +kernel
theorem dX0_init_21 : decode cX0_init 21 = .ok (.putfield 21, 3) := by decide +kernel
theorem dX0_init_24 : decode cX0_init 24 = .ok (.aload_n 0, 1) := by decide +kernel
theorem dX0_init_25 : decode cX0_init 25 = .ok (.iconst 0, 1) := by decide +kernel
theorem dX0_init_26 : decode cX0_init 26 = .ok (.putfield 24, 3) := by decide +kernel
theorem dX0_init_29 : decode cX0_init 29 = .ok (.aload_n 0, 1) := by decide +kernel
theorem dX0_init_30 : decode cX0_init 30 = .ok (.bipush 6, 2) := by decide +kernel
theorem dX0_init_32 : decode cX0_init 32 = .ok (.newarray .int, 2) := by decide +kernel
theorem dX0_init_34 : decode cX0_init 34 = .ok (.putfield 27, 3) := by decide +kernel
theorem dX0_init_37 : decode cX0_init 37 = .ok (.aload_n 0, 1) := by decide +kernel
theorem dX0_init_38 : decode cX0_init 38 = .ok (.bipush 6, 2) := by decide +kernel
theorem dX0_init_40 : decode cX0_init 40 = .ok (.newarray .int, 2) := by decide +kernel
theorem dX0_init_42 : decode cX0_init 42 = .ok (.putfield 31, 3) := by decide +kernel
theorem dX0_init_45 : decode cX0_init 45 = .ok (.aload_n 0, 1) := by decide +kernel
theorem dX0_init_46 : decode cX0_init 46 = .ok (.iconst 5, 1) := by decide +kernel
theorem dX0_init_47 : decode cX0_init 47 = .ok (.newarray .int, 2) := by decide +kernel
theorem dX0_init_49 : decode cX0_init 49 = .ok (.putfield 34, 3) := by decide +kernel
theorem dX0_init_52 : decode cX0_init 52 = .ok (.aload_n 0, 1) := by decide +kernel
theorem dX0_init_53 : decode cX0_init 53 = .ok (.getfield 27, 3) := by decide +kernel
theorem dX0_init_56 : decode cX0_init 56 = .ok (.iconst (-1), 1) := by decide +kernel
theorem dX0_init_57 : decode cX0_init 57 = .ok (.invokestatic 37, 3) := by decide +kernel
theorem dX0_init_60 : decode cX0_init 60 = .ok (.return_, 1) := by decide +kernel
theorem dX0_restart_0 : decode cX0_restart 0 = .ok (.aload_n 0, 1) := by decide +kernel
theorem dX0_restart_1 : decode cX0_restart 1 = .ok (.iconst 0, 1) := by decide +kernel
theorem dX0_restart_2 : decode cX0_restart 2 = .ok (.putfield 9, 3) := by decide +kernel
theorem dX0_restart_5 : decode cX0_restart 5 = .ok (.aload_n 0, 1) := by decide +kernel
theorem dX0_restart_6 : decode cX0_restart 6 = .ok (.iconst 0, 1) := by decide +kernel
theorem dX0_restart_7 : decode cX0_restart 7 = .ok (.putfield 15, 3) := by decide +kernel
theorem dX0_restart_10 : decode cX0_restart 10 = .ok (.aload_n 0, 1) := by decide +kernel
theorem dX0_restart_11 : decode cX0_restart 11 = .ok (.iconst (-1), 1) := by decide +kernel
theorem dX0_restart_12 : decode cX0_restart 12 = .ok (.putfield 18, 3) := by decide +kernel
theorem dX0_restart_15 : decode cX0_restart 15 = .ok (.aload_n 0, 1) := by decide +kernel
theorem dX0_restart_16 : decode cX0_restart 16 = .ok (.iconst (-1), 1) := by decide +kernel
theorem dX0_restart_17 : decode cX0_restart 17 = .ok (.putfield 21, 3) := by decide +kernel
theorem dX0_restart_20 : decode cX0_restart 20 = .ok (.aload_n 0, 1) := by decide +kernel
theorem dX0_restart_21 : decode cX0_restart 21 = .ok (.iconst 0, 1) := by decide +kernel
theorem dX0_restart_22 : decode cX0_restart 22 = .ok (.putfield 24, 3) := by decide +kernel
theorem dX0_restart_25 : decode cX0_restart 25 = .ok (.aload_n 0, 1) := by decide +kernel
theorem dX0_restart_26 : decode cX0_restart 26 = .ok (.getfield 27, 3) := by decide +kernel
theorem dX0_restart_29 : decode cX0_restart 29 = .ok (.iconst (-1), 1) := by decide +kernel
theorem dX0_restart_30 : decode cX0_restart 30 = .ok (.invokestatic 37, 3) := by decide +kernel
theorem dX0_restart_33 : decode cX0_restart 33 = .ok (.aload_n 0, 1) := by decide +kernel
theorem dX0_restart_34 : decode cX0_restart 34 = .ok (.getfield 34, 3) := by decide +kernel
theorem dX0_restart_37 : decode cX0_restart 37 = .ok (.iconst 0, 1) := by decide +kernel
theorem dX0_restart_38 : decode cX0_restart 38 = .ok (.invokestatic 37, 3) := by decide +kernel
theorem dX0_restart_41 : decode cX0_restart 41 = .ok (.return_, 1) := by decide +kernel
theorem dX0_takeAll_0 : decode cX0_takeAll 0 = .ok (.aload_n 0, 1) := by decide +kernel
theorem dX0_takeAll_1 : decode cX0_takeAll 1 = .ok (.aload_n 1, 1) := by decide +kernel
theorem dX0_takeAll_2 : decode cX0_takeAll 2 = .ok (.getfield 9, 3) := by decide +kernel
theorem dX0_takeAll_5 : decode cX0_takeAll 5 = .ok (.putfield 9, 3) := by decide +kernel
theorem dX0_takeAll_8 : decode cX0_takeAll 8 = .ok (.aload_n 0, 1) := by decide +kernel
theorem dX0_takeAll_9 : decode cX0_takeAll 9 = .ok (.aload_n 1, 1) := by decide +kernel
theorem dX0_takeAll_10 : decode cX0_takeAll 10 = .ok (.getfield 15, 3) := by decide +kernel
theorem dX0_takeAll_13 : decode cX0_takeAll 13 = .ok (.putfield 15, 3) := by decide +kernel
theorem dX0_takeAll_16 : decode cX0_takeAll 16 = .ok (.aload_n 0, 1) := by decide +kernel
theorem dX0_takeAll_17 : decode cX0_takeAll 17 = .ok (.aload_n 1, 1) := by decide +kernel
theorem dX0_takeAll_18 : decode cX0_takeAll 18 = .ok (.getfield 18, 3) := by decide +kernel
theorem dX0_takeAll_21 : decode cX0_takeAll 21 = .ok (.putfield 18, 3) := by decide +kernel
theorem dX0_takeAll_24 : decode cX0_takeAll 24 = .ok (.aload_n 1, 1) := by decide +kernel
theorem dX0_takeAll_25 : decode cX0_takeAll 25 = .ok (.getfield 27, 3) := by decide +kernel
theorem dX0_takeAll_28 : decode cX0_takeAll 28 = .ok (.iconst 0, 1) := by decide +kernel
theorem dX0_takeAll_29 : decode cX0_takeAll 29 = .ok (.aload_n 0, 1) := by decide +kernel
theorem dX0_takeAll_30 : decode cX0_takeAll 30 = .ok (.getfield 27, 3) := by decide +kernel
theorem dX0_takeAll_33 : decode cX0_takeAll 33 = .ok (.iconst 0, 1) := by decide +kernel
theorem dX0_takeAll_34 : decode cX0_takeAll 34 = .ok (.bipush 6, 2) := by decide +kernel
theorem dX0_takeAll_36 : decode cX0_takeAll 36 = .ok (.invokestatic 43, 3) := by decide +kernel
theorem dX0_takeAll_39 : decode cX0_takeAll 39 = .ok (.aload_n 1, 1) := by decide +kernel
theorem dX0_takeAll_40 : decode cX0_takeAll 40 = .ok (.getfield 34, 3) := by decide +kernel
theorem dX0_takeAll_43 : decode cX0_takeAll 43 = .ok (.iconst 0, 1) := by decide +kernel
theorem dX0_takeAll_44 : decode cX0_takeAll 44 = .ok (.aload_n 0, 1) := by decide +kernel
theorem dX0_takeAll_45 : decode cX0_takeAll 45 = .ok (.getfield 34, 3) := by decide +kernel
theorem dX0_takeAll_48 : decode cX0_takeAll 48 = .ok (.iconst 0, 1) := by decide +kernel
theorem dX0_takeAll_49 : decode cX0_takeAll 49 = .ok (.iconst 5, 1) := by decide +kernel
theorem dX0_takeAll_50 : decode cX0_takeAll 50 = .ok (.invokestatic 43, 3) := by decide +kernel
theorem dX0_takeAll_53 : decode cX0_takeAll 53 = .ok (.return_, 1) := by decide +kernel
theorem dX0_isOver_0 : decode cX0_isOver 0 = .ok (.aload_n 0, 1) := by decide +kernel
theorem dX0_isOver_1 : decode cX0_isOver 1 = .ok (.getfield 18, 3) := by decide +kernel
theorem dX0_isOver_4 : decode cX0_isOver 4 = .ok (.iconst (-1), 1) := by decide +kernel
theorem dX0_isOver_5 : decode cX0_isOver 5 = .ok (.if_icmp .ne 12, 3) := by decide +kernel
theorem dX0_isOver_8 : decode cX0_isOver 8 = .ok (.aload_n 0, 1) := by decide +kernel
theorem dX0_isOver_9 : decode cX0_isOver 9 = .ok (.getfield 9, 3) := by decide +kernel
theorem dX0_isOver_12 : decode cX0_isOver 12 = .ok (.bipush 32, 2) := by decide +kernel
theorem dX0_isOver_14 : decode cX0_isOver 14 = .ok (.if_icmp .lt 7, 3) := by decide +kernel
theorem dX0_isOver_17 : decode cX0_isOver 17 = .ok (.iconst 1, 1) := by decide +kernel
theorem dX0_isOver_18 : decode cX0_isOver 18 = .ok (.goto 4, 3) := by decide +kernel
theorem dX0_isOver_21 : decode cX0_isOver 21 = .ok (.iconst 0, 1) := by decide +kernel
theorem dX0_isOver_22 : decode cX0_isOver 22 = .ok (.ireturn, 1) := by decide +kernel
theorem dX0_nextBallot_0 : decode cX0_nextBallot 0 = .ok (.aload_n 0, 1) := by decide +kernel
theorem dX0_nextBallot_1 : decode cX0_nextBallot 1 = .ok (.getfield 9, 3) := by decide +kernel
theorem dX0_nextBallot_4 : decode cX0_nextBallot 4 = .ok (.bipush 31, 2) := by decide +kernel
theorem dX0_nextBallot_6 : decode cX0_nextBallot 6 = .ok (.invokestatic 49, 3) := by decide +kernel
theorem dX0_nextBallot_9 : decode cX0_nextBallot 9 = .ok (.ireturn, 1) := by decide +kernel
theorem dX0_endedBy_0 : decode cX0_endedBy 0 = .ok (.aload_n 0, 1) := by decide +kernel
theorem dX0_endedBy_1 : decode cX0_endedBy 1 = .ok (.getfield 18, 3) := by decide +kernel
theorem dX0_endedBy_4 : decode cX0_endedBy 4 = .ok (.iconst (-1), 1) := by decide +kernel
theorem dX0_endedBy_5 : decode cX0_endedBy 5 = .ok (.if_icmp .ne 8, 3) := by decide +kernel
theorem dX0_endedBy_8 : decode cX0_endedBy 8 = .ok (.bipush 32, 2) := by decide +kernel
theorem dX0_endedBy_10 : decode cX0_endedBy 10 = .ok (.goto 9, 3) := by decide +kernel
theorem dX0_endedBy_13 : decode cX0_endedBy 13 = .ok (.aload_n 0, 1) := by decide +kernel
theorem dX0_endedBy_14 : decode cX0_endedBy 14 = .ok (.getfield 9, 3) := by decide +kernel
theorem dX0_endedBy_17 : decode cX0_endedBy 17 = .ok (.iconst 1, 1) := by decide +kernel
theorem dX0_endedBy_18 : decode cX0_endedBy 18 = .ok (.isub, 1) := by decide +kernel
theorem dX0_endedBy_19 : decode cX0_endedBy 19 = .ok (.ireturn, 1) := by decide +kernel
theorem dX0_goAll_0 : decode cX0_goAll 0 = .ok (.aload_n 0, 1) := by decide +kernel
theorem dX0_goAll_1 : decode cX0_goAll 1 = .ok (.invokevirtual 55, 3) := by decide +kernel
theorem dX0_goAll_4 : decode cX0_goAll 4 = .ok (.aload_n 0, 1) := by decide +kernel
theorem dX0_goAll_5 : decode cX0_goAll 5 = .ok (.aload_n 1, 1) := by decide +kernel
theorem dX0_goAll_6 : decode cX0_goAll 6 = .ok (.bipush 32, 2) := by decide +kernel
theorem dX0_goAll_8 : decode cX0_goAll 8 = .ok (.invokevirtual 58, 3) := by decide +kernel
theorem dX0_goAll_11 : decode cX0_goAll 11 = .ok (.return_, 1) := by decide +kernel
theorem dX0_goOn_0 : decode cX0_goOn 0 = .ok (.iconst 0, 1) := by decide +kernel
theorem dX0_goOn_1 : decode cX0_goOn 1 = .ok (.istore_n 3, 1) := by decide +kernel
theorem dX0_goOn_2 : decode cX0_goOn 2 = .ok (.iload_n 3, 1) := by decide +kernel
theorem dX0_goOn_3 : decode cX0_goOn 3 = .ok (.iload_n 2, 1) := by decide +kernel
theorem dX0_goOn_4 : decode cX0_goOn 4 = .ok (.if_icmp .ge 57, 3) := by decide +kernel
theorem dX0_goOn_7 : decode cX0_goOn 7 = .ok (.aload_n 0, 1) := by decide +kernel
theorem dX0_goOn_8 : decode cX0_goOn 8 = .ok (.invokevirtual 62, 3) := by decide +kernel
theorem dX0_goOn_11 : decode cX0_goOn 11 = .ok (.ifCond .ne 50, 3) := by decide +kernel
theorem dX0_goOn_14 : decode cX0_goOn 14 = .ok (.aload_n 0, 1) := by decide +kernel
theorem dX0_goOn_15 : decode cX0_goOn 15 = .ok (.aload_n 1, 1) := by decide +kernel
theorem dX0_goOn_16 : decode cX0_goOn 16 = .ok (.invokevirtual 66, 3) := by decide +kernel
theorem dX0_goOn_19 : decode cX0_goOn 19 = .ok (.istore 4, 2) := by decide +kernel
theorem dX0_goOn_21 : decode cX0_goOn 21 = .ok (.aload_n 0, 1) := by decide +kernel
theorem dX0_goOn_22 : decode cX0_goOn 22 = .ok (.aload_n 1, 1) := by decide +kernel
theorem dX0_goOn_23 : decode cX0_goOn 23 = .ok (.aload_n 0, 1) := by decide +kernel
theorem dX0_goOn_24 : decode cX0_goOn 24 = .ok (.getfield 9, 3) := by decide +kernel
theorem dX0_goOn_27 : decode cX0_goOn 27 = .ok (.iload 4, 2) := by decide +kernel
theorem dX0_goOn_29 : decode cX0_goOn 29 = .ok (.invokevirtual 70, 3) := by decide +kernel
theorem dX0_goOn_32 : decode cX0_goOn 32 = .ok (.aload_n 0, 1) := by decide +kernel
theorem dX0_goOn_33 : decode cX0_goOn 33 = .ok (.aload_n 0, 1) := by decide +kernel
theorem dX0_goOn_34 : decode cX0_goOn 34 = .ok (.aload_n 1, 1) := by decide +kernel
theorem dX0_goOn_35 : decode cX0_goOn 35 = .ok (.aload_n 0, 1) := by decide +kernel
theorem dX0_goOn_36 : decode cX0_goOn 36 = .ok (.getfield 9, 3) := by decide +kernel
theorem dX0_goOn_39 : decode cX0_goOn 39 = .ok (.invokevirtual 74, 3) := by decide +kernel
theorem dX0_goOn_42 : decode cX0_goOn 42 = .ok (.putfield 18, 3) := by decide +kernel
theorem dX0_goOn_45 : decode cX0_goOn 45 = .ok (.aload_n 0, 1) := by decide +kernel
theorem dX0_goOn_46 : decode cX0_goOn 46 = .ok (.dup, 1) := by decide +kernel
theorem dX0_goOn_47 : decode cX0_goOn 47 = .ok (.getfield 9, 3) := by decide +kernel
theorem dX0_goOn_50 : decode cX0_goOn 50 = .ok (.iconst 1, 1) := by decide +kernel
theorem dX0_goOn_51 : decode cX0_goOn 51 = .ok (.iadd, 1) := by decide +kernel
theorem dX0_goOn_52 : decode cX0_goOn 52 = .ok (.putfield 9, 3) := by decide +kernel
theorem dX0_goOn_55 : decode cX0_goOn 55 = .ok (.iinc 3 1, 3) := by decide +kernel
theorem dX0_goOn_58 : decode cX0_goOn 58 = .ok (.goto (-56), 3) := by decide +kernel
theorem dX0_goOn_61 : decode cX0_goOn 61 = .ok (.return_, 1) := by decide +kernel
theorem dX0_firmBallot_0 : decode cX0_firmBallot 0 = .ok (.iload_n 1, 1) := by decide +kernel
theorem dX0_firmBallot_1 : decode cX0_firmBallot 1 = .ok (.aload_n 0, 1) := by decide +kernel
theorem dX0_firmBallot_2 : decode cX0_firmBallot 2 = .ok (.getfield 21, 3) := by decide +kernel
theorem dX0_firmBallot_5 : decode cX0_firmBallot 5 = .ok (.if_icmp .ne 10, 3) := by decide +kernel
theorem dX0_firmBallot_8 : decode cX0_firmBallot 8 = .ok (.aload_n 0, 1) := by decide +kernel
theorem dX0_firmBallot_9 : decode cX0_firmBallot 9 = .ok (.getfield 24, 3) := by decide +kernel
theorem dX0_firmBallot_12 : decode cX0_firmBallot 12 = .ok (.goto 4, 3) := by decide +kernel
theorem dX0_firmBallot_15 : decode cX0_firmBallot 15 = .ok (.iconst 0, 1) := by decide +kernel
theorem dX0_firmBallot_16 : decode cX0_firmBallot 16 = .ok (.ireturn, 1) := by decide +kernel
theorem dX0_draw_0 : decode cX0_draw 0 = .ok (.iconst 0, 1) := by decide +kernel
theorem dX0_draw_1 : decode cX0_draw 1 = .ok (.istore_n 2, 1) := by decide +kernel
theorem dX0_draw_2 : decode cX0_draw 2 = .ok (.iconst 0, 1) := by decide +kernel
theorem dX0_draw_3 : decode cX0_draw 3 = .ok (.istore_n 3, 1) := by decide +kernel
theorem dX0_draw_4 : decode cX0_draw 4 = .ok (.iload_n 3, 1) := by decide +kernel
theorem dX0_draw_5 : decode cX0_draw 5 = .ok (.aload_n 1, 1) := by decide +kernel
theorem dX0_draw_6 : decode cX0_draw 6 = .ok (.getfield 78, 3) := by decide +kernel
theorem dX0_draw_9 : decode cX0_draw 9 = .ok (.if_icmp .ge 68, 3) := by decide +kernel
theorem dX0_draw_12 : decode cX0_draw 12 = .ok (.aload_n 1, 1) := by decide +kernel
theorem dX0_draw_13 : decode cX0_draw 13 = .ok (.getfield 83, 3) := by decide +kernel
theorem dX0_draw_16 : decode cX0_draw 16 = .ok (.iload_n 3, 1) := by decide +kernel
theorem dX0_draw_17 : decode cX0_draw 17 = .ok (.iaload, 1) := by decide +kernel
theorem dX0_draw_18 : decode cX0_draw 18 = .ok (.iconst 4, 1) := by decide +kernel
theorem dX0_draw_19 : decode cX0_draw 19 = .ok (.if_icmp .ne 52, 3) := by decide +kernel
theorem dX0_draw_22 : decode cX0_draw 22 = .ok (.aload_n 0, 1) := by decide +kernel
theorem dX0_draw_23 : decode cX0_draw 23 = .ok (.getfield 9, 3) := by decide +kernel
theorem dX0_draw_26 : decode cX0_draw 26 = .ok (.aload_n 0, 1) := by decide +kernel
theorem dX0_draw_27 : decode cX0_draw 27 = .ok (.iload_n 3, 1) := by decide +kernel
theorem dX0_draw_28 : decode cX0_draw 28 = .ok (.invokevirtual 86, 3) := by decide +kernel
theorem dX0_draw_31 : decode cX0_draw 31 = .ok (.if_icmp .le 40, 3) := by decide +kernel
theorem dX0_draw_34 : decode cX0_draw 34 = .ok (.aload_n 1, 1) := by decide +kernel
theorem dX0_draw_35 : decode cX0_draw 35 = .ok (.getfield 90, 3) := by decide +kernel
theorem dX0_draw_38 : decode cX0_draw 38 = .ok (.aload_n 0, 1) := by decide +kernel
theorem dX0_draw_39 : decode cX0_draw 39 = .ok (.getfield 15, 3) := by decide +kernel
theorem dX0_draw_42 : decode cX0_draw 42 = .ok (.bipush 16, 2) := by decide +kernel
theorem dX0_draw_44 : decode cX0_draw 44 = .ok (.irem, 1) := by decide +kernel
theorem dX0_draw_45 : decode cX0_draw 45 = .ok (.iaload, 1) := by decide +kernel
theorem dX0_draw_46 : decode cX0_draw 46 = .ok (.aload_n 1, 1) := by decide +kernel
theorem dX0_draw_47 : decode cX0_draw 47 = .ok (.getfield 93, 3) := by decide +kernel
theorem dX0_draw_50 : decode cX0_draw 50 = .ok (.iload_n 3, 1) := by decide +kernel
theorem dX0_draw_51 : decode cX0_draw 51 = .ok (.iaload, 1) := by decide +kernel
theorem dX0_draw_52 : decode cX0_draw 52 = .ok (.if_icmp .ge 9, 3) := by decide +kernel
theorem dX0_draw_55 : decode cX0_draw 55 = .ok (.iload_n 2, 1) := by decide +kernel
theorem dX0_draw_56 : decode cX0_draw 56 = .ok (.iconst 1, 1) := by decide +kernel
theorem dX0_draw_57 : decode cX0_draw 57 = .ok (.iload_n 3, 1) := by decide +kernel
theorem dX0_draw_58 : decode cX0_draw 58 = .ok (.ishl, 1) := by decide +kernel
theorem dX0_draw_59 : decode cX0_draw 59 = .ok (.ior, 1) := by decide +kernel
theorem dX0_draw_60 : decode cX0_draw 60 = .ok (.istore_n 2, 1) := by decide +kernel
theorem dX0_draw_61 : decode cX0_draw 61 = .ok (.aload_n 0, 1) := by decide +kernel
theorem dX0_draw_62 : decode cX0_draw 62 = .ok (.dup, 1) := by decide +kernel
theorem dX0_draw_63 : decode cX0_draw 63 = .ok (.getfield 15, 3) := by decide +kernel
theorem dX0_draw_66 : decode cX0_draw 66 = .ok (.iconst 1, 1) := by decide +kernel
theorem dX0_draw_67 : decode cX0_draw 67 = .ok (.iadd, 1) := by decide +kernel
theorem dX0_draw_68 : decode cX0_draw 68 = .ok (.putfield 15, 3) := by decide +kernel
theorem dX0_draw_71 : decode cX0_draw 71 = .ok (.iinc 3 1, 3) := by decide +kernel
theorem dX0_draw_74 : decode cX0_draw 74 = .ok (.goto (-70), 3) := by decide +kernel
theorem dX0_draw_77 : decode cX0_draw 77 = .ok (.iload_n 2, 1) := by decide +kernel
theorem dX0_draw_78 : decode cX0_draw 78 = .ok (.ireturn, 1) := by decide +kernel
theorem dX0_write_0 : decode cX0_write 0 = .ok (.aload_n 0, 1) := by decide +kernel
theorem dX0_write_1 : decode cX0_write 1 = .ok (.invokevirtual 96, 3) := by decide +kernel
theorem dX0_write_4 : decode cX0_write 4 = .ok (.istore 4, 2) := by decide +kernel
theorem dX0_write_6 : decode cX0_write 6 = .ok (.aload_n 1, 1) := by decide +kernel
theorem dX0_write_7 : decode cX0_write 7 = .ok (.iload_n 2, 1) := by decide +kernel
theorem dX0_write_8 : decode cX0_write 8 = .ok (.invokevirtual 100, 3) := by decide +kernel
theorem dX0_write_11 : decode cX0_write 11 = .ok (.istore 5, 2) := by decide +kernel
theorem dX0_write_13 : decode cX0_write 13 = .ok (.iconst 0, 1) := by decide +kernel
theorem dX0_write_14 : decode cX0_write 14 = .ok (.istore 6, 2) := by decide +kernel
theorem dX0_write_16 : decode cX0_write 16 = .ok (.iload 6, 2) := by decide +kernel
theorem dX0_write_18 : decode cX0_write 18 = .ok (.aload_n 1, 1) := by decide +kernel
theorem dX0_write_19 : decode cX0_write 19 = .ok (.getfield 78, 3) := by decide +kernel
theorem dX0_write_22 : decode cX0_write 22 = .ok (.if_icmp .ge 71, 3) := by decide +kernel
theorem dX0_write_25 : decode cX0_write 25 = .ok (.aload_n 0, 1) := by decide +kernel
theorem dX0_write_26 : decode cX0_write 26 = .ok (.iload 6, 2) := by decide +kernel
theorem dX0_write_28 : decode cX0_write 28 = .ok (.invokevirtual 86, 3) := by decide +kernel
theorem dX0_write_31 : decode cX0_write 31 = .ok (.istore 7, 2) := by decide +kernel
theorem dX0_write_33 : decode cX0_write 33 = .ok (.iload_n 2, 1) := by decide +kernel
theorem dX0_write_34 : decode cX0_write 34 = .ok (.iload 7, 2) := by decide +kernel
theorem dX0_write_36 : decode cX0_write 36 = .ok (.if_icmp .le 25, 3) := by decide +kernel
theorem dX0_write_39 : decode cX0_write 39 = .ok (.aload_n 0, 1) := by decide +kernel
theorem dX0_write_40 : decode cX0_write 40 = .ok (.getfield 31, 3) := by decide +kernel
theorem dX0_write_43 : decode cX0_write 43 = .ok (.iload 6, 2) := by decide +kernel
theorem dX0_write_45 : decode cX0_write 45 = .ok (.aload_n 0, 1) := by decide +kernel
theorem dX0_write_46 : decode cX0_write 46 = .ok (.aload_n 1, 1) := by decide +kernel
theorem dX0_write_47 : decode cX0_write 47 = .ok (.iload 6, 2) := by decide +kernel
theorem dX0_write_49 : decode cX0_write 49 = .ok (.iload 5, 2) := by decide +kernel
theorem dX0_write_51 : decode cX0_write 51 = .ok (.iload 4, 2) := by decide +kernel
theorem dX0_write_53 : decode cX0_write 53 = .ok (.iload_n 3, 1) := by decide +kernel
theorem dX0_write_54 : decode cX0_write 54 = .ok (.invokevirtual 103, 3) := by decide +kernel
theorem dX0_write_57 : decode cX0_write 57 = .ok (.iastore, 1) := by decide +kernel
theorem dX0_write_58 : decode cX0_write 58 = .ok (.goto 29, 3) := by decide +kernel
theorem dX0_write_61 : decode cX0_write 61 = .ok (.aload_n 0, 1) := by decide +kernel
theorem dX0_write_62 : decode cX0_write 62 = .ok (.getfield 31, 3) := by decide +kernel
theorem dX0_write_65 : decode cX0_write 65 = .ok (.iload 6, 2) := by decide +kernel
theorem dX0_write_67 : decode cX0_write 67 = .ok (.iload_n 2, 1) := by decide +kernel
theorem dX0_write_68 : decode cX0_write 68 = .ok (.iload 7, 2) := by decide +kernel
theorem dX0_write_70 : decode cX0_write 70 = .ok (.if_icmp .ne 15, 3) := by decide +kernel
theorem dX0_write_73 : decode cX0_write 73 = .ok (.aload_n 1, 1) := by decide +kernel
theorem dX0_write_74 : decode cX0_write 74 = .ok (.iload 6, 2) := by decide +kernel
theorem dX0_write_76 : decode cX0_write 76 = .ok (.iconst 0, 1) := by decide +kernel
theorem dX0_write_77 : decode cX0_write 77 = .ok (.iload 5, 2) := by decide +kernel
theorem dX0_write_79 : decode cX0_write 79 = .ok (.invokevirtual 107, 3) := by decide +kernel
theorem dX0_write_82 : decode cX0_write 82 = .ok (.goto 4, 3) := by decide +kernel
theorem dX0_write_85 : decode cX0_write 85 = .ok (.iconst (-1), 1) := by decide +kernel
theorem dX0_write_86 : decode cX0_write 86 = .ok (.iastore, 1) := by decide +kernel
theorem dX0_write_87 : decode cX0_write 87 = .ok (.iinc 6 1, 3) := by decide +kernel
theorem dX0_write_90 : decode cX0_write 90 = .ok (.goto (-74), 3) := by decide +kernel
theorem dX0_write_93 : decode cX0_write 93 = .ok (.aload_n 0, 1) := by decide +kernel
theorem dX0_write_94 : decode cX0_write 94 = .ok (.getfield 31, 3) := by decide +kernel
theorem dX0_write_97 : decode cX0_write 97 = .ok (.iconst 0, 1) := by decide +kernel
theorem dX0_write_98 : decode cX0_write 98 = .ok (.aload_n 0, 1) := by decide +kernel
theorem dX0_write_99 : decode cX0_write 99 = .ok (.getfield 27, 3) := by decide +kernel
theorem dX0_write_102 : decode cX0_write 102 = .ok (.iconst 0, 1) := by decide +kernel
theorem dX0_write_103 : decode cX0_write 103 = .ok (.aload_n 1, 1) := by decide +kernel
theorem dX0_write_104 : decode cX0_write 104 = .ok (.getfield 78, 3) := by decide +kernel
theorem dX0_write_107 : decode cX0_write 107 = .ok (.invokestatic 43, 3) := by decide +kernel
theorem dX0_write_110 : decode cX0_write 110 = .ok (.aload_n 0, 1) := by decide +kernel
theorem dX0_write_111 : decode cX0_write 111 = .ok (.aload_n 1, 1) := by decide +kernel
theorem dX0_write_112 : decode cX0_write 112 = .ok (.invokevirtual 111, 3) := by decide +kernel
theorem dX0_write_115 : decode cX0_write 115 = .ok (.return_, 1) := by decide +kernel
theorem dX0_byMove_0 : decode cX0_byMove 0 = .ok (.aload_n 1, 1) := by decide +kernel
theorem dX0_byMove_1 : decode cX0_byMove 1 = .ok (.getfield 83, 3) := by decide +kernel
theorem dX0_byMove_4 : decode cX0_byMove 4 = .ok (.iload_n 2, 1) := by decide +kernel
theorem dX0_byMove_5 : decode cX0_byMove 5 = .ok (.iaload, 1) := by decide +kernel
theorem dX0_byMove_6 : decode cX0_byMove 6 = .ok (.tableswitch 84 1 4 #[30, 40, 48, 56], 30) := by decide +kernel
theorem dX0_byMove_36 : decode cX0_byMove 36 = .ok (.aload_n 0, 1) := by decide +kernel
theorem dX0_byMove_37 : decode cX0_byMove 37 = .ok (.aload_n 1, 1) := by decide +kernel
theorem dX0_byMove_38 : decode cX0_byMove 38 = .ok (.iload_n 2, 1) := by decide +kernel
theorem dX0_byMove_39 : decode cX0_byMove 39 = .ok (.iload_n 3, 1) := by decide +kernel
theorem dX0_byMove_40 : decode cX0_byMove 40 = .ok (.iload 4, 2) := by decide +kernel
theorem dX0_byMove_42 : decode cX0_byMove 42 = .ok (.invokevirtual 115, 3) := by decide +kernel
theorem dX0_byMove_45 : decode cX0_byMove 45 = .ok (.ireturn, 1) := by decide +kernel
theorem dX0_byMove_46 : decode cX0_byMove 46 = .ok (.aload_n 0, 1) := by decide +kernel
theorem dX0_byMove_47 : decode cX0_byMove 47 = .ok (.aload_n 1, 1) := by decide +kernel
theorem dX0_byMove_48 : decode cX0_byMove 48 = .ok (.iload_n 2, 1) := by decide +kernel
theorem dX0_byMove_49 : decode cX0_byMove 49 = .ok (.iload_n 3, 1) := by decide +kernel
theorem dX0_byMove_50 : decode cX0_byMove 50 = .ok (.invokevirtual 119, 3) := by decide +kernel
theorem dX0_byMove_53 : decode cX0_byMove 53 = .ok (.ireturn, 1) := by decide +kernel
theorem dX0_byMove_54 : decode cX0_byMove 54 = .ok (.aload_n 0, 1) := by decide +kernel
theorem dX0_byMove_55 : decode cX0_byMove 55 = .ok (.aload_n 1, 1) := by decide +kernel
theorem dX0_byMove_56 : decode cX0_byMove 56 = .ok (.iload_n 2, 1) := by decide +kernel
theorem dX0_byMove_57 : decode cX0_byMove 57 = .ok (.iload_n 3, 1) := by decide +kernel
theorem dX0_byMove_58 : decode cX0_byMove 58 = .ok (.invokevirtual 123, 3) := by decide +kernel
theorem dX0_byMove_61 : decode cX0_byMove 61 = .ok (.ireturn, 1) := by decide +kernel
theorem dX0_byMove_62 : decode cX0_byMove 62 = .ok (.iload 5, 2) := by decide +kernel
theorem dX0_byMove_64 : decode cX0_byMove 64 = .ok (.iload_n 2, 1) := by decide +kernel
theorem dX0_byMove_65 : decode cX0_byMove 65 = .ok (.ishr, 1) := by decide +kernel
theorem dX0_byMove_66 : decode cX0_byMove 66 = .ok (.iconst 1, 1) := by decide +kernel
theorem dX0_byMove_67 : decode cX0_byMove 67 = .ok (.iand, 1) := by decide +kernel
theorem dX0_byMove_68 : decode cX0_byMove 68 = .ok (.iconst 1, 1) := by decide +kernel
theorem dX0_byMove_69 : decode cX0_byMove 69 = .ok (.if_icmp .ne 13, 3) := by decide +kernel
theorem dX0_byMove_72 : decode cX0_byMove 72 = .ok (.aload_n 0, 1) := by decide +kernel
theorem dX0_byMove_73 : decode cX0_byMove 73 = .ok (.aload_n 1, 1) := by decide +kernel
theorem dX0_byMove_74 : decode cX0_byMove 74 = .ok (.iload_n 2, 1) := by decide +kernel
theorem dX0_byMove_75 : decode cX0_byMove 75 = .ok (.iload_n 3, 1) := by decide +kernel
theorem dX0_byMove_76 : decode cX0_byMove 76 = .ok (.invokevirtual 119, 3) := by decide +kernel
theorem dX0_byMove_79 : decode cX0_byMove 79 = .ok (.goto 10, 3) := by decide +kernel
theorem dX0_byMove_82 : decode cX0_byMove 82 = .ok (.aload_n 1, 1) := by decide +kernel
theorem dX0_byMove_83 : decode cX0_byMove 83 = .ok (.iload_n 2, 1) := by decide +kernel
theorem dX0_byMove_84 : decode cX0_byMove 84 = .ok (.iconst 0, 1) := by decide +kernel
theorem dX0_byMove_85 : decode cX0_byMove 85 = .ok (.iload_n 3, 1) := by decide +kernel
theorem dX0_byMove_86 : decode cX0_byMove 86 = .ok (.invokevirtual 107, 3) := by decide +kernel
theorem dX0_byMove_89 : decode cX0_byMove 89 = .ok (.ireturn, 1) := by decide +kernel
theorem dX0_byMove_90 : decode cX0_byMove 90 = .ok (.aload_n 1, 1) := by decide +kernel
theorem dX0_byMove_91 : decode cX0_byMove 91 = .ok (.iload_n 2, 1) := by decide +kernel
theorem dX0_byMove_92 : decode cX0_byMove 92 = .ok (.iconst 0, 1) := by decide +kernel
theorem dX0_byMove_93 : decode cX0_byMove 93 = .ok (.iload_n 3, 1) := by decide +kernel
theorem dX0_byMove_94 : decode cX0_byMove 94 = .ok (.invokevirtual 107, 3) := by decide +kernel
theorem dX0_byMove_97 : decode cX0_byMove 97 = .ok (.ireturn, 1) := by decide +kernel
theorem dX0_byNext_0 : decode cX0_byNext 0 = .ok (.aload_n 0, 1) := by decide +kernel
theorem dX0_byNext_1 : decode cX0_byNext 1 = .ok (.getfield 27, 3) := by decide +kernel
theorem dX0_byNext_4 : decode cX0_byNext 4 = .ok (.iload_n 2, 1) := by decide +kernel
theorem dX0_byNext_5 : decode cX0_byNext 5 = .ok (.iaload, 1) := by decide +kernel
theorem dX0_byNext_6 : decode cX0_byNext 6 = .ok (.istore 5, 2) := by decide +kernel
theorem dX0_byNext_8 : decode cX0_byNext 8 = .ok (.iload 5, 2) := by decide +kernel
theorem dX0_byNext_10 : decode cX0_byNext 10 = .ok (.invokestatic 126, 3) := by decide +kernel
theorem dX0_byNext_13 : decode cX0_byNext 13 = .ok (.ifCond .eq 17, 3) := by decide +kernel
theorem dX0_byNext_16 : decode cX0_byNext 16 = .ok (.iload_n 3, 1) := by decide +kernel
theorem dX0_byNext_17 : decode cX0_byNext 17 = .ok (.iload 5, 2) := by decide +kernel
theorem dX0_byNext_19 : decode cX0_byNext 19 = .ok (.ishr, 1) := by decide +kernel
theorem dX0_byNext_20 : decode cX0_byNext 20 = .ok (.iconst 1, 1) := by decide +kernel
theorem dX0_byNext_21 : decode cX0_byNext 21 = .ok (.iand, 1) := by decide +kernel
theorem dX0_byNext_22 : decode cX0_byNext 22 = .ok (.iconst 1, 1) := by decide +kernel
theorem dX0_byNext_23 : decode cX0_byNext 23 = .ok (.if_icmp .ne 7, 3) := by decide +kernel
theorem dX0_byNext_26 : decode cX0_byNext 26 = .ok (.iconst 1, 1) := by decide +kernel
theorem dX0_byNext_27 : decode cX0_byNext 27 = .ok (.goto 4, 3) := by decide +kernel
theorem dX0_byNext_30 : decode cX0_byNext 30 = .ok (.iconst 0, 1) := by decide +kernel
theorem dX0_byNext_31 : decode cX0_byNext 31 = .ok (.istore 6, 2) := by decide +kernel
theorem dX0_byNext_33 : decode cX0_byNext 33 = .ok (.iload 6, 2) := by decide +kernel
theorem dX0_byNext_35 : decode cX0_byNext 35 = .ok (.ifCond .eq 13, 3) := by decide +kernel
theorem dX0_byNext_38 : decode cX0_byNext 38 = .ok (.iload 5, 2) := by decide +kernel
theorem dX0_byNext_40 : decode cX0_byNext 40 = .ok (.iload 4, 2) := by decide +kernel
theorem dX0_byNext_42 : decode cX0_byNext 42 = .ok (.if_icmp .eq 6, 3) := by decide +kernel
theorem dX0_byNext_45 : decode cX0_byNext 45 = .ok (.iload 5, 2) := by decide +kernel
theorem dX0_byNext_47 : decode cX0_byNext 47 = .ok (.ireturn, 1) := by decide +kernel
theorem dX0_byNext_48 : decode cX0_byNext 48 = .ok (.aload_n 1, 1) := by decide +kernel
theorem dX0_byNext_49 : decode cX0_byNext 49 = .ok (.iload_n 2, 1) := by decide +kernel
theorem dX0_byNext_50 : decode cX0_byNext 50 = .ok (.iload 5, 2) := by decide +kernel
theorem dX0_byNext_52 : decode cX0_byNext 52 = .ok (.invokevirtual 130, 3) := by decide +kernel
theorem dX0_byNext_55 : decode cX0_byNext 55 = .ok (.istore 7, 2) := by decide +kernel
theorem dX0_byNext_57 : decode cX0_byNext 57 = .ok (.iload 7, 2) := by decide +kernel
theorem dX0_byNext_59 : decode cX0_byNext 59 = .ok (.iconst (-1), 1) := by decide +kernel
theorem dX0_byNext_60 : decode cX0_byNext 60 = .ok (.if_icmp .ne 7, 3) := by decide +kernel
theorem dX0_byNext_63 : decode cX0_byNext 63 = .ok (.iconst (-1), 1) := by decide +kernel
theorem dX0_byNext_64 : decode cX0_byNext 64 = .ok (.goto 13, 3) := by decide +kernel
theorem dX0_byNext_67 : decode cX0_byNext 67 = .ok (.aload_n 1, 1) := by decide +kernel
theorem dX0_byNext_68 : decode cX0_byNext 68 = .ok (.iload_n 2, 1) := by decide +kernel
theorem dX0_byNext_69 : decode cX0_byNext 69 = .ok (.iload 7, 2) := by decide +kernel
theorem dX0_byNext_71 : decode cX0_byNext 71 = .ok (.iconst 1, 1) := by decide +kernel
theorem dX0_byNext_72 : decode cX0_byNext 72 = .ok (.iadd, 1) := by decide +kernel
theorem dX0_byNext_73 : decode cX0_byNext 73 = .ok (.iload_n 3, 1) := by decide +kernel
theorem dX0_byNext_74 : decode cX0_byNext 74 = .ok (.invokevirtual 107, 3) := by decide +kernel
theorem dX0_byNext_77 : decode cX0_byNext 77 = .ok (.istore 8, 2) := by decide +kernel
theorem dX0_byNext_79 : decode cX0_byNext 79 = .ok (.iload 8, 2) := by decide +kernel
theorem dX0_byNext_81 : decode cX0_byNext 81 = .ok (.iconst (-1), 1) := by decide +kernel
theorem dX0_byNext_82 : decode cX0_byNext 82 = .ok (.if_icmp .eq 6, 3) := by decide +kernel
theorem dX0_byNext_85 : decode cX0_byNext 85 = .ok (.iload 8, 2) := by decide +kernel
theorem dX0_byNext_87 : decode cX0_byNext 87 = .ok (.ireturn, 1) := by decide +kernel
theorem dX0_byNext_88 : decode cX0_byNext 88 = .ok (.iload 6, 2) := by decide +kernel
theorem dX0_byNext_90 : decode cX0_byNext 90 = .ok (.ifCond .eq 8, 3) := by decide +kernel
theorem dX0_byNext_93 : decode cX0_byNext 93 = .ok (.iload 5, 2) := by decide +kernel
theorem dX0_byNext_95 : decode cX0_byNext 95 = .ok (.goto 10, 3) := by decide +kernel
theorem dX0_byNext_98 : decode cX0_byNext 98 = .ok (.aload_n 1, 1) := by decide +kernel
theorem dX0_byNext_99 : decode cX0_byNext 99 = .ok (.iload_n 2, 1) := by decide +kernel
theorem dX0_byNext_100 : decode cX0_byNext 100 = .ok (.iconst 0, 1) := by decide +kernel
theorem dX0_byNext_101 : decode cX0_byNext 101 = .ok (.iload_n 3, 1) := by decide +kernel
theorem dX0_byNext_102 : decode cX0_byNext 102 = .ok (.invokevirtual 107, 3) := by decide +kernel
theorem dX0_byNext_105 : decode cX0_byNext 105 = .ok (.ireturn, 1) := by decide +kernel
theorem dX0_byFollow_0 : decode cX0_byFollow 0 = .ok (.aload_n 1, 1) := by decide +kernel
theorem dX0_byFollow_1 : decode cX0_byFollow 1 = .ok (.getfield 93, 3) := by decide +kernel
theorem dX0_byFollow_4 : decode cX0_byFollow 4 = .ok (.iload_n 2, 1) := by decide +kernel
theorem dX0_byFollow_5 : decode cX0_byFollow 5 = .ok (.iaload, 1) := by decide +kernel
theorem dX0_byFollow_6 : decode cX0_byFollow 6 = .ok (.istore 4, 2) := by decide +kernel
theorem dX0_byFollow_8 : decode cX0_byFollow 8 = .ok (.iload 4, 2) := by decide +kernel
theorem dX0_byFollow_10 : decode cX0_byFollow 10 = .ok (.ifCond .lt 20, 3) := by decide +kernel
theorem dX0_byFollow_13 : decode cX0_byFollow 13 = .ok (.iload 4, 2) := by decide +kernel
theorem dX0_byFollow_15 : decode cX0_byFollow 15 = .ok (.bipush 6, 2) := by decide +kernel
theorem dX0_byFollow_17 : decode cX0_byFollow 17 = .ok (.if_icmp .ge 13, 3) := by decide +kernel
theorem dX0_byFollow_20 : decode cX0_byFollow 20 = .ok (.aload_n 0, 1) := by decide +kernel
theorem dX0_byFollow_21 : decode cX0_byFollow 21 = .ok (.getfield 27, 3) := by decide +kernel
theorem dX0_byFollow_24 : decode cX0_byFollow 24 = .ok (.iload 4, 2) := by decide +kernel
theorem dX0_byFollow_26 : decode cX0_byFollow 26 = .ok (.iaload, 1) := by decide +kernel
theorem dX0_byFollow_27 : decode cX0_byFollow 27 = .ok (.goto 4, 3) := by decide +kernel
theorem dX0_byFollow_30 : decode cX0_byFollow 30 = .ok (.iconst (-1), 1) := by decide +kernel
theorem dX0_byFollow_31 : decode cX0_byFollow 31 = .ok (.istore 5, 2) := by decide +kernel
theorem dX0_byFollow_33 : decode cX0_byFollow 33 = .ok (.iload 5, 2) := by decide +kernel
theorem dX0_byFollow_35 : decode cX0_byFollow 35 = .ok (.invokestatic 126, 3) := by decide +kernel
theorem dX0_byFollow_38 : decode cX0_byFollow 38 = .ok (.ifCond .eq 17, 3) := by decide +kernel
theorem dX0_byFollow_41 : decode cX0_byFollow 41 = .ok (.iload_n 3, 1) := by decide +kernel
theorem dX0_byFollow_42 : decode cX0_byFollow 42 = .ok (.iload 5, 2) := by decide +kernel
theorem dX0_byFollow_44 : decode cX0_byFollow 44 = .ok (.ishr, 1) := by decide +kernel
theorem dX0_byFollow_45 : decode cX0_byFollow 45 = .ok (.iconst 1, 1) := by decide +kernel
theorem dX0_byFollow_46 : decode cX0_byFollow 46 = .ok (.iand, 1) := by decide +kernel
theorem dX0_byFollow_47 : decode cX0_byFollow 47 = .ok (.iconst 1, 1) := by decide +kernel
theorem dX0_byFollow_48 : decode cX0_byFollow 48 = .ok (.if_icmp .ne 7, 3) := by decide +kernel
theorem dX0_byFollow_51 : decode cX0_byFollow 51 = .ok (.iconst 1, 1) := by decide +kernel
theorem dX0_byFollow_52 : decode cX0_byFollow 52 = .ok (.goto 4, 3) := by decide +kernel
theorem dX0_byFollow_55 : decode cX0_byFollow 55 = .ok (.iconst 0, 1) := by decide +kernel
theorem dX0_byFollow_56 : decode cX0_byFollow 56 = .ok (.istore 6, 2) := by decide +kernel
theorem dX0_byFollow_58 : decode cX0_byFollow 58 = .ok (.iload 6, 2) := by decide +kernel
theorem dX0_byFollow_60 : decode cX0_byFollow 60 = .ok (.ifCond .eq 19, 3) := by decide +kernel
theorem dX0_byFollow_63 : decode cX0_byFollow 63 = .ok (.aload_n 1, 1) := by decide +kernel
theorem dX0_byFollow_64 : decode cX0_byFollow 64 = .ok (.iload_n 2, 1) := by decide +kernel
theorem dX0_byFollow_65 : decode cX0_byFollow 65 = .ok (.iload 5, 2) := by decide +kernel
theorem dX0_byFollow_67 : decode cX0_byFollow 67 = .ok (.invokevirtual 130, 3) := by decide +kernel
theorem dX0_byFollow_70 : decode cX0_byFollow 70 = .ok (.iconst (-1), 1) := by decide +kernel
theorem dX0_byFollow_71 : decode cX0_byFollow 71 = .ok (.if_icmp .eq 8, 3) := by decide +kernel
theorem dX0_byFollow_74 : decode cX0_byFollow 74 = .ok (.iload 5, 2) := by decide +kernel
theorem dX0_byFollow_76 : decode cX0_byFollow 76 = .ok (.goto 10, 3) := by decide +kernel
theorem dX0_byFollow_79 : decode cX0_byFollow 79 = .ok (.aload_n 1, 1) := by decide +kernel
theorem dX0_byFollow_80 : decode cX0_byFollow 80 = .ok (.iload_n 2, 1) := by decide +kernel
theorem dX0_byFollow_81 : decode cX0_byFollow 81 = .ok (.iconst 0, 1) := by decide +kernel
theorem dX0_byFollow_82 : decode cX0_byFollow 82 = .ok (.iload_n 3, 1) := by decide +kernel
theorem dX0_byFollow_83 : decode cX0_byFollow 83 = .ok (.invokevirtual 107, 3) := by decide +kernel
theorem dX0_byFollow_86 : decode cX0_byFollow 86 = .ok (.ireturn, 1) := by decide +kernel
theorem dX0_byLead_0 : decode cX0_byLead 0 = .ok (.iconst (-1), 1) := by decide +kernel
theorem dX0_byLead_1 : decode cX0_byLead 1 = .ok (.istore 4, 2) := by decide +kernel
theorem dX0_byLead_3 : decode cX0_byLead 3 = .ok (.iconst (-1), 1) := by decide +kernel
theorem dX0_byLead_4 : decode cX0_byLead 4 = .ok (.istore 5, 2) := by decide +kernel
theorem dX0_byLead_6 : decode cX0_byLead 6 = .ok (.iload_n 2, 1) := by decide +kernel
theorem dX0_byLead_7 : decode cX0_byLead 7 = .ok (.iconst 5, 1) := by decide +kernel
theorem dX0_byLead_8 : decode cX0_byLead 8 = .ok (.imul, 1) := by decide +kernel
theorem dX0_byLead_9 : decode cX0_byLead 9 = .ok (.istore 6, 2) := by decide +kernel
theorem dX0_byLead_11 : decode cX0_byLead 11 = .ok (.iconst 0, 1) := by decide +kernel
theorem dX0_byLead_12 : decode cX0_byLead 12 = .ok (.istore 7, 2) := by decide +kernel
theorem dX0_byLead_14 : decode cX0_byLead 14 = .ok (.iload 7, 2) := by decide +kernel
theorem dX0_byLead_16 : decode cX0_byLead 16 = .ok (.aload_n 1, 1) := by decide +kernel
theorem dX0_byLead_17 : decode cX0_byLead 17 = .ok (.getfield 133, 3) := by decide +kernel
theorem dX0_byLead_20 : decode cX0_byLead 20 = .ok (.iload_n 2, 1) := by decide +kernel
theorem dX0_byLead_21 : decode cX0_byLead 21 = .ok (.iaload, 1) := by decide +kernel
theorem dX0_byLead_22 : decode cX0_byLead 22 = .ok (.if_icmp .ge 56, 3) := by decide +kernel
theorem dX0_byLead_25 : decode cX0_byLead 25 = .ok (.aload_n 1, 1) := by decide +kernel
theorem dX0_byLead_26 : decode cX0_byLead 26 = .ok (.getfield 136, 3) := by decide +kernel
theorem dX0_byLead_29 : decode cX0_byLead 29 = .ok (.iload 6, 2) := by decide +kernel
theorem dX0_byLead_31 : decode cX0_byLead 31 = .ok (.iload 7, 2) := by decide +kernel
theorem dX0_byLead_33 : decode cX0_byLead 33 = .ok (.iadd, 1) := by decide +kernel

theorem dX2_init_0 : decode cX2_init 0 = .ok (.aload_n 0, 1) := by decide +kernel
theorem dX2_init_1 : decode cX2_init 1 = .ok (.invokespecial 3, 3) := by decide +kernel
theorem dX2_init_4 : decode cX2_init 4 = .ok (.aload_n 0, 1) := by decide +kernel
theorem dX2_init_5 : decode cX2_init 5 = .ok (.iconst 4, 1) := by decide +kernel
theorem dX2_init_6 : decode cX2_init 6 = .ok (.newarray .int, 2) := by decide +kernel
theorem dX2_init_8 : decode cX2_init 8 = .ok (.putfield 9, 3) := by decide +kernel
theorem dX2_init_11 : decode cX2_init 11 = .ok (.aload_n 0, 1) := by decide +kernel
theorem dX2_init_12 : decode cX2_init 12 = .ok (.iconst 4, 1) := by decide +kernel
theorem dX2_init_13 : decode cX2_init 13 = .ok (.newarray .int, 2) := by decide +kernel
theorem dX2_init_15 : decode cX2_init 15 = .ok (.putfield 15, 3) := by decide +kernel
theorem dX2_init_18 : decode cX2_init 18 = .ok (.aload_n 0, 1) := by decide +kernel
theorem dX2_init_19 : decode cX2_init 19 = .ok (.bipush 96, 2) := by decide +kernel
theorem dX2_init_21 : decode cX2_init 21 = .ok (.newarray .int, 2) := by decide +kernel
theorem dX2_init_23 : decode cX2_init 23 = .ok (.putfield 18, 3) := by decide +kernel
theorem dX2_init_26 : decode cX2_init 26 = .ok (.aload_n 0, 1) := by decide +kernel
theorem dX2_init_27 : decode cX2_init 27 = .ok (.getfield 9, 3) := by decide +kernel
theorem dX2_init_30 : decode cX2_init 30 = .ok (.iconst (-1), 1) := by decide +kernel
theorem dX2_init_31 : decode cX2_init 31 = .ok (.invokestatic 21, 3) := by decide +kernel
theorem dX2_init_34 : decode cX2_init 34 = .ok (.return_, 1) := by decide +kernel
theorem dX2_isSheet_0 : decode cX2_isSheet 0 = .ok (.iload_n 0, 1) := by decide +kernel
theorem dX2_isSheet_1 : decode cX2_isSheet 1 = .ok (.ifCond .lt 12, 3) := by decide +kernel
theorem dX2_isSheet_4 : decode cX2_isSheet 4 = .ok (.iload_n 0, 1) := by decide +kernel
theorem dX2_isSheet_5 : decode cX2_isSheet 5 = .ok (.iconst 4, 1) := by decide +kernel
theorem dX2_isSheet_6 : decode cX2_isSheet 6 = .ok (.if_icmp .ge 7, 3) := by decide +kernel
theorem dX2_isSheet_9 : decode cX2_isSheet 9 = .ok (.iconst 1, 1) := by decide +kernel
theorem dX2_isSheet_10 : decode cX2_isSheet 10 = .ok (.goto 4, 3) := by decide +kernel
theorem dX2_isSheet_13 : decode cX2_isSheet 13 = .ok (.iconst 0, 1) := by decide +kernel
theorem dX2_isSheet_14 : decode cX2_isSheet 14 = .ok (.ireturn, 1) := by decide +kernel
theorem dX2_isLane_0 : decode cX2_isLane 0 = .ok (.iload_n 0, 1) := by decide +kernel
theorem dX2_isLane_1 : decode cX2_isLane 1 = .ok (.ifCond .lt 12, 3) := by decide +kernel
theorem dX2_isLane_4 : decode cX2_isLane 4 = .ok (.iload_n 0, 1) := by decide +kernel
theorem dX2_isLane_5 : decode cX2_isLane 5 = .ok (.iconst 2, 1) := by decide +kernel
theorem dX2_isLane_6 : decode cX2_isLane 6 = .ok (.if_icmp .gt 7, 3) := by decide +kernel
theorem dX2_isLane_9 : decode cX2_isLane 9 = .ok (.iconst 1, 1) := by decide +kernel
theorem dX2_isLane_10 : decode cX2_isLane 10 = .ok (.goto 4, 3) := by decide +kernel
theorem dX2_isLane_13 : decode cX2_isLane 13 = .ok (.iconst 0, 1) := by decide +kernel
theorem dX2_isLane_14 : decode cX2_isLane 14 = .ok (.ireturn, 1) := by decide +kernel
theorem dX2_isMissing_0 : decode cX2_isMissing 0 = .ok (.aload_n 0, 1) := by decide +kernel
theorem dX2_isMissing_1 : decode cX2_isMissing 1 = .ok (.getfield 9, 3) := by decide +kernel
theorem dX2_isMissing_4 : decode cX2_isMissing 4 = .ok (.iload_n 1, 1) := by decide +kernel
theorem dX2_isMissing_5 : decode cX2_isMissing 5 = .ok (.iaload, 1) := by decide +kernel
theorem dX2_isMissing_6 : decode cX2_isMissing 6 = .ok (.iconst (-1), 1) := by decide +kernel
theorem dX2_isMissing_7 : decode cX2_isMissing 7 = .ok (.if_icmp .ne 7, 3) := by decide +kernel
theorem dX2_isMissing_10 : decode cX2_isMissing 10 = .ok (.iconst 1, 1) := by decide +kernel
theorem dX2_isMissing_11 : decode cX2_isMissing 11 = .ok (.goto 4, 3) := by decide +kernel
theorem dX2_isMissing_14 : decode cX2_isMissing 14 = .ok (.iconst 0, 1) := by decide +kernel
theorem dX2_isMissing_15 : decode cX2_isMissing 15 = .ok (.ireturn, 1) := by decide +kernel
theorem dX2_lay_0 : decode cX2_lay 0 = .ok (.aload_n 0, 1) := by decide +kernel
theorem dX2_lay_1 : decode cX2_lay 1 = .ok (.getfield 9, 3) := by decide +kernel
theorem dX2_lay_4 : decode cX2_lay 4 = .ok (.iload_n 1, 1) := by decide +kernel
theorem dX2_lay_5 : decode cX2_lay 5 = .ok (.iload_n 2, 1) := by decide +kernel
theorem dX2_lay_6 : decode cX2_lay 6 = .ok (.iastore, 1) := by decide +kernel
theorem dX2_lay_7 : decode cX2_lay 7 = .ok (.aload_n 0, 1) := by decide +kernel
theorem dX2_lay_8 : decode cX2_lay 8 = .ok (.getfield 15, 3) := by decide +kernel
theorem dX2_lay_11 : decode cX2_lay 11 = .ok (.iload_n 1, 1) := by decide +kernel
theorem dX2_lay_12 : decode cX2_lay 12 = .ok (.iload_n 3, 1) := by decide +kernel
theorem dX2_lay_13 : decode cX2_lay 13 = .ok (.iastore, 1) := by decide +kernel
theorem dX2_lay_14 : decode cX2_lay 14 = .ok (.iconst 0, 1) := by decide +kernel
theorem dX2_lay_15 : decode cX2_lay 15 = .ok (.istore 4, 2) := by decide +kernel
theorem dX2_lay_17 : decode cX2_lay 17 = .ok (.iload 4, 2) := by decide +kernel
theorem dX2_lay_19 : decode cX2_lay 19 = .ok (.bipush 24, 2) := by decide +kernel
theorem dX2_lay_21 : decode cX2_lay 21 = .ok (.if_icmp .ge 22, 3) := by decide +kernel
theorem dX2_lay_24 : decode cX2_lay 24 = .ok (.aload_n 0, 1) := by decide +kernel
theorem dX2_lay_25 : decode cX2_lay 25 = .ok (.getfield 18, 3) := by decide +kernel
theorem dX2_lay_28 : decode cX2_lay 28 = .ok (.iload_n 1, 1) := by decide +kernel
theorem dX2_lay_29 : decode cX2_lay 29 = .ok (.bipush 24, 2) := by decide +kernel
theorem dX2_lay_31 : decode cX2_lay 31 = .ok (.imul, 1) := by decide +kernel
theorem dX2_lay_32 : decode cX2_lay 32 = .ok (.iload 4, 2) := by decide +kernel
theorem dX2_lay_34 : decode cX2_lay 34 = .ok (.iadd, 1) := by decide +kernel
theorem dX2_lay_35 : decode cX2_lay 35 = .ok (.iconst 0, 1) := by decide +kernel
theorem dX2_lay_36 : decode cX2_lay 36 = .ok (.iastore, 1) := by decide +kernel
theorem dX2_lay_37 : decode cX2_lay 37 = .ok (.iinc 4 1, 3) := by decide +kernel
theorem dX2_lay_40 : decode cX2_lay 40 = .ok (.goto (-23), 3) := by decide +kernel
theorem dX2_lay_43 : decode cX2_lay 43 = .ok (.return_, 1) := by decide +kernel
theorem dX2_takeAway_0 : decode cX2_takeAway 0 = .ok (.aload_n 0, 1) := by decide +kernel
theorem dX2_takeAway_1 : decode cX2_takeAway 1 = .ok (.getfield 9, 3) := by decide +kernel
theorem dX2_takeAway_4 : decode cX2_takeAway 4 = .ok (.iload_n 1, 1) := by decide +kernel
theorem dX2_takeAway_5 : decode cX2_takeAway 5 = .ok (.iconst (-1), 1) := by decide +kernel
theorem dX2_takeAway_6 : decode cX2_takeAway 6 = .ok (.iastore, 1) := by decide +kernel
theorem dX2_takeAway_7 : decode cX2_takeAway 7 = .ok (.aload_n 0, 1) := by decide +kernel
theorem dX2_takeAway_8 : decode cX2_takeAway 8 = .ok (.getfield 15, 3) := by decide +kernel
theorem dX2_takeAway_11 : decode cX2_takeAway 11 = .ok (.iload_n 1, 1) := by decide +kernel
theorem dX2_takeAway_12 : decode cX2_takeAway 12 = .ok (.iaload, 1) := by decide +kernel
theorem dX2_takeAway_13 : decode cX2_takeAway 13 = .ok (.ireturn, 1) := by decide +kernel
theorem dX2_refusalOfRow_0 : decode cX2_refusalOfRow 0 = .ok (.iload_n 1, 1) := by decide +kernel
theorem dX2_refusalOfRow_1 : decode cX2_refusalOfRow 1 = .ok (.invokestatic 27, 3) := by decide +kernel
theorem dX2_refusalOfRow_4 : decode cX2_refusalOfRow 4 = .ok (.ifCond .eq 10, 3) := by decide +kernel
theorem dX2_refusalOfRow_7 : decode cX2_refusalOfRow 7 = .ok (.iload_n 2, 1) := by decide +kernel
theorem dX2_refusalOfRow_8 : decode cX2_refusalOfRow 8 = .ok (.invokestatic 31, 3) := by decide +kernel
theorem dX2_refusalOfRow_11 : decode cX2_refusalOfRow 11 = .ok (.ifCond .ne 5, 3) := by decide +kernel
theorem dX2_refusalOfRow_14 : decode cX2_refusalOfRow 14 = .ok (.iconst (-1), 1) := by decide +kernel
theorem dX2_refusalOfRow_15 : decode cX2_refusalOfRow 15 = .ok (.ireturn, 1) := by decide +kernel
theorem dX2_refusalOfRow_16 : decode cX2_refusalOfRow 16 = .ok (.aload_n 0, 1) := by decide +kernel
theorem dX2_refusalOfRow_17 : decode cX2_refusalOfRow 17 = .ok (.iload_n 1, 1) := by decide +kernel
theorem dX2_refusalOfRow_18 : decode cX2_refusalOfRow 18 = .ok (.invokevirtual 34, 3) := by decide +kernel
theorem dX2_refusalOfRow_21 : decode cX2_refusalOfRow 21 = .ok (.ifCond .eq 6, 3) := by decide +kernel
theorem dX2_refusalOfRow_24 : decode cX2_refusalOfRow 24 = .ok (.bipush (-11), 2) := by decide +kernel
theorem dX2_refusalOfRow_26 : decode cX2_refusalOfRow 26 = .ok (.ireturn, 1) := by decide +kernel
theorem dX2_refusalOfRow_27 : decode cX2_refusalOfRow 27 = .ok (.aload_n 0, 1) := by decide +kernel
theorem dX2_refusalOfRow_28 : decode cX2_refusalOfRow 28 = .ok (.getfield 9, 3) := by decide +kernel
theorem dX2_refusalOfRow_31 : decode cX2_refusalOfRow 31 = .ok (.iload_n 1, 1) := by decide +kernel
theorem dX2_refusalOfRow_32 : decode cX2_refusalOfRow 32 = .ok (.iaload, 1) := by decide +kernel
theorem dX2_refusalOfRow_33 : decode cX2_refusalOfRow 33 = .ok (.iload_n 2, 1) := by decide +kernel
theorem dX2_refusalOfRow_34 : decode cX2_refusalOfRow 34 = .ok (.if_icmp .eq 6, 3) := by decide +kernel
theorem dX2_refusalOfRow_37 : decode cX2_refusalOfRow 37 = .ok (.bipush (-12), 2) := by decide +kernel
theorem dX2_refusalOfRow_39 : decode cX2_refusalOfRow 39 = .ok (.ireturn, 1) := by decide +kernel
theorem dX2_refusalOfRow_40 : decode cX2_refusalOfRow 40 = .ok (.iload_n 3, 1) := by decide +kernel
theorem dX2_refusalOfRow_41 : decode cX2_refusalOfRow 41 = .ok (.ifCond .lt 16, 3) := by decide +kernel
theorem dX2_refusalOfRow_44 : decode cX2_refusalOfRow 44 = .ok (.iload_n 3, 1) := by decide +kernel
theorem dX2_refusalOfRow_45 : decode cX2_refusalOfRow 45 = .ok (.aload_n 0, 1) := by decide +kernel
theorem dX2_refusalOfRow_46 : decode cX2_refusalOfRow 46 = .ok (.getfield 15, 3) := by decide +kernel
theorem dX2_refusalOfRow_49 : decode cX2_refusalOfRow 49 = .ok (.iload_n 1, 1) := by decide +kernel
theorem dX2_refusalOfRow_50 : decode cX2_refusalOfRow 50 = .ok (.iaload, 1) := by decide +kernel
theorem dX2_refusalOfRow_51 : decode cX2_refusalOfRow 51 = .ok (.iload 4, 2) := by decide +kernel
theorem dX2_refusalOfRow_53 : decode cX2_refusalOfRow 53 = .ok (.isub, 1) := by decide +kernel
theorem dX2_refusalOfRow_54 : decode cX2_refusalOfRow 54 = .ok (.if_icmp .le 8, 3) := by decide +kernel
theorem dX2_refusalOfRow_57 : decode cX2_refusalOfRow 57 = .ok (.bipush (-13), 2) := by decide +kernel
theorem dX2_refusalOfRow_59 : decode cX2_refusalOfRow 59 = .ok (.goto 4, 3) := by decide +kernel
theorem dX2_refusalOfRow_62 : decode cX2_refusalOfRow 62 = .ok (.iconst 0, 1) := by decide +kernel
theorem dX2_refusalOfRow_63 : decode cX2_refusalOfRow 63 = .ok (.ireturn, 1) := by decide +kernel
theorem dX2_at_0 : decode cX2_at 0 = .ok (.aload_n 0, 1) := by decide +kernel
theorem dX2_at_1 : decode cX2_at 1 = .ok (.getfield 18, 3) := by decide +kernel
theorem dX2_at_4 : decode cX2_at 4 = .ok (.iload_n 1, 1) := by decide +kernel
theorem dX2_at_5 : decode cX2_at 5 = .ok (.bipush 24, 2) := by decide +kernel
theorem dX2_at_7 : decode cX2_at 7 = .ok (.imul, 1) := by decide +kernel
theorem dX2_at_8 : decode cX2_at 8 = .ok (.iload_n 2, 1) := by decide +kernel
theorem dX2_at_9 : decode cX2_at 9 = .ok (.iadd, 1) := by decide +kernel
theorem dX2_at_10 : decode cX2_at 10 = .ok (.iaload, 1) := by decide +kernel
theorem dX2_at_11 : decode cX2_at 11 = .ok (.ireturn, 1) := by decide +kernel
theorem dX2_put_0 : decode cX2_put 0 = .ok (.aload_n 0, 1) := by decide +kernel
theorem dX2_put_1 : decode cX2_put 1 = .ok (.getfield 18, 3) := by decide +kernel
theorem dX2_put_4 : decode cX2_put 4 = .ok (.iload_n 1, 1) := by decide +kernel
theorem dX2_put_5 : decode cX2_put 5 = .ok (.bipush 24, 2) := by decide +kernel
theorem dX2_put_7 : decode cX2_put 7 = .ok (.imul, 1) := by decide +kernel
theorem dX2_put_8 : decode cX2_put 8 = .ok (.iload_n 2, 1) := by decide +kernel
theorem dX2_put_9 : decode cX2_put 9 = .ok (.iadd, 1) := by decide +kernel
theorem dX2_put_10 : decode cX2_put 10 = .ok (.aload_n 0, 1) := by decide +kernel
theorem dX2_put_11 : decode cX2_put 11 = .ok (.getfield 9, 3) := by decide +kernel
theorem dX2_put_14 : decode cX2_put 14 = .ok (.iload_n 1, 1) := by decide +kernel
theorem dX2_put_15 : decode cX2_put 15 = .ok (.iaload, 1) := by decide +kernel
theorem dX2_put_16 : decode cX2_put 16 = .ok (.iload_n 3, 1) := by decide +kernel
theorem dX2_put_17 : decode cX2_put 17 = .ok (.invokestatic 37, 3) := by decide +kernel
theorem dX2_put_20 : decode cX2_put 20 = .ok (.iastore, 1) := by decide +kernel
theorem dX2_put_21 : decode cX2_put 21 = .ok (.return_, 1) := by decide +kernel
theorem dX2_lowestBits_0 : decode cX2_lowestBits 0 = .ok (.iload_n 0, 1) := by decide +kernel
theorem dX2_lowestBits_1 : decode cX2_lowestBits 1 = .ok (.lookupswitch 33 #[(0, 27), (1, 30)], 27) := by decide +kernel
theorem dX2_lowestBits_28 : decode cX2_lowestBits 28 = .ok (.iload_n 1, 1) := by decide +kernel
theorem dX2_lowestBits_29 : decode cX2_lowestBits 29 = .ok (.i2b, 1) := by decide +kernel
theorem dX2_lowestBits_30 : decode cX2_lowestBits 30 = .ok (.ireturn, 1) := by decide +kernel
theorem dX2_lowestBits_31 : decode cX2_lowestBits 31 = .ok (.iload_n 1, 1) := by decide +kernel
theorem dX2_lowestBits_32 : decode cX2_lowestBits 32 = .ok (.i2s, 1) := by decide +kernel
theorem dX2_lowestBits_33 : decode cX2_lowestBits 33 = .ok (.ireturn, 1) := by decide +kernel
theorem dX2_lowestBits_34 : decode cX2_lowestBits 34 = .ok (.iload_n 1, 1) := by decide +kernel
theorem dX2_lowestBits_35 : decode cX2_lowestBits 35 = .ok (.ireturn, 1) := by decide +kernel

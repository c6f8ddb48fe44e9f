theorem dX7_bar_45 : decode cX7_bar 45 = .ok (.iload_n 1, 1) := by decide +kernel
theorem dX7_bar_46 : decode cX7_bar 46 = .ok (.iaload, 1) := by decide +kernel
theorem dX7_bar_47 : decode cX7_bar 47 = .ok (.iadd, 1) := by decide +kernel
theorem dX7_bar_48 : decode cX7_bar 48 = .ok (.istore 4, 2) := by decide +kernel
theorem dX7_bar_50 : decode cX7_bar 50 = .ok (.aload_n 0, 1) := by decide +kernel
theorem dX7_bar_51 : decode cX7_bar 51 = .ok (.getfield 25, 3) := by decide +kernel
theorem dX7_bar_54 : decode cX7_bar 54 = .ok (.iload_n 1, 1) := by decide +kernel
theorem dX7_bar_55 : decode cX7_bar 55 = .ok (.iload_n 2, 1) := by decide +kernel
theorem dX7_bar_56 : decode cX7_bar 56 = .ok (.iastore, 1) := by decide +kernel
theorem dX7_bar_57 : decode cX7_bar 57 = .ok (.aload_n 0, 1) := by decide +kernel
theorem dX7_bar_58 : decode cX7_bar 58 = .ok (.getfield 28, 3) := by decide +kernel
theorem dX7_bar_61 : decode cX7_bar 61 = .ok (.iload_n 1, 1) := by decide +kernel
theorem dX7_bar_62 : decode cX7_bar 62 = .ok (.iload_n 3, 1) := by decide +kernel
theorem dX7_bar_63 : decode cX7_bar 63 = .ok (.iastore, 1) := by decide +kernel
theorem dX7_bar_64 : decode cX7_bar 64 = .ok (.iload 4, 2) := by decide +kernel
theorem dX7_bar_66 : decode cX7_bar 66 = .ok (.ireturn, 1) := by decide +kernel
theorem dX7_need_0 : decode cX7_need 0 = .ok (.iload_n 1, 1) := by decide +kernel
theorem dX7_need_1 : decode cX7_need 1 = .ok (.invokestatic 179, 3) := by decide +kernel
theorem dX7_need_4 : decode cX7_need 4 = .ok (.ifCond .ne 7, 3) := by decide +kernel
theorem dX7_need_7 : decode cX7_need 7 = .ok (.iconst (-1), 1) := by decide +kernel
theorem dX7_need_8 : decode cX7_need 8 = .ok (.goto 20, 3) := by decide +kernel
theorem dX7_need_11 : decode cX7_need 11 = .ok (.aload_n 0, 1) := by decide +kernel
theorem dX7_need_12 : decode cX7_need 12 = .ok (.getfield 109, 3) := by decide +kernel
theorem dX7_need_15 : decode cX7_need 15 = .ok (.ifCond .ne 8, 3) := by decide +kernel
theorem dX7_need_18 : decode cX7_need 18 = .ok (.bipush (-2), 2) := by decide +kernel
theorem dX7_need_20 : decode cX7_need 20 = .ok (.goto 8, 3) := by decide +kernel
theorem dX7_need_23 : decode cX7_need 23 = .ok (.aload_n 0, 1) := by decide +kernel
theorem dX7_need_24 : decode cX7_need 24 = .ok (.iload_n 1, 1) := by decide +kernel
theorem dX7_need_25 : decode cX7_need 25 = .ok (.invokevirtual 184, 3) := by decide +kernel
theorem dX7_need_28 : decode cX7_need 28 = .ok (.ireturn, 1) := by decide +kernel
theorem dX7_strike_0 : decode cX7_strike 0 = .ok (.iload_n 1, 1) := by decide +kernel
theorem dX7_strike_1 : decode cX7_strike 1 = .ok (.invokestatic 188, 3) := by decide +kernel
theorem dX7_strike_4 : decode cX7_strike 4 = .ok (.ifCond .eq 15, 3) := by decide +kernel
theorem dX7_strike_7 : decode cX7_strike 7 = .ok (.iload_n 2, 1) := by decide +kernel
theorem dX7_strike_8 : decode cX7_strike 8 = .ok (.i2l, 1) := by decide +kernel
theorem dX7_strike_9 : decode cX7_strike 9 = .ok (.lconst 0, 1) := by decide +kernel
theorem dX7_strike_10 : decode cX7_strike 10 = .ok (.ldc2_w 124, 3) := by decide +kernel
theorem dX7_strike_13 : decode cX7_strike 13 = .ok (.invokestatic 118, 3) := by decide +kernel
theorem dX7_strike_16 : decode cX7_strike 16 = .ok (.ifCond .ne 5, 3) := by decide +kernel
theorem dX7_strike_19 : decode cX7_strike 19 = .ok (.iconst (-1), 1) := by decide +kernel
theorem dX7_strike_20 : decode cX7_strike 20 = .ok (.ireturn, 1) := by decide +kernel
theorem dX7_strike_21 : decode cX7_strike 21 = .ok (.aload_n 0, 1) := by decide +kernel
theorem dX7_strike_22 : decode cX7_strike 22 = .ok (.getfield 31, 3) := by decide +kernel
theorem dX7_strike_25 : decode cX7_strike 25 = .ok (.iload_n 1, 1) := by decide +kernel
theorem dX7_strike_26 : decode cX7_strike 26 = .ok (.iaload, 1) := by decide +kernel
theorem dX7_strike_27 : decode cX7_strike 27 = .ok (.istore_n 3, 1) := by decide +kernel
theorem dX7_strike_28 : decode cX7_strike 28 = .ok (.aload_n 0, 1) := by decide +kernel
theorem dX7_strike_29 : decode cX7_strike 29 = .ok (.getfield 31, 3) := by decide +kernel
theorem dX7_strike_32 : decode cX7_strike 32 = .ok (.iload_n 1, 1) := by decide +kernel
theorem dX7_strike_33 : decode cX7_strike 33 = .ok (.iload_n 2, 1) := by decide +kernel
theorem dX7_strike_34 : decode cX7_strike 34 = .ok (.iastore, 1) := by decide +kernel
theorem dX7_strike_35 : decode cX7_strike 35 = .ok (.iload_n 3, 1) := by decide +kernel
theorem dX7_strike_36 : decode cX7_strike 36 = .ok (.ireturn, 1) := by decide +kernel
theorem dX7_lot_0 : decode cX7_lot 0 = .ok (.iload_n 1, 1) := by decide +kernel
theorem dX7_lot_1 : decode cX7_lot 1 = .ok (.i2l, 1) := by decide +kernel
theorem dX7_lot_2 : decode cX7_lot 2 = .ok (.lconst 0, 1) := by decide +kernel
theorem dX7_lot_3 : decode cX7_lot 3 = .ok (.ldc2_w 191, 3) := by decide +kernel
theorem dX7_lot_6 : decode cX7_lot 6 = .ok (.invokestatic 118, 3) := by decide +kernel
theorem dX7_lot_9 : decode cX7_lot 9 = .ok (.ifCond .eq 15, 3) := by decide +kernel
theorem dX7_lot_12 : decode cX7_lot 12 = .ok (.iload_n 2, 1) := by decide +kernel
theorem dX7_lot_13 : decode cX7_lot 13 = .ok (.i2l, 1) := by decide +kernel
theorem dX7_lot_14 : decode cX7_lot 14 = .ok (.lconst 0, 1) := by decide +kernel
theorem dX7_lot_15 : decode cX7_lot 15 = .ok (.ldc2_w 145, 3) := by decide +kernel
theorem dX7_lot_18 : decode cX7_lot 18 = .ok (.invokestatic 118, 3) := by decide +kernel
theorem dX7_lot_21 : decode cX7_lot 21 = .ok (.ifCond .ne 5, 3) := by decide +kernel
theorem dX7_lot_24 : decode cX7_lot 24 = .ok (.iconst (-1), 1) := by decide +kernel
theorem dX7_lot_25 : decode cX7_lot 25 = .ok (.ireturn, 1) := by decide +kernel
theorem dX7_lot_26 : decode cX7_lot 26 = .ok (.aload_n 0, 1) := by decide +kernel
theorem dX7_lot_27 : decode cX7_lot 27 = .ok (.getfield 34, 3) := by decide +kernel
theorem dX7_lot_30 : decode cX7_lot 30 = .ok (.iload_n 1, 1) := by decide +kernel
theorem dX7_lot_31 : decode cX7_lot 31 = .ok (.iaload, 1) := by decide +kernel
theorem dX7_lot_32 : decode cX7_lot 32 = .ok (.istore_n 3, 1) := by decide +kernel
theorem dX7_lot_33 : decode cX7_lot 33 = .ok (.aload_n 0, 1) := by decide +kernel
theorem dX7_lot_34 : decode cX7_lot 34 = .ok (.getfield 34, 3) := by decide +kernel
theorem dX7_lot_37 : decode cX7_lot 37 = .ok (.iload_n 1, 1) := by decide +kernel
theorem dX7_lot_38 : decode cX7_lot 38 = .ok (.iload_n 2, 1) := by decide +kernel
theorem dX7_lot_39 : decode cX7_lot 39 = .ok (.iastore, 1) := by decide +kernel
theorem dX7_lot_40 : decode cX7_lot 40 = .ok (.iload_n 3, 1) := by decide +kernel
theorem dX7_lot_41 : decode cX7_lot 41 = .ok (.ireturn, 1) := by decide +kernel
theorem dX7_begin_0 : decode cX7_begin 0 = .ok (.aload_n 0, 1) := by decide +kernel
theorem dX7_begin_1 : decode cX7_begin 1 = .ok (.getfield 109, 3) := by decide +kernel
theorem dX7_begin_4 : decode cX7_begin 4 = .ok (.ifCond .ne 6, 3) := by decide +kernel
theorem dX7_begin_7 : decode cX7_begin 7 = .ok (.bipush (-2), 2) := by decide +kernel
theorem dX7_begin_9 : decode cX7_begin 9 = .ok (.ireturn, 1) := by decide +kernel
theorem dX7_begin_10 : decode cX7_begin 10 = .ok (.aload_n 0, 1) := by decide +kernel
theorem dX7_begin_11 : decode cX7_begin 11 = .ok (.getfield 100, 3) := by decide +kernel
theorem dX7_begin_14 : decode cX7_begin 14 = .ok (.istore_n 1, 1) := by decide +kernel
theorem dX7_begin_15 : decode cX7_begin 15 = .ok (.aload_n 0, 1) := by decide +kernel
theorem dX7_begin_16 : decode cX7_begin 16 = .ok (.invokevirtual 97, 3) := by decide +kernel
theorem dX7_begin_19 : decode cX7_begin 19 = .ok (.iload_n 1, 1) := by decide +kernel
theorem dX7_begin_20 : decode cX7_begin 20 = .ok (.ireturn, 1) := by decide +kernel
theorem dX7_countCopy_0 : decode cX7_countCopy 0 = .ok (.iconst 0, 1) := by decide +kernel
theorem dX7_countCopy_1 : decode cX7_countCopy 1 = .ok (.istore_n 1, 1) := by decide +kernel
theorem dX7_countCopy_2 : decode cX7_countCopy 2 = .ok (.iload_n 1, 1) := by decide +kernel
theorem dX7_countCopy_3 : decode cX7_countCopy 3 = .ok (.iconst 5, 1) := by decide +kernel
theorem dX7_countCopy_4 : decode cX7_countCopy 4 = .ok (.if_icmp .ge 16, 3) := by decide +kernel
theorem dX7_countCopy_7 : decode cX7_countCopy 7 = .ok (.aload_n 0, 1) := by decide +kernel
theorem dX7_countCopy_8 : decode cX7_countCopy 8 = .ok (.getfield 67, 3) := by decide +kernel
theorem dX7_countCopy_11 : decode cX7_countCopy 11 = .ok (.iload_n 1, 1) := by decide +kernel
theorem dX7_countCopy_12 : decode cX7_countCopy 12 = .ok (.iconst 0, 1) := by decide +kernel
theorem dX7_countCopy_13 : decode cX7_countCopy 13 = .ok (.iastore, 1) := by decide +kernel
theorem dX7_countCopy_14 : decode cX7_countCopy 14 = .ok (.iinc 1 1, 3) := by decide +kernel
theorem dX7_countCopy_17 : decode cX7_countCopy 17 = .ok (.goto (-15), 3) := by decide +kernel
theorem dX7_countCopy_20 : decode cX7_countCopy 20 = .ok (.iconst 0, 1) := by decide +kernel
theorem dX7_countCopy_21 : decode cX7_countCopy 21 = .ok (.istore_n 1, 1) := by decide +kernel
theorem dX7_countCopy_22 : decode cX7_countCopy 22 = .ok (.iload_n 1, 1) := by decide +kernel
theorem dX7_countCopy_23 : decode cX7_countCopy 23 = .ok (.aload_n 0, 1) := by decide +kernel
theorem dX7_countCopy_24 : decode cX7_countCopy 24 = .ok (.getfield 109, 3) := by decide +kernel
theorem dX7_countCopy_27 : decode cX7_countCopy 27 = .ok (.if_icmp .ge 38, 3) := by decide +kernel
theorem dX7_countCopy_30 : decode cX7_countCopy 30 = .ok (.aload_n 0, 1) := by decide +kernel
theorem dX7_countCopy_31 : decode cX7_countCopy 31 = .ok (.getfield 61, 3) := by decide +kernel
theorem dX7_countCopy_34 : decode cX7_countCopy 34 = .ok (.iload_n 1, 1) := by decide +kernel
theorem dX7_countCopy_35 : decode cX7_countCopy 35 = .ok (.iaload, 1) := by decide +kernel
theorem dX7_countCopy_36 : decode cX7_countCopy 36 = .ok (.ifCond .lt 23, 3) := by decide +kernel
theorem dX7_countCopy_39 : decode cX7_countCopy 39 = .ok (.aload_n 0, 1) := by decide +kernel
theorem dX7_countCopy_40 : decode cX7_countCopy 40 = .ok (.getfield 67, 3) := by decide +kernel
theorem dX7_countCopy_43 : decode cX7_countCopy 43 = .ok (.aload_n 0, 1) := by decide +kernel
theorem dX7_countCopy_44 : decode cX7_countCopy 44 = .ok (.getfield 61, 3) := by decide +kernel
theorem dX7_countCopy_47 : decode cX7_countCopy 47 = .ok (.iload_n 1, 1) := by decide +kernel
theorem dX7_countCopy_48 : decode cX7_countCopy 48 = .ok (.iaload, 1) := by decide +kernel
theorem dX7_countCopy_49 : decode cX7_countCopy 49 = .ok (.dup2, 1) := by decide +kernel
theorem dX7_countCopy_50 : decode cX7_countCopy 50 = .ok (.iaload, 1) := by decide +kernel
theorem dX7_countCopy_51 : decode cX7_countCopy 51 = .ok (.aload_n 0, 1) := by decide +kernel
theorem dX7_countCopy_52 : decode cX7_countCopy 52 = .ok (.getfield 7, 3) := by decide +kernel
theorem dX7_countCopy_55 : decode cX7_countCopy 55 = .ok (.iload_n 1, 1) := by decide +kernel
theorem dX7_countCopy_56 : decode cX7_countCopy 56 = .ok (.iaload, 1) := by decide +kernel
theorem dX7_countCopy_57 : decode cX7_countCopy 57 = .ok (.iadd, 1) := by decide +kernel
theorem dX7_countCopy_58 : decode cX7_countCopy 58 = .ok (.iastore, 1) := by decide +kernel
theorem dX7_countCopy_59 : decode cX7_countCopy 59 = .ok (.iinc 1 1, 3) := by decide +kernel
theorem dX7_countCopy_62 : decode cX7_countCopy 62 = .ok (.goto (-40), 3) := by decide +kernel
theorem dX7_countCopy_65 : decode cX7_countCopy 65 = .ok (.return_, 1) := by decide +kernel
theorem dX7_isAlive_0 : decode cX7_isAlive 0 = .ok (.aload_n 0, 1) := by decide +kernel
theorem dX7_isAlive_1 : decode cX7_isAlive 1 = .ok (.getfield 31, 3) := by decide +kernel
theorem dX7_isAlive_4 : decode cX7_isAlive 4 = .ok (.iload_n 1, 1) := by decide +kernel
theorem dX7_isAlive_5 : decode cX7_isAlive 5 = .ok (.iaload, 1) := by decide +kernel
theorem dX7_isAlive_6 : decode cX7_isAlive 6 = .ok (.iload_n 2, 1) := by decide +kernel
theorem dX7_isAlive_7 : decode cX7_isAlive 7 = .ok (.bipush 32, 2) := by decide +kernel
theorem dX7_isAlive_9 : decode cX7_isAlive 9 = .ok (.if_icmp .ge 7, 3) := by decide +kernel
theorem dX7_isAlive_12 : decode cX7_isAlive 12 = .ok (.iload_n 2, 1) := by decide +kernel
theorem dX7_isAlive_13 : decode cX7_isAlive 13 = .ok (.goto 5, 3) := by decide +kernel
theorem dX7_isAlive_16 : decode cX7_isAlive 16 = .ok (.bipush 31, 2) := by decide +kernel
theorem dX7_isAlive_18 : decode cX7_isAlive 18 = .ok (.if_icmp .le 7, 3) := by decide +kernel
theorem dX7_isAlive_21 : decode cX7_isAlive 21 = .ok (.iconst 1, 1) := by decide +kernel
theorem dX7_isAlive_22 : decode cX7_isAlive 22 = .ok (.goto 4, 3) := by decide +kernel
theorem dX7_isAlive_25 : decode cX7_isAlive 25 = .ok (.iconst 0, 1) := by decide +kernel
theorem dX7_isAlive_26 : decode cX7_isAlive 26 = .ok (.ireturn, 1) := by decide +kernel
theorem dX7_firm_0 : decode cX7_firm 0 = .ok (.iconst 0, 1) := by decide +kernel
theorem dX7_firm_1 : decode cX7_firm 1 = .ok (.istore_n 3, 1) := by decide +kernel
theorem dX7_firm_2 : decode cX7_firm 2 = .ok (.iload_n 3, 1) := by decide +kernel
theorem dX7_firm_3 : decode cX7_firm 3 = .ok (.aload_n 0, 1) := by decide +kernel
theorem dX7_firm_4 : decode cX7_firm 4 = .ok (.getfield 19, 3) := by decide +kernel
theorem dX7_firm_7 : decode cX7_firm 7 = .ok (.iload_n 1, 1) := by decide +kernel
theorem dX7_firm_8 : decode cX7_firm 8 = .ok (.iaload, 1) := by decide +kernel
theorem dX7_firm_9 : decode cX7_firm 9 = .ok (.if_icmp .ge 38, 3) := by decide +kernel
theorem dX7_firm_12 : decode cX7_firm 12 = .ok (.aload_n 0, 1) := by decide +kernel
theorem dX7_firm_13 : decode cX7_firm 13 = .ok (.aload_n 0, 1) := by decide +kernel
theorem dX7_firm_14 : decode cX7_firm 14 = .ok (.getfield 22, 3) := by decide +kernel
theorem dX7_firm_17 : decode cX7_firm 17 = .ok (.iconst 5, 1) := by decide +kernel
theorem dX7_firm_18 : decode cX7_firm 18 = .ok (.iload_n 1, 1) := by decide +kernel
theorem dX7_firm_19 : decode cX7_firm 19 = .ok (.imul, 1) := by decide +kernel
theorem dX7_firm_20 : decode cX7_firm 20 = .ok (.iload_n 3, 1) := by decide +kernel
theorem dX7_firm_21 : decode cX7_firm 21 = .ok (.iadd, 1) := by decide +kernel
theorem dX7_firm_22 : decode cX7_firm 22 = .ok (.iaload, 1) := by decide +kernel
theorem dX7_firm_23 : decode cX7_firm 23 = .ok (.iload_n 2, 1) := by decide +kernel
theorem dX7_firm_24 : decode cX7_firm 24 = .ok (.invokevirtual 193, 3) := by decide +kernel
theorem dX7_firm_27 : decode cX7_firm 27 = .ok (.ifCond .eq 14, 3) := by decide +kernel
theorem dX7_firm_30 : decode cX7_firm 30 = .ok (.aload_n 0, 1) := by decide +kernel
theorem dX7_firm_31 : decode cX7_firm 31 = .ok (.getfield 22, 3) := by decide +kernel
theorem dX7_firm_34 : decode cX7_firm 34 = .ok (.iconst 5, 1) := by decide +kernel
theorem dX7_firm_35 : decode cX7_firm 35 = .ok (.iload_n 1, 1) := by decide +kernel
theorem dX7_firm_36 : decode cX7_firm 36 = .ok (.imul, 1) := by decide +kernel
theorem dX7_firm_37 : decode cX7_firm 37 = .ok (.iload_n 3, 1) := by decide +kernel
theorem dX7_firm_38 : decode cX7_firm 38 = .ok (.iadd, 1) := by decide +kernel
theorem dX7_firm_39 : decode cX7_firm 39 = .ok (.iaload, 1) := by decide +kernel
theorem dX7_firm_40 : decode cX7_firm 40 = .ok (.ireturn, 1) := by decide +kernel
theorem dX7_firm_41 : decode cX7_firm 41 = .ok (.iinc 3 1, 3) := by decide +kernel
theorem dX7_firm_44 : decode cX7_firm 44 = .ok (.goto (-42), 3) := by decide +kernel
theorem dX7_firm_47 : decode cX7_firm 47 = .ok (.bipush (-4), 2) := by decide +kernel
theorem dX7_firm_49 : decode cX7_firm 49 = .ok (.ireturn, 1) := by decide +kernel
theorem dX7_lead_0 : decode cX7_lead 0 = .ok (.bipush (-4), 2) := by decide +kernel
theorem dX7_lead_2 : decode cX7_lead 2 = .ok (.istore_n 3, 1) := by decide +kernel
theorem dX7_lead_3 : decode cX7_lead 3 = .ok (.iconst 0, 1) := by decide +kernel
theorem dX7_lead_4 : decode cX7_lead 4 = .ok (.istore 4, 2) := by decide +kernel
theorem dX7_lead_6 : decode cX7_lead 6 = .ok (.iload 4, 2) := by decide +kernel
theorem dX7_lead_8 : decode cX7_lead 8 = .ok (.aload_n 0, 1) := by decide +kernel
theorem dX7_lead_9 : decode cX7_lead 9 = .ok (.getfield 19, 3) := by decide +kernel
theorem dX7_lead_12 : decode cX7_lead 12 = .ok (.iload_n 1, 1) := by decide +kernel
theorem dX7_lead_13 : decode cX7_lead 13 = .ok (.iaload, 1) := by decide +kernel
theorem dX7_lead_14 : decode cX7_lead 14 = .ok (.if_icmp .ge 59, 3) := by decide +kernel
theorem dX7_lead_17 : decode cX7_lead 17 = .ok (.aload_n 0, 1) := by decide +kernel
theorem dX7_lead_18 : decode cX7_lead 18 = .ok (.getfield 22, 3) := by decide +kernel
theorem dX7_lead_21 : decode cX7_lead 21 = .ok (.iconst 5, 1) := by decide +kernel
theorem dX7_lead_22 : decode cX7_lead 22 = .ok (.iload_n 1, 1) := by decide +kernel
theorem dX7_lead_23 : decode cX7_lead 23 = .ok (.imul, 1) := by decide +kernel
theorem dX7_lead_24 : decode cX7_lead 24 = .ok (.iload 4, 2) := by decide +kernel
theorem dX7_lead_26 : decode cX7_lead 26 = .ok (.iadd, 1) := by decide +kernel
theorem dX7_lead_27 : decode cX7_lead 27 = .ok (.iaload, 1) := by decide +kernel
theorem dX7_lead_28 : decode cX7_lead 28 = .ok (.istore 5, 2) := by decide +kernel
theorem dX7_lead_30 : decode cX7_lead 30 = .ok (.aload_n 0, 1) := by decide +kernel
theorem dX7_lead_31 : decode cX7_lead 31 = .ok (.iload 5, 2) := by decide +kernel
theorem dX7_lead_33 : decode cX7_lead 33 = .ok (.iload_n 2, 1) := by decide +kernel
theorem dX7_lead_34 : decode cX7_lead 34 = .ok (.invokevirtual 193, 3) := by decide +kernel
theorem dX7_lead_37 : decode cX7_lead 37 = .ok (.ifCond .eq 28, 3) := by decide +kernel
theorem dX7_lead_40 : decode cX7_lead 40 = .ok (.iload_n 3, 1) := by decide +kernel
theorem dX7_lead_41 : decode cX7_lead 41 = .ok (.ifCond .lt 19, 3) := by decide +kernel
theorem dX7_lead_44 : decode cX7_lead 44 = .ok (.aload_n 0, 1) := by decide +kernel
theorem dX7_lead_45 : decode cX7_lead 45 = .ok (.getfield 67, 3) := by decide +kernel
theorem dX7_lead_48 : decode cX7_lead 48 = .ok (.iload 5, 2) := by decide +kernel
theorem dX7_lead_50 : decode cX7_lead 50 = .ok (.iaload, 1) := by decide +kernel
theorem dX7_lead_51 : decode cX7_lead 51 = .ok (.aload_n 0, 1) := by decide +kernel
theorem dX7_lead_52 : decode cX7_lead 52 = .ok (.getfield 67, 3) := by decide +kernel
theorem dX7_lead_55 : decode cX7_lead 55 = .ok (.iload_n 3, 1) := by decide +kernel
theorem dX7_lead_56 : decode cX7_lead 56 = .ok (.iaload, 1) := by decide +kernel
theorem dX7_lead_57 : decode cX7_lead 57 = .ok (.if_icmp .le 8, 3) := by decide +kernel
theorem dX7_lead_60 : decode cX7_lead 60 = .ok (.iload 5, 2) := by decide +kernel
theorem dX7_lead_62 : decode cX7_lead 62 = .ok (.goto 4, 3) := by decide +kernel
theorem dX7_lead_65 : decode cX7_lead 65 = .ok (.iload_n 3, 1) := by decide +kernel
theorem dX7_lead_66 : decode cX7_lead 66 = .ok (.istore_n 3, 1) := by decide +kernel
theorem dX7_lead_67 : decode cX7_lead 67 = .ok (.iinc 4 1, 3) := by decide +kernel
theorem dX7_lead_70 : decode cX7_lead 70 = .ok (.goto (-64), 3) := by decide +kernel
theorem dX7_lead_73 : decode cX7_lead 73 = .ok (.iload_n 3, 1) := by decide +kernel
theorem dX7_lead_74 : decode cX7_lead 74 = .ok (.ireturn, 1) := by decide +kernel
theorem dX7_lastOf_0 : decode cX7_lastOf 0 = .ok (.iconst 0, 1) := by decide +kernel
theorem dX7_lastOf_1 : decode cX7_lastOf 1 = .ok (.istore_n 1, 1) := by decide +kernel
theorem dX7_lastOf_2 : decode cX7_lastOf 2 = .ok (.bipush (-4), 2) := by decide +kernel
theorem dX7_lastOf_4 : decode cX7_lastOf 4 = .ok (.istore_n 2, 1) := by decide +kernel
theorem dX7_lastOf_5 : decode cX7_lastOf 5 = .ok (.iconst 0, 1) := by decide +kernel
theorem dX7_lastOf_6 : decode cX7_lastOf 6 = .ok (.istore_n 3, 1) := by decide +kernel
theorem dX7_lastOf_7 : decode cX7_lastOf 7 = .ok (.iload_n 3, 1) := by decide +kernel
theorem dX7_lastOf_8 : decode cX7_lastOf 8 = .ok (.iconst 5, 1) := by decide +kernel
theorem dX7_lastOf_9 : decode cX7_lastOf 9 = .ok (.if_icmp .ge 46, 3) := by decide +kernel
theorem dX7_lastOf_12 : decode cX7_lastOf 12 = .ok (.aload_n 0, 1) := by decide +kernel
theorem dX7_lastOf_13 : decode cX7_lastOf 13 = .ok (.getfield 67, 3) := by decide +kernel
theorem dX7_lastOf_16 : decode cX7_lastOf 16 = .ok (.iload_n 3, 1) := by decide +kernel
theorem dX7_lastOf_17 : decode cX7_lastOf 17 = .ok (.iaload, 1) := by decide +kernel
theorem dX7_lastOf_18 : decode cX7_lastOf 18 = .ok (.ifCond .le 31, 3) := by decide +kernel
theorem dX7_lastOf_21 : decode cX7_lastOf 21 = .ok (.iinc 1 1, 3) := by decide +kernel
theorem dX7_lastOf_24 : decode cX7_lastOf 24 = .ok (.iload_n 2, 1) := by decide +kernel
theorem dX7_lastOf_25 : decode cX7_lastOf 25 = .ok (.ifCond .lt 18, 3) := by decide +kernel
theorem dX7_lastOf_28 : decode cX7_lastOf 28 = .ok (.aload_n 0, 1) := by decide +kernel
theorem dX7_lastOf_29 : decode cX7_lastOf 29 = .ok (.getfield 67, 3) := by decide +kernel
theorem dX7_lastOf_32 : decode cX7_lastOf 32 = .ok (.iload_n 3, 1) := by decide +kernel
theorem dX7_lastOf_33 : decode cX7_lastOf 33 = .ok (.iaload, 1) := by decide +kernel
theorem dX7_lastOf_34 : decode cX7_lastOf 34 = .ok (.aload_n 0, 1) := by decide +kernel
theorem dX7_lastOf_35 : decode cX7_lastOf 35 = .ok (.getfield 67, 3) := by decide +kernel
theorem dX7_lastOf_38 : decode cX7_lastOf 38 = .ok (.iload_n 2, 1) := by decide +kernel
theorem dX7_lastOf_39 : decode cX7_lastOf 39 = .ok (.iaload, 1) := by decide +kernel
theorem dX7_lastOf_40 : decode cX7_lastOf 40 = .ok (.if_icmp .ge 7, 3) := by decide +kernel
theorem dX7_lastOf_43 : decode cX7_lastOf 43 = .ok (.iload_n 3, 1) := by decide +kernel
theorem dX7_lastOf_44 : decode cX7_lastOf 44 = .ok (.goto 4, 3) := by decide +kernel
theorem dX7_lastOf_47 : decode cX7_lastOf 47 = .ok (.iload_n 2, 1) := by decide +kernel
theorem dX7_lastOf_48 : decode cX7_lastOf 48 = .ok (.istore_n 2, 1) := by decide +kernel
theorem dX7_lastOf_49 : decode cX7_lastOf 49 = .ok (.iinc 3 1, 3) := by decide +kernel
theorem dX7_lastOf_52 : decode cX7_lastOf 52 = .ok (.goto (-45), 3) := by decide +kernel
theorem dX7_lastOf_55 : decode cX7_lastOf 55 = .ok (.iload_n 1, 1) := by decide +kernel
theorem dX7_lastOf_56 : decode cX7_lastOf 56 = .ok (.iconst 1, 1) := by decide +kernel
theorem dX7_lastOf_57 : decode cX7_lastOf 57 = .ok (.if_icmp .le 7, 3) := by decide +kernel
theorem dX7_lastOf_60 : decode cX7_lastOf 60 = .ok (.iload_n 2, 1) := by decide +kernel
theorem dX7_lastOf_61 : decode cX7_lastOf 61 = .ok (.goto 5, 3) := by decide +kernel
theorem dX7_lastOf_64 : decode cX7_lastOf 64 = .ok (.bipush (-4), 2) := by decide +kernel
theorem dX7_lastOf_66 : decode cX7_lastOf 66 = .ok (.ireturn, 1) := by decide +kernel
theorem dX7_onward_0 : decode cX7_onward 0 = .ok (.aload_n 0, 1) := by decide +kernel
theorem dX7_onward_1 : decode cX7_onward 1 = .ok (.getfield 61, 3) := by decide +kernel
theorem dX7_onward_4 : decode cX7_onward 4 = .ok (.iload_n 1, 1) := by decide +kernel
theorem dX7_onward_5 : decode cX7_onward 5 = .ok (.iaload, 1) := by decide +kernel
theorem dX7_onward_6 : decode cX7_onward 6 = .ok (.istore 4, 2) := by decide +kernel
theorem dX7_onward_8 : decode cX7_onward 8 = .ok (.iload 4, 2) := by decide +kernel
theorem dX7_onward_10 : decode cX7_onward 10 = .ok (.ifCond .ge 10, 3) := by decide +kernel
theorem dX7_onward_13 : decode cX7_onward 13 = .ok (.aload_n 0, 1) := by decide +kernel
theorem dX7_onward_14 : decode cX7_onward 14 = .ok (.iload_n 1, 1) := by decide +kernel
theorem dX7_onward_15 : decode cX7_onward 15 = .ok (.iload_n 2, 1) := by decide +kernel
theorem dX7_onward_16 : decode cX7_onward 16 = .ok (.invokevirtual 196, 3) := by decide +kernel
theorem dX7_onward_19 : decode cX7_onward 19 = .ok (.ireturn, 1) := by decide +kernel
theorem dX7_onward_20 : decode cX7_onward 20 = .ok (.aload_n 0, 1) := by decide +kernel
theorem dX7_onward_21 : decode cX7_onward 21 = .ok (.iload 4, 2) := by decide +kernel
theorem dX7_onward_23 : decode cX7_onward 23 = .ok (.iload_n 2, 1) := by decide +kernel
theorem dX7_onward_24 : decode cX7_onward 24 = .ok (.invokevirtual 193, 3) := by decide +kernel
theorem dX7_onward_27 : decode cX7_onward 27 = .ok (.ifCond .eq 12, 3) := by decide +kernel
theorem dX7_onward_30 : decode cX7_onward 30 = .ok (.iload 4, 2) := by decide +kernel
theorem dX7_onward_32 : decode cX7_onward 32 = .ok (.iload_n 3, 1) := by decide +kernel
theorem dX7_onward_33 : decode cX7_onward 33 = .ok (.if_icmp .eq 6, 3) := by decide +kernel
theorem dX7_onward_36 : decode cX7_onward 36 = .ok (.iload 4, 2) := by decide +kernel
theorem dX7_onward_38 : decode cX7_onward 38 = .ok (.ireturn, 1) := by decide +kernel
theorem dX7_onward_39 : decode cX7_onward 39 = .ok (.aload_n 0, 1) := by decide +kernel
theorem dX7_onward_40 : decode cX7_onward 40 = .ok (.iload_n 1, 1) := by decide +kernel
theorem dX7_onward_41 : decode cX7_onward 41 = .ok (.iload 4, 2) := by decide +kernel
theorem dX7_onward_43 : decode cX7_onward 43 = .ok (.invokevirtual 200, 3) := by decide +kernel
theorem dX7_onward_46 : decode cX7_onward 46 = .ok (.iconst 1, 1) := by decide +kernel
theorem dX7_onward_47 : decode cX7_onward 47 = .ok (.iadd, 1) := by decide +kernel
theorem dX7_onward_48 : decode cX7_onward 48 = .ok (.istore 5, 2) := by decide +kernel
theorem dX7_onward_50 : decode cX7_onward 50 = .ok (.iload 5, 2) := by decide +kernel
theorem dX7_onward_52 : decode cX7_onward 52 = .ok (.aload_n 0, 1) := by decide +kernel
theorem dX7_onward_53 : decode cX7_onward 53 = .ok (.getfield 19, 3) := by decide +kernel
theorem dX7_onward_56 : decode cX7_onward 56 = .ok (.iload_n 1, 1) := by decide +kernel
theorem dX7_onward_57 : decode cX7_onward 57 = .ok (.iaload, 1) := by decide +kernel
theorem dX7_onward_58 : decode cX7_onward 58 = .ok (.if_icmp .ge 40, 3) := by decide +kernel
theorem dX7_onward_61 : decode cX7_onward 61 = .ok (.aload_n 0, 1) := by decide +kernel
theorem dX7_onward_62 : decode cX7_onward 62 = .ok (.aload_n 0, 1) := by decide +kernel
theorem dX7_onward_63 : decode cX7_onward 63 = .ok (.getfield 22, 3) := by decide +kernel
theorem dX7_onward_66 : decode cX7_onward 66 = .ok (.iconst 5, 1) := by decide +kernel
theorem dX7_onward_67 : decode cX7_onward 67 = .ok (.iload_n 1, 1) := by decide +kernel
theorem dX7_onward_68 : decode cX7_onward 68 = .ok (.imul, 1) := by decide +kernel
theorem dX7_onward_69 : decode cX7_onward 69 = .ok (.iload 5, 2) := by decide +kernel
theorem dX7_onward_71 : decode cX7_onward 71 = .ok (.iadd, 1) := by decide +kernel
theorem dX7_onward_72 : decode cX7_onward 72 = .ok (.iaload, 1) := by decide +kernel
theorem dX7_onward_73 : decode cX7_onward 73 = .ok (.iload_n 2, 1) := by decide +kernel
theorem dX7_onward_74 : decode cX7_onward 74 = .ok (.invokevirtual 193, 3) := by decide +kernel
theorem dX7_onward_77 : decode cX7_onward 77 = .ok (.ifCond .eq 15, 3) := by decide +kernel
theorem dX7_onward_80 : decode cX7_onward 80 = .ok (.aload_n 0, 1) := by decide +kernel
theorem dX7_onward_81 : decode cX7_onward 81 = .ok (.getfield 22, 3) := by decide +kernel
theorem dX7_onward_84 : decode cX7_onward 84 = .ok (.iconst 5, 1) := by decide +kernel
theorem dX7_onward_85 : decode cX7_onward 85 = .ok (.iload_n 1, 1) := by decide +kernel
theorem dX7_onward_86 : decode cX7_onward 86 = .ok (.imul, 1) := by decide +kernel
theorem dX7_onward_87 : decode cX7_onward 87 = .ok (.iload 5, 2) := by decide +kernel
theorem dX7_onward_89 : decode cX7_onward 89 = .ok (.iadd, 1) := by decide +kernel
theorem dX7_onward_90 : decode cX7_onward 90 = .ok (.iaload, 1) := by decide +kernel
theorem dX7_onward_91 : decode cX7_onward 91 = .ok (.ireturn, 1) := by decide +kernel
theorem dX7_onward_92 : decode cX7_onward 92 = .ok (.iinc 5 1, 3) := by decide +kernel
theorem dX7_onward_95 : decode cX7_onward 95 = .ok (.goto (-45), 3) := by decide +kernel
theorem dX7_onward_98 : decode cX7_onward 98 = .ok (.aload_n 0, 1) := by decide +kernel
theorem dX7_onward_99 : decode cX7_onward 99 = .ok (.iload 4, 2) := by decide +kernel
theorem dX7_onward_101 : decode cX7_onward 101 = .ok (.iload_n 2, 1) := by decide +kernel
theorem dX7_onward_102 : decode cX7_onward 102 = .ok (.invokevirtual 193, 3) := by decide +kernel
theorem dX7_onward_105 : decode cX7_onward 105 = .ok (.ifCond .eq 8, 3) := by decide +kernel
theorem dX7_onward_108 : decode cX7_onward 108 = .ok (.iload 4, 2) := by decide +kernel
theorem dX7_onward_110 : decode cX7_onward 110 = .ok (.goto 9, 3) := by decide +kernel
theorem dX7_onward_113 : decode cX7_onward 113 = .ok (.aload_n 0, 1) := by decide +kernel
theorem dX7_onward_114 : decode cX7_onward 114 = .ok (.iload_n 1, 1) := by decide +kernel
theorem dX7_onward_115 : decode cX7_onward 115 = .ok (.iload_n 2, 1) := by decide +kernel
theorem dX7_onward_116 : decode cX7_onward 116 = .ok (.invokevirtual 196, 3) := by decide +kernel
theorem dX7_onward_119 : decode cX7_onward 119 = .ok (.ireturn, 1) := by decide +kernel
theorem dX7_leadsByLot_0 : decode cX7_leadsByLot 0 = .ok (.aload_n 0, 1) := by decide +kernel
theorem dX7_leadsByLot_1 : decode cX7_leadsByLot 1 = .ok (.getfield 203, 3) := by decide +kernel
theorem dX7_leadsByLot_4 : decode cX7_leadsByLot 4 = .ok (.ifCond .eq 36, 3) := by decide +kernel
theorem dX7_leadsByLot_7 : decode cX7_leadsByLot 7 = .ok (.aload_n 0, 1) := by decide +kernel
theorem dX7_leadsByLot_8 : decode cX7_leadsByLot 8 = .ok (.getfield 207, 3) := by decide +kernel
theorem dX7_leadsByLot_11 : decode cX7_leadsByLot 11 = .ok (.aload_n 0, 1) := by decide +kernel
theorem dX7_leadsByLot_12 : decode cX7_leadsByLot 12 = .ok (.getfield 210, 3) := by decide +kernel
theorem dX7_leadsByLot_15 : decode cX7_leadsByLot 15 = .ok (.ishr, 1) := by decide +kernel
theorem dX7_leadsByLot_16 : decode cX7_leadsByLot 16 = .ok (.iconst 1, 1) := by decide +kernel
theorem dX7_leadsByLot_17 : decode cX7_leadsByLot 17 = .ok (.iand, 1) := by decide +kernel
theorem dX7_leadsByLot_18 : decode cX7_leadsByLot 18 = .ok (.iconst 1, 1) := by decide +kernel
theorem dX7_leadsByLot_19 : decode cX7_leadsByLot 19 = .ok (.if_icmp .ne 7, 3) := by decide +kernel
theorem dX7_leadsByLot_22 : decode cX7_leadsByLot 22 = .ok (.iconst 1, 1) := by decide +kernel
theorem dX7_leadsByLot_23 : decode cX7_leadsByLot 23 = .ok (.goto 4, 3) := by decide +kernel
theorem dX7_leadsByLot_26 : decode cX7_leadsByLot 26 = .ok (.iconst 0, 1) := by decide +kernel
theorem dX7_leadsByLot_27 : decode cX7_leadsByLot 27 = .ok (.istore_n 2, 1) := by decide +kernel
theorem dX7_leadsByLot_28 : decode cX7_leadsByLot 28 = .ok (.aload_n 0, 1) := by decide +kernel
theorem dX7_leadsByLot_29 : decode cX7_leadsByLot 29 = .ok (.dup, 1) := by decide +kernel
theorem dX7_leadsByLot_30 : decode cX7_leadsByLot 30 = .ok (.getfield 210, 3) := by decide +kernel
theorem dX7_leadsByLot_33 : decode cX7_leadsByLot 33 = .ok (.iconst 1, 1) := by decide +kernel
theorem dX7_leadsByLot_34 : decode cX7_leadsByLot 34 = .ok (.iadd, 1) := by decide +kernel
theorem dX7_leadsByLot_35 : decode cX7_leadsByLot 35 = .ok (.putfield 210, 3) := by decide +kernel
theorem dX7_leadsByLot_38 : decode cX7_leadsByLot 38 = .ok (.iload_n 2, 1) := by decide +kernel
theorem dX7_leadsByLot_39 : decode cX7_leadsByLot 39 = .ok (.ireturn, 1) := by decide +kernel
theorem dX7_leadsByLot_40 : decode cX7_leadsByLot 40 = .ok (.aload_n 0, 1) := by decide +kernel
theorem dX7_leadsByLot_41 : decode cX7_leadsByLot 41 = .ok (.getfield 34, 3) := by decide +kernel
theorem dX7_leadsByLot_44 : decode cX7_leadsByLot 44 = .ok (.aload_n 0, 1) := by decide +kernel
theorem dX7_leadsByLot_45 : decode cX7_leadsByLot 45 = .ok (.getfield 213, 3) := by decide +kernel
theorem dX7_leadsByLot_48 : decode cX7_leadsByLot 48 = .ok (.bipush 16, 2) := by decide +kernel
theorem dX7_leadsByLot_50 : decode cX7_leadsByLot 50 = .ok (.irem, 1) := by decide +kernel
theorem dX7_leadsByLot_51 : decode cX7_leadsByLot 51 = .ok (.iaload, 1) := by decide +kernel
theorem dX7_leadsByLot_52 : decode cX7_leadsByLot 52 = .ok (.istore_n 2, 1) := by decide +kernel
theorem dX7_leadsByLot_53 : decode cX7_leadsByLot 53 = .ok (.aload_n 0, 1) := by decide +kernel
theorem dX7_leadsByLot_54 : decode cX7_leadsByLot 54 = .ok (.dup, 1) := by decide +kernel
theorem dX7_leadsByLot_55 : decode cX7_leadsByLot 55 = .ok (.getfield 213, 3) := by decide +kernel
theorem dX7_leadsByLot_58 : decode cX7_leadsByLot 58 = .ok (.iconst 1, 1) := by decide +kernel
theorem dX7_leadsByLot_59 : decode cX7_leadsByLot 59 = .ok (.iadd, 1) := by decide +kernel
theorem dX7_leadsByLot_60 : decode cX7_leadsByLot 60 = .ok (.putfield 213, 3) := by decide +kernel
theorem dX7_leadsByLot_63 : decode cX7_leadsByLot 63 = .ok (.iload_n 2, 1) := by decide +kernel
theorem dX7_leadsByLot_64 : decode cX7_leadsByLot 64 = .ok (.aload_n 0, 1) := by decide +kernel
theorem dX7_leadsByLot_65 : decode cX7_leadsByLot 65 = .ok (.getfield 16, 3) := by decide +kernel
theorem dX7_leadsByLot_68 : decode cX7_leadsByLot 68 = .ok (.iload_n 1, 1) := by decide +kernel
theorem dX7_leadsByLot_69 : decode cX7_leadsByLot 69 = .ok (.iaload, 1) := by decide +kernel
theorem dX7_leadsByLot_70 : decode cX7_leadsByLot 70 = .ok (.if_icmp .ge 7, 3) := by decide +kernel
theorem dX7_leadsByLot_73 : decode cX7_leadsByLot 73 = .ok (.iconst 1, 1) := by decide +kernel
theorem dX7_leadsByLot_74 : decode cX7_leadsByLot 74 = .ok (.goto 4, 3) := by decide +kernel
theorem dX7_leadsByLot_77 : decode cX7_leadsByLot 77 = .ok (.iconst 0, 1) := by decide +kernel
theorem dX7_leadsByLot_78 : decode cX7_leadsByLot 78 = .ok (.ireturn, 1) := by decide +kernel
theorem dX7_writes_0 : decode cX7_writes 0 = .ok (.iload_n 1, 1) := by decide +kernel
theorem dX7_writes_1 : decode cX7_writes 1 = .ok (.aload_n 0, 1) := by decide +kernel
theorem dX7_writes_2 : decode cX7_writes 2 = .ok (.getfield 70, 3) := by decide +kernel
theorem dX7_writes_5 : decode cX7_writes 5 = .ok (.if_icmp .ne 14, 3) := by decide +kernel
theorem dX7_writes_8 : decode cX7_writes 8 = .ok (.iload_n 2, 1) := by decide +kernel
theorem dX7_writes_9 : decode cX7_writes 9 = .ok (.aload_n 0, 1) := by decide +kernel
theorem dX7_writes_10 : decode cX7_writes 10 = .ok (.getfield 216, 3) := by decide +kernel
theorem dX7_writes_13 : decode cX7_writes 13 = .ok (.if_icmp .ge 6, 3) := by decide +kernel
theorem dX7_writes_16 : decode cX7_writes 16 = .ok (.bipush (-4), 2) := by decide +kernel
theorem dX7_writes_18 : decode cX7_writes 18 = .ok (.ireturn, 1) := by decide +kernel
theorem dX7_writes_19 : decode cX7_writes 19 = .ok (.iload_n 3, 1) := by decide +kernel
theorem dX7_writes_20 : decode cX7_writes 20 = .ok (.ifCond .ne 19, 3) := by decide +kernel
theorem dX7_writes_23 : decode cX7_writes 23 = .ok (.iload_n 1, 1) := by decide +kernel
theorem dX7_writes_24 : decode cX7_writes 24 = .ok (.aload_n 0, 1) := by decide +kernel
theorem dX7_writes_25 : decode cX7_writes 25 = .ok (.getfield 70, 3) := by decide +kernel
theorem dX7_writes_28 : decode cX7_writes 28 = .ok (.if_icmp .ne 18, 3) := by decide +kernel
theorem dX7_writes_31 : decode cX7_writes 31 = .ok (.iload_n 2, 1) := by decide +kernel
theorem dX7_writes_32 : decode cX7_writes 32 = .ok (.aload_n 0, 1) := by decide +kernel
theorem dX7_writes_33 : decode cX7_writes 33 = .ok (.getfield 216, 3) := by decide +kernel
theorem dX7_writes_36 : decode cX7_writes 36 = .ok (.if_icmp .ne 10, 3) := by decide +kernel
theorem dX7_writes_39 : decode cX7_writes 39 = .ok (.aload_n 0, 1) := by decide +kernel
theorem dX7_writes_40 : decode cX7_writes 40 = .ok (.iload_n 1, 1) := by decide +kernel
theorem dX7_writes_41 : decode cX7_writes 41 = .ok (.iload_n 2, 1) := by decide +kernel
theorem dX7_writes_42 : decode cX7_writes 42 = .ok (.invokevirtual 196, 3) := by decide +kernel
theorem dX7_writes_45 : decode cX7_writes 45 = .ok (.ireturn, 1) := by decide +kernel
theorem dX7_writes_46 : decode cX7_writes 46 = .ok (.aload_n 0, 1) := by decide +kernel
theorem dX7_writes_47 : decode cX7_writes 47 = .ok (.getfield 13, 3) := by decide +kernel
theorem dX7_writes_50 : decode cX7_writes 50 = .ok (.iload_n 1, 1) := by decide +kernel
theorem dX7_writes_51 : decode cX7_writes 51 = .ok (.iaload, 1) := by decide +kernel
theorem dX7_writes_52 : decode cX7_writes 52 = .ok (.tableswitch 122 1 4 #[32, 41, 48, 98], 32) := by decide +kernel
theorem dX7_writes_84 : decode cX7_writes 84 = .ok (.aload_n 0, 1) := by decide +kernel
theorem dX7_writes_85 : decode cX7_writes 85 = .ok (.iload_n 1, 1) := by decide +kernel
theorem dX7_writes_86 : decode cX7_writes 86 = .ok (.iload_n 2, 1) := by decide +kernel
theorem dX7_writes_87 : decode cX7_writes 87 = .ok (.iload 4, 2) := by decide +kernel
theorem dX7_writes_89 : decode cX7_writes 89 = .ok (.invokevirtual 219, 3) := by decide +kernel
theorem dX7_writes_92 : decode cX7_writes 92 = .ok (.ireturn, 1) := by decide +kernel
theorem dX7_writes_93 : decode cX7_writes 93 = .ok (.aload_n 0, 1) := by decide +kernel
theorem dX7_writes_94 : decode cX7_writes 94 = .ok (.iload_n 1, 1) := by decide +kernel
theorem dX7_writes_95 : decode cX7_writes 95 = .ok (.iload_n 2, 1) := by decide +kernel
theorem dX7_writes_96 : decode cX7_writes 96 = .ok (.invokevirtual 223, 3) := by decide +kernel
theorem dX7_writes_99 : decode cX7_writes 99 = .ok (.ireturn, 1) := by decide +kernel
theorem dX7_writes_100 : decode cX7_writes 100 = .ok (.aload_n 0, 1) := by decide +kernel
theorem dX7_writes_101 : decode cX7_writes 101 = .ok (.getfield 61, 3) := by decide +kernel
theorem dX7_writes_104 : decode cX7_writes 104 = .ok (.aload_n 0, 1) := by decide +kernel
theorem dX7_writes_105 : decode cX7_writes 105 = .ok (.getfield 16, 3) := by decide +kernel
theorem dX7_writes_108 : decode cX7_writes 108 = .ok (.iload_n 1, 1) := by decide +kernel
theorem dX7_writes_109 : decode cX7_writes 109 = .ok (.iaload, 1) := by decide +kernel
theorem dX7_writes_110 : decode cX7_writes 110 = .ok (.iaload, 1) := by decide +kernel
theorem dX7_writes_111 : decode cX7_writes 111 = .ok (.istore 5, 2) := by decide +kernel
theorem dX7_writes_113 : decode cX7_writes 113 = .ok (.iload 5, 2) := by decide +kernel
theorem dX7_writes_115 : decode cX7_writes 115 = .ok (.ifCond .lt 28, 3) := by decide +kernel
theorem dX7_writes_118 : decode cX7_writes 118 = .ok (.aload_n 0, 1) := by decide +kernel
theorem dX7_writes_119 : decode cX7_writes 119 = .ok (.iload 5, 2) := by decide +kernel
theorem dX7_writes_121 : decode cX7_writes 121 = .ok (.iload_n 2, 1) := by decide +kernel
theorem dX7_writes_122 : decode cX7_writes 122 = .ok (.invokevirtual 193, 3) := by decide +kernel
theorem dX7_writes_125 : decode cX7_writes 125 = .ok (.ifCond .eq 18, 3) := by decide +kernel
theorem dX7_writes_128 : decode cX7_writes 128 = .ok (.aload_n 0, 1) := by decide +kernel
theorem dX7_writes_129 : decode cX7_writes 129 = .ok (.iload_n 1, 1) := by decide +kernel
theorem dX7_writes_130 : decode cX7_writes 130 = .ok (.iload 5, 2) := by decide +kernel
theorem dX7_writes_132 : decode cX7_writes 132 = .ok (.invokevirtual 200, 3) := by decide +kernel
theorem dX7_writes_135 : decode cX7_writes 135 = .ok (.ifCond .lt 8, 3) := by decide +kernel
theorem dX7_writes_138 : decode cX7_writes 138 = .ok (.iload 5, 2) := by decide +kernel
theorem dX7_writes_140 : decode cX7_writes 140 = .ok (.goto 9, 3) := by decide +kernel
theorem dX7_writes_143 : decode cX7_writes 143 = .ok (.aload_n 0, 1) := by decide +kernel
theorem dX7_writes_144 : decode cX7_writes 144 = .ok (.iload_n 1, 1) := by decide +kernel
theorem dX7_writes_145 : decode cX7_writes 145 = .ok (.iload_n 2, 1) := by decide +kernel
theorem dX7_writes_146 : decode cX7_writes 146 = .ok (.invokevirtual 196, 3) := by decide +kernel
theorem dX7_writes_149 : decode cX7_writes 149 = .ok (.ireturn, 1) := by decide +kernel
theorem dX7_writes_150 : decode cX7_writes 150 = .ok (.aload_n 0, 1) := by decide +kernel
theorem dX7_writes_151 : decode cX7_writes 151 = .ok (.iload_n 1, 1) := by decide +kernel
theorem dX7_writes_152 : decode cX7_writes 152 = .ok (.invokevirtual 226, 3) := by decide +kernel

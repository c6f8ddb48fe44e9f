theorem dX0_byLead_34 : decode cX0_byLead 34 = .ok (.iaload, 1) := by decide +kernel
theorem dX0_byLead_35 : decode cX0_byLead 35 = .ok (.istore 8, 2) := by decide +kernel
theorem dX0_byLead_37 : decode cX0_byLead 37 = .ok (.iload_n 3, 1) := by decide +kernel
theorem dX0_byLead_38 : decode cX0_byLead 38 = .ok (.iload 8, 2) := by decide +kernel
theorem dX0_byLead_40 : decode cX0_byLead 40 = .ok (.ishr, 1) := by decide +kernel
theorem dX0_byLead_41 : decode cX0_byLead 41 = .ok (.iconst 1, 1) := by decide +kernel
theorem dX0_byLead_42 : decode cX0_byLead 42 = .ok (.iand, 1) := by decide +kernel
theorem dX0_byLead_43 : decode cX0_byLead 43 = .ok (.iconst 1, 1) := by decide +kernel
theorem dX0_byLead_44 : decode cX0_byLead 44 = .ok (.if_icmp .ne 28, 3) := by decide +kernel
theorem dX0_byLead_47 : decode cX0_byLead 47 = .ok (.aload_n 0, 1) := by decide +kernel
theorem dX0_byLead_48 : decode cX0_byLead 48 = .ok (.getfield 34, 3) := by decide +kernel
theorem dX0_byLead_51 : decode cX0_byLead 51 = .ok (.iload 8, 2) := by decide +kernel
theorem dX0_byLead_53 : decode cX0_byLead 53 = .ok (.iaload, 1) := by decide +kernel
theorem dX0_byLead_54 : decode cX0_byLead 54 = .ok (.iload 5, 2) := by decide +kernel
theorem dX0_byLead_56 : decode cX0_byLead 56 = .ok (.if_icmp .le 16, 3) := by decide +kernel
theorem dX0_byLead_59 : decode cX0_byLead 59 = .ok (.iload 8, 2) := by decide +kernel
theorem dX0_byLead_61 : decode cX0_byLead 61 = .ok (.istore 4, 2) := by decide +kernel
theorem dX0_byLead_63 : decode cX0_byLead 63 = .ok (.aload_n 0, 1) := by decide +kernel
theorem dX0_byLead_64 : decode cX0_byLead 64 = .ok (.getfield 34, 3) := by decide +kernel
theorem dX0_byLead_67 : decode cX0_byLead 67 = .ok (.iload 8, 2) := by decide +kernel
theorem dX0_byLead_69 : decode cX0_byLead 69 = .ok (.iaload, 1) := by decide +kernel
theorem dX0_byLead_70 : decode cX0_byLead 70 = .ok (.istore 5, 2) := by decide +kernel
theorem dX0_byLead_72 : decode cX0_byLead 72 = .ok (.iinc 7 1, 3) := by decide +kernel
theorem dX0_byLead_75 : decode cX0_byLead 75 = .ok (.goto (-61), 3) := by decide +kernel
theorem dX0_byLead_78 : decode cX0_byLead 78 = .ok (.iload 4, 2) := by decide +kernel
theorem dX0_byLead_80 : decode cX0_byLead 80 = .ok (.ireturn, 1) := by decide +kernel
theorem dX0_lastName_0 : decode cX0_lastName 0 = .ok (.iconst (-1), 1) := by decide +kernel
theorem dX0_lastName_1 : decode cX0_lastName 1 = .ok (.istore_n 1, 1) := by decide +kernel
theorem dX0_lastName_2 : decode cX0_lastName 2 = .ok (.iconst 0, 1) := by decide +kernel
theorem dX0_lastName_3 : decode cX0_lastName 3 = .ok (.istore_n 2, 1) := by decide +kernel
theorem dX0_lastName_4 : decode cX0_lastName 4 = .ok (.iconst 0, 1) := by decide +kernel
theorem dX0_lastName_5 : decode cX0_lastName 5 = .ok (.istore_n 3, 1) := by decide +kernel
theorem dX0_lastName_6 : decode cX0_lastName 6 = .ok (.iload_n 3, 1) := by decide +kernel
theorem dX0_lastName_7 : decode cX0_lastName 7 = .ok (.iconst 5, 1) := by decide +kernel
theorem dX0_lastName_8 : decode cX0_lastName 8 = .ok (.if_icmp .ge 43, 3) := by decide +kernel
theorem dX0_lastName_11 : decode cX0_lastName 11 = .ok (.aload_n 0, 1) := by decide +kernel
theorem dX0_lastName_12 : decode cX0_lastName 12 = .ok (.getfield 34, 3) := by decide +kernel
theorem dX0_lastName_15 : decode cX0_lastName 15 = .ok (.iload_n 3, 1) := by decide +kernel
theorem dX0_lastName_16 : decode cX0_lastName 16 = .ok (.iaload, 1) := by decide +kernel
theorem dX0_lastName_17 : decode cX0_lastName 17 = .ok (.ifCond .le 28, 3) := by decide +kernel
theorem dX0_lastName_20 : decode cX0_lastName 20 = .ok (.iinc 2 1, 3) := by decide +kernel
theorem dX0_lastName_23 : decode cX0_lastName 23 = .ok (.iload_n 1, 1) := by decide +kernel
theorem dX0_lastName_24 : decode cX0_lastName 24 = .ok (.iconst (-1), 1) := by decide +kernel
theorem dX0_lastName_25 : decode cX0_lastName 25 = .ok (.if_icmp .eq 18, 3) := by decide +kernel
theorem dX0_lastName_28 : decode cX0_lastName 28 = .ok (.aload_n 0, 1) := by decide +kernel
theorem dX0_lastName_29 : decode cX0_lastName 29 = .ok (.getfield 34, 3) := by decide +kernel
theorem dX0_lastName_32 : decode cX0_lastName 32 = .ok (.iload_n 3, 1) := by decide +kernel
theorem dX0_lastName_33 : decode cX0_lastName 33 = .ok (.iaload, 1) := by decide +kernel
theorem dX0_lastName_34 : decode cX0_lastName 34 = .ok (.aload_n 0, 1) := by decide +kernel
theorem dX0_lastName_35 : decode cX0_lastName 35 = .ok (.getfield 34, 3) := by decide +kernel
theorem dX0_lastName_38 : decode cX0_lastName 38 = .ok (.iload_n 1, 1) := by decide +kernel
theorem dX0_lastName_39 : decode cX0_lastName 39 = .ok (.iaload, 1) := by decide +kernel
theorem dX0_lastName_40 : decode cX0_lastName 40 = .ok (.if_icmp .ge 5, 3) := by decide +kernel
theorem dX0_lastName_43 : decode cX0_lastName 43 = .ok (.iload_n 3, 1) := by decide +kernel
theorem dX0_lastName_44 : decode cX0_lastName 44 = .ok (.istore_n 1, 1) := by decide +kernel
theorem dX0_lastName_45 : decode cX0_lastName 45 = .ok (.iinc 3 1, 3) := by decide +kernel
theorem dX0_lastName_48 : decode cX0_lastName 48 = .ok (.goto (-42), 3) := by decide +kernel
theorem dX0_lastName_51 : decode cX0_lastName 51 = .ok (.iload_n 2, 1) := by decide +kernel
theorem dX0_lastName_52 : decode cX0_lastName 52 = .ok (.iconst 1, 1) := by decide +kernel
theorem dX0_lastName_53 : decode cX0_lastName 53 = .ok (.if_icmp .le 7, 3) := by decide +kernel
theorem dX0_lastName_56 : decode cX0_lastName 56 = .ok (.iload_n 1, 1) := by decide +kernel
theorem dX0_lastName_57 : decode cX0_lastName 57 = .ok (.goto 4, 3) := by decide +kernel
theorem dX0_lastName_60 : decode cX0_lastName 60 = .ok (.iconst (-1), 1) := by decide +kernel
theorem dX0_lastName_61 : decode cX0_lastName 61 = .ok (.ireturn, 1) := by decide +kernel
theorem dX0_tally_0 : decode cX0_tally 0 = .ok (.aload_n 0, 1) := by decide +kernel
theorem dX0_tally_1 : decode cX0_tally 1 = .ok (.getfield 34, 3) := by decide +kernel
theorem dX0_tally_4 : decode cX0_tally 4 = .ok (.iconst 0, 1) := by decide +kernel
theorem dX0_tally_5 : decode cX0_tally 5 = .ok (.invokestatic 37, 3) := by decide +kernel
theorem dX0_tally_8 : decode cX0_tally 8 = .ok (.iconst 0, 1) := by decide +kernel
theorem dX0_tally_9 : decode cX0_tally 9 = .ok (.istore_n 2, 1) := by decide +kernel
theorem dX0_tally_10 : decode cX0_tally 10 = .ok (.iload_n 2, 1) := by decide +kernel
theorem dX0_tally_11 : decode cX0_tally 11 = .ok (.aload_n 1, 1) := by decide +kernel
theorem dX0_tally_12 : decode cX0_tally 12 = .ok (.getfield 78, 3) := by decide +kernel
theorem dX0_tally_15 : decode cX0_tally 15 = .ok (.if_icmp .ge 41, 3) := by decide +kernel
theorem dX0_tally_18 : decode cX0_tally 18 = .ok (.aload_n 0, 1) := by decide +kernel
theorem dX0_tally_19 : decode cX0_tally 19 = .ok (.getfield 27, 3) := by decide +kernel
theorem dX0_tally_22 : decode cX0_tally 22 = .ok (.iload_n 2, 1) := by decide +kernel
theorem dX0_tally_23 : decode cX0_tally 23 = .ok (.iaload, 1) := by decide +kernel
theorem dX0_tally_24 : decode cX0_tally 24 = .ok (.invokestatic 126, 3) := by decide +kernel
theorem dX0_tally_27 : decode cX0_tally 27 = .ok (.ifCond .eq 23, 3) := by decide +kernel
theorem dX0_tally_30 : decode cX0_tally 30 = .ok (.aload_n 0, 1) := by decide +kernel
theorem dX0_tally_31 : decode cX0_tally 31 = .ok (.getfield 34, 3) := by decide +kernel
theorem dX0_tally_34 : decode cX0_tally 34 = .ok (.aload_n 0, 1) := by decide +kernel
theorem dX0_tally_35 : decode cX0_tally 35 = .ok (.getfield 27, 3) := by decide +kernel
theorem dX0_tally_38 : decode cX0_tally 38 = .ok (.iload_n 2, 1) := by decide +kernel
theorem dX0_tally_39 : decode cX0_tally 39 = .ok (.iaload, 1) := by decide +kernel
theorem dX0_tally_40 : decode cX0_tally 40 = .ok (.dup2, 1) := by decide +kernel
theorem dX0_tally_41 : decode cX0_tally 41 = .ok (.iaload, 1) := by decide +kernel
theorem dX0_tally_42 : decode cX0_tally 42 = .ok (.aload_n 1, 1) := by decide +kernel
theorem dX0_tally_43 : decode cX0_tally 43 = .ok (.getfield 139, 3) := by decide +kernel
theorem dX0_tally_46 : decode cX0_tally 46 = .ok (.iload_n 2, 1) := by decide +kernel
theorem dX0_tally_47 : decode cX0_tally 47 = .ok (.iaload, 1) := by decide +kernel
theorem dX0_tally_48 : decode cX0_tally 48 = .ok (.iadd, 1) := by decide +kernel
theorem dX0_tally_49 : decode cX0_tally 49 = .ok (.iastore, 1) := by decide +kernel
theorem dX0_tally_50 : decode cX0_tally 50 = .ok (.iinc 2 1, 3) := by decide +kernel
theorem dX0_tally_53 : decode cX0_tally 53 = .ok (.goto (-43), 3) := by decide +kernel
theorem dX0_tally_56 : decode cX0_tally 56 = .ok (.return_, 1) := by decide +kernel
theorem dX0_winner_0 : decode cX0_winner 0 = .ok (.iconst 0, 1) := by decide +kernel
theorem dX0_winner_1 : decode cX0_winner 1 = .ok (.istore_n 3, 1) := by decide +kernel
theorem dX0_winner_2 : decode cX0_winner 2 = .ok (.iconst 1, 1) := by decide +kernel
theorem dX0_winner_3 : decode cX0_winner 3 = .ok (.istore 4, 2) := by decide +kernel
theorem dX0_winner_5 : decode cX0_winner 5 = .ok (.iload 4, 2) := by decide +kernel
theorem dX0_winner_7 : decode cX0_winner 7 = .ok (.iconst 5, 1) := by decide +kernel
theorem dX0_winner_8 : decode cX0_winner 8 = .ok (.if_icmp .ge 28, 3) := by decide +kernel
theorem dX0_winner_11 : decode cX0_winner 11 = .ok (.aload_n 0, 1) := by decide +kernel
theorem dX0_winner_12 : decode cX0_winner 12 = .ok (.getfield 34, 3) := by decide +kernel
theorem dX0_winner_15 : decode cX0_winner 15 = .ok (.iload 4, 2) := by decide +kernel
theorem dX0_winner_17 : decode cX0_winner 17 = .ok (.iaload, 1) := by decide +kernel
theorem dX0_winner_18 : decode cX0_winner 18 = .ok (.aload_n 0, 1) := by decide +kernel
theorem dX0_winner_19 : decode cX0_winner 19 = .ok (.getfield 34, 3) := by decide +kernel
theorem dX0_winner_22 : decode cX0_winner 22 = .ok (.iload_n 3, 1) := by decide +kernel
theorem dX0_winner_23 : decode cX0_winner 23 = .ok (.iaload, 1) := by decide +kernel
theorem dX0_winner_24 : decode cX0_winner 24 = .ok (.if_icmp .le 6, 3) := by decide +kernel
theorem dX0_winner_27 : decode cX0_winner 27 = .ok (.iload 4, 2) := by decide +kernel
theorem dX0_winner_29 : decode cX0_winner 29 = .ok (.istore_n 3, 1) := by decide +kernel
theorem dX0_winner_30 : decode cX0_winner 30 = .ok (.iinc 4 1, 3) := by decide +kernel
theorem dX0_winner_33 : decode cX0_winner 33 = .ok (.goto (-28), 3) := by decide +kernel
theorem dX0_winner_36 : decode cX0_winner 36 = .ok (.aload_n 0, 1) := by decide +kernel
theorem dX0_winner_37 : decode cX0_winner 37 = .ok (.getfield 34, 3) := by decide +kernel
theorem dX0_winner_40 : decode cX0_winner 40 = .ok (.iload_n 3, 1) := by decide +kernel
theorem dX0_winner_41 : decode cX0_winner 41 = .ok (.iaload, 1) := by decide +kernel
theorem dX0_winner_42 : decode cX0_winner 42 = .ok (.aload_n 1, 1) := by decide +kernel
theorem dX0_winner_43 : decode cX0_winner 43 = .ok (.iload_n 2, 1) := by decide +kernel
theorem dX0_winner_44 : decode cX0_winner 44 = .ok (.iconst 4, 1) := by decide +kernel
theorem dX0_winner_45 : decode cX0_winner 45 = .ok (.idiv, 1) := by decide +kernel
theorem dX0_winner_46 : decode cX0_winner 46 = .ok (.invokevirtual 142, 3) := by decide +kernel
theorem dX0_winner_49 : decode cX0_winner 49 = .ok (.if_icmp .lt 7, 3) := by decide +kernel
theorem dX0_winner_52 : decode cX0_winner 52 = .ok (.iload_n 3, 1) := by decide +kernel
theorem dX0_winner_53 : decode cX0_winner 53 = .ok (.goto 4, 3) := by decide +kernel
theorem dX0_winner_56 : decode cX0_winner 56 = .ok (.iconst (-1), 1) := by decide +kernel
theorem dX0_winner_57 : decode cX0_winner 57 = .ok (.ireturn, 1) := by decide +kernel
theorem dX0_state_0 : decode cX0_state 0 = .ok (.iconst 0, 1) := by decide +kernel
theorem dX0_state_1 : decode cX0_state 1 = .ok (.istore_n 1, 1) := by decide +kernel
theorem dX0_state_2 : decode cX0_state 2 = .ok (.iconst 5, 1) := by decide +kernel
theorem dX0_state_3 : decode cX0_state 3 = .ok (.istore_n 2, 1) := by decide +kernel
theorem dX0_state_4 : decode cX0_state 4 = .ok (.iload_n 2, 1) := by decide +kernel
theorem dX0_state_5 : decode cX0_state 5 = .ok (.ifCond .lt 23, 3) := by decide +kernel
theorem dX0_state_8 : decode cX0_state 8 = .ok (.iload_n 1, 1) := by decide +kernel
theorem dX0_state_9 : decode cX0_state 9 = .ok (.bipush 6, 2) := by decide +kernel
theorem dX0_state_11 : decode cX0_state 11 = .ok (.imul, 1) := by decide +kernel
theorem dX0_state_12 : decode cX0_state 12 = .ok (.aload_n 0, 1) := by decide +kernel
theorem dX0_state_13 : decode cX0_state 13 = .ok (.getfield 27, 3) := by decide +kernel
theorem dX0_state_16 : decode cX0_state 16 = .ok (.iload_n 2, 1) := by decide +kernel
theorem dX0_state_17 : decode cX0_state 17 = .ok (.iaload, 1) := by decide +kernel
theorem dX0_state_18 : decode cX0_state 18 = .ok (.iadd, 1) := by decide +kernel
theorem dX0_state_19 : decode cX0_state 19 = .ok (.iconst 1, 1) := by decide +kernel
theorem dX0_state_20 : decode cX0_state 20 = .ok (.iadd, 1) := by decide +kernel
theorem dX0_state_21 : decode cX0_state 21 = .ok (.istore_n 1, 1) := by decide +kernel
theorem dX0_state_22 : decode cX0_state 22 = .ok (.iinc 2 (-1), 3) := by decide +kernel
theorem dX0_state_25 : decode cX0_state 25 = .ok (.goto (-21), 3) := by decide +kernel
theorem dX0_state_28 : decode cX0_state 28 = .ok (.iload_n 1, 1) := by decide +kernel
theorem dX0_state_29 : decode cX0_state 29 = .ok (.ireturn, 1) := by decide +kernel
theorem dX0_takeState_0 : decode cX0_takeState 0 = .ok (.aload_n 0, 1) := by decide +kernel
theorem dX0_takeState_1 : decode cX0_takeState 1 = .ok (.iconst (-1), 1) := by decide +kernel
theorem dX0_takeState_2 : decode cX0_takeState 2 = .ok (.putfield 21, 3) := by decide +kernel
theorem dX0_takeState_5 : decode cX0_takeState 5 = .ok (.aload_n 0, 1) := by decide +kernel
theorem dX0_takeState_6 : decode cX0_takeState 6 = .ok (.iconst 0, 1) := by decide +kernel
theorem dX0_takeState_7 : decode cX0_takeState 7 = .ok (.putfield 24, 3) := by decide +kernel
theorem dX0_takeState_10 : decode cX0_takeState 10 = .ok (.iload_n 2, 1) := by decide +kernel
theorem dX0_takeState_11 : decode cX0_takeState 11 = .ok (.istore_n 3, 1) := by decide +kernel
theorem dX0_takeState_12 : decode cX0_takeState 12 = .ok (.iconst 0, 1) := by decide +kernel
theorem dX0_takeState_13 : decode cX0_takeState 13 = .ok (.istore 4, 2) := by decide +kernel
theorem dX0_takeState_15 : decode cX0_takeState 15 = .ok (.iload 4, 2) := by decide +kernel
theorem dX0_takeState_17 : decode cX0_takeState 17 = .ok (.bipush 6, 2) := by decide +kernel
theorem dX0_takeState_19 : decode cX0_takeState 19 = .ok (.if_icmp .ge 27, 3) := by decide +kernel
theorem dX0_takeState_22 : decode cX0_takeState 22 = .ok (.aload_n 0, 1) := by decide +kernel
theorem dX0_takeState_23 : decode cX0_takeState 23 = .ok (.getfield 27, 3) := by decide +kernel
theorem dX0_takeState_26 : decode cX0_takeState 26 = .ok (.iload 4, 2) := by decide +kernel
theorem dX0_takeState_28 : decode cX0_takeState 28 = .ok (.iload_n 3, 1) := by decide +kernel
theorem dX0_takeState_29 : decode cX0_takeState 29 = .ok (.bipush 6, 2) := by decide +kernel
theorem dX0_takeState_31 : decode cX0_takeState 31 = .ok (.irem, 1) := by decide +kernel
theorem dX0_takeState_32 : decode cX0_takeState 32 = .ok (.iconst 1, 1) := by decide +kernel
theorem dX0_takeState_33 : decode cX0_takeState 33 = .ok (.isub, 1) := by decide +kernel
theorem dX0_takeState_34 : decode cX0_takeState 34 = .ok (.iastore, 1) := by decide +kernel
theorem dX0_takeState_35 : decode cX0_takeState 35 = .ok (.iload_n 3, 1) := by decide +kernel
theorem dX0_takeState_36 : decode cX0_takeState 36 = .ok (.bipush 6, 2) := by decide +kernel
theorem dX0_takeState_38 : decode cX0_takeState 38 = .ok (.idiv, 1) := by decide +kernel
theorem dX0_takeState_39 : decode cX0_takeState 39 = .ok (.istore_n 3, 1) := by decide +kernel
theorem dX0_takeState_40 : decode cX0_takeState 40 = .ok (.iinc 4 1, 3) := by decide +kernel
theorem dX0_takeState_43 : decode cX0_takeState 43 = .ok (.goto (-28), 3) := by decide +kernel
theorem dX0_takeState_46 : decode cX0_takeState 46 = .ok (.aload_n 0, 1) := by decide +kernel
theorem dX0_takeState_47 : decode cX0_takeState 47 = .ok (.aload_n 1, 1) := by decide +kernel
theorem dX0_takeState_48 : decode cX0_takeState 48 = .ok (.invokevirtual 111, 3) := by decide +kernel
theorem dX0_takeState_51 : decode cX0_takeState 51 = .ok (.return_, 1) := by decide +kernel

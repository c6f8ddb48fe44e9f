theorem dX6_sheet_15 : decode cX6_sheet 15 = .ok (.bipush 24, 2) := by decide +kernel
theorem dX6_sheet_17 : decode cX6_sheet 17 = .ok (.if_icmp .le 5, 3) := by decide +kernel
theorem dX6_sheet_20 : decode cX6_sheet 20 = .ok (.iconst (-1), 1) := by decide +kernel
theorem dX6_sheet_21 : decode cX6_sheet 21 = .ok (.ireturn, 1) := by decide +kernel
theorem dX6_sheet_22 : decode cX6_sheet 22 = .ok (.iload_n 3, 1) := by decide +kernel
theorem dX6_sheet_23 : decode cX6_sheet 23 = .ok (.ifCond .ge 6, 3) := by decide +kernel
theorem dX6_sheet_26 : decode cX6_sheet 26 = .ok (.bipush (-14), 2) := by decide +kernel
theorem dX6_sheet_28 : decode cX6_sheet 28 = .ok (.ireturn, 1) := by decide +kernel
theorem dX6_sheet_29 : decode cX6_sheet 29 = .ok (.aload_n 0, 1) := by decide +kernel
theorem dX6_sheet_30 : decode cX6_sheet 30 = .ok (.getfield 56, 3) := by decide +kernel
theorem dX6_sheet_33 : decode cX6_sheet 33 = .ok (.iload_n 1, 1) := by decide +kernel
theorem dX6_sheet_34 : decode cX6_sheet 34 = .ok (.iload_n 2, 1) := by decide +kernel
theorem dX6_sheet_35 : decode cX6_sheet 35 = .ok (.iload_n 3, 1) := by decide +kernel
theorem dX6_sheet_36 : decode cX6_sheet 36 = .ok (.invokevirtual 265, 3) := by decide +kernel
theorem dX6_sheet_39 : decode cX6_sheet 39 = .ok (.iload_n 3, 1) := by decide +kernel
theorem dX6_sheet_40 : decode cX6_sheet 40 = .ok (.ireturn, 1) := by decide +kernel
theorem dX6_drop_0 : decode cX6_drop 0 = .ok (.iload_n 1, 1) := by decide +kernel
theorem dX6_drop_1 : decode cX6_drop 1 = .ok (.invokestatic 259, 3) := by decide +kernel
theorem dX6_drop_4 : decode cX6_drop 4 = .ok (.ifCond .ne 5, 3) := by decide +kernel
theorem dX6_drop_7 : decode cX6_drop 7 = .ok (.iconst (-1), 1) := by decide +kernel
theorem dX6_drop_8 : decode cX6_drop 8 = .ok (.ireturn, 1) := by decide +kernel
theorem dX6_drop_9 : decode cX6_drop 9 = .ok (.aload_n 0, 1) := by decide +kernel
theorem dX6_drop_10 : decode cX6_drop 10 = .ok (.getfield 56, 3) := by decide +kernel
theorem dX6_drop_13 : decode cX6_drop 13 = .ok (.iload_n 1, 1) := by decide +kernel
theorem dX6_drop_14 : decode cX6_drop 14 = .ok (.invokevirtual 269, 3) := by decide +kernel
theorem dX6_drop_17 : decode cX6_drop 17 = .ok (.ifCond .eq 8, 3) := by decide +kernel
theorem dX6_drop_20 : decode cX6_drop 20 = .ok (.bipush (-11), 2) := by decide +kernel
theorem dX6_drop_22 : decode cX6_drop 22 = .ok (.goto 11, 3) := by decide +kernel
theorem dX6_drop_25 : decode cX6_drop 25 = .ok (.aload_n 0, 1) := by decide +kernel
theorem dX6_drop_26 : decode cX6_drop 26 = .ok (.getfield 56, 3) := by decide +kernel
theorem dX6_drop_29 : decode cX6_drop 29 = .ok (.iload_n 1, 1) := by decide +kernel
theorem dX6_drop_30 : decode cX6_drop 30 = .ok (.invokevirtual 272, 3) := by decide +kernel
theorem dX6_drop_33 : decode cX6_drop 33 = .ok (.ireturn, 1) := by decide +kernel
theorem dX6_item_0 : decode cX6_item 0 = .ok (.aload_n 0, 1) := by decide +kernel
theorem dX6_item_1 : decode cX6_item 1 = .ok (.getfield 56, 3) := by decide +kernel
theorem dX6_item_4 : decode cX6_item 4 = .ok (.iload_n 1, 1) := by decide +kernel
theorem dX6_item_5 : decode cX6_item 5 = .ok (.iload_n 2, 1) := by decide +kernel
theorem dX6_item_6 : decode cX6_item 6 = .ok (.iload_n 3, 1) := by decide +kernel
theorem dX6_item_7 : decode cX6_item 7 = .ok (.iconst 1, 1) := by decide +kernel
theorem dX6_item_8 : decode cX6_item 8 = .ok (.invokevirtual 142, 3) := by decide +kernel
theorem dX6_item_11 : decode cX6_item 11 = .ok (.istore 5, 2) := by decide +kernel
theorem dX6_item_13 : decode cX6_item 13 = .ok (.iload 5, 2) := by decide +kernel
theorem dX6_item_15 : decode cX6_item 15 = .ok (.ifCond .eq 6, 3) := by decide +kernel
theorem dX6_item_18 : decode cX6_item 18 = .ok (.iload 5, 2) := by decide +kernel
theorem dX6_item_20 : decode cX6_item 20 = .ok (.ireturn, 1) := by decide +kernel
theorem dX6_item_21 : decode cX6_item 21 = .ok (.aload_n 0, 1) := by decide +kernel
theorem dX6_item_22 : decode cX6_item 22 = .ok (.getfield 56, 3) := by decide +kernel
theorem dX6_item_25 : decode cX6_item 25 = .ok (.iload_n 1, 1) := by decide +kernel
theorem dX6_item_26 : decode cX6_item 26 = .ok (.iload_n 3, 1) := by decide +kernel
theorem dX6_item_27 : decode cX6_item 27 = .ok (.iload 4, 2) := by decide +kernel
theorem dX6_item_29 : decode cX6_item 29 = .ok (.invokevirtual 275, 3) := by decide +kernel
theorem dX6_item_32 : decode cX6_item 32 = .ok (.iconst 1, 1) := by decide +kernel
theorem dX6_item_33 : decode cX6_item 33 = .ok (.ireturn, 1) := by decide +kernel
theorem dX6_isName_0 : decode cX6_isName 0 = .ok (.iload_n 0, 1) := by decide +kernel
theorem dX6_isName_1 : decode cX6_isName 1 = .ok (.ifCond .lt 12, 3) := by decide +kernel
theorem dX6_isName_4 : decode cX6_isName 4 = .ok (.iload_n 0, 1) := by decide +kernel
theorem dX6_isName_5 : decode cX6_isName 5 = .ok (.iconst 5, 1) := by decide +kernel
theorem dX6_isName_6 : decode cX6_isName 6 = .ok (.if_icmp .ge 7, 3) := by decide +kernel
theorem dX6_isName_9 : decode cX6_isName 9 = .ok (.iconst 1, 1) := by decide +kernel
theorem dX6_isName_10 : decode cX6_isName 10 = .ok (.goto 4, 3) := by decide +kernel
theorem dX6_isName_13 : decode cX6_isName 13 = .ok (.iconst 0, 1) := by decide +kernel
theorem dX6_isName_14 : decode cX6_isName 14 = .ok (.ireturn, 1) := by decide +kernel
theorem dX6_isDay_0 : decode cX6_isDay 0 = .ok (.iload_n 0, 1) := by decide +kernel
theorem dX6_isDay_1 : decode cX6_isDay 1 = .ok (.ifCond .lt 13, 3) := by decide +kernel
theorem dX6_isDay_4 : decode cX6_isDay 4 = .ok (.iload_n 0, 1) := by decide +kernel
theorem dX6_isDay_5 : decode cX6_isDay 5 = .ok (.bipush 8, 2) := by decide +kernel
theorem dX6_isDay_7 : decode cX6_isDay 7 = .ok (.if_icmp .ge 7, 3) := by decide +kernel
theorem dX6_isDay_10 : decode cX6_isDay 10 = .ok (.iconst 1, 1) := by decide +kernel
theorem dX6_isDay_11 : decode cX6_isDay 11 = .ok (.goto 4, 3) := by decide +kernel
theorem dX6_isDay_14 : decode cX6_isDay 14 = .ok (.iconst 0, 1) := by decide +kernel
theorem dX6_isDay_15 : decode cX6_isDay 15 = .ok (.ireturn, 1) := by decide +kernel
theorem dX6_isLotValue_0 : decode cX6_isLotValue 0 = .ok (.iload_n 0, 1) := by decide +kernel
theorem dX6_isLotValue_1 : decode cX6_isLotValue 1 = .ok (.ifCond .lt 12, 3) := by decide +kernel
theorem dX6_isLotValue_4 : decode cX6_isLotValue 4 = .ok (.iload_n 0, 1) := by decide +kernel
theorem dX6_isLotValue_5 : decode cX6_isLotValue 5 = .ok (.iconst 4, 1) := by decide +kernel
theorem dX6_isLotValue_6 : decode cX6_isLotValue 6 = .ok (.if_icmp .ge 7, 3) := by decide +kernel
theorem dX6_isLotValue_9 : decode cX6_isLotValue 9 = .ok (.iconst 1, 1) := by decide +kernel
theorem dX6_isLotValue_10 : decode cX6_isLotValue 10 = .ok (.goto 4, 3) := by decide +kernel
theorem dX6_isLotValue_13 : decode cX6_isLotValue 13 = .ok (.iconst 0, 1) := by decide +kernel
theorem dX6_isLotValue_14 : decode cX6_isLotValue 14 = .ok (.ireturn, 1) := by decide +kernel
theorem dX6_orNone_0 : decode cX6_orNone 0 = .ok (.iload_n 0, 1) := by decide +kernel
theorem dX6_orNone_1 : decode cX6_orNone 1 = .ok (.iconst (-1), 1) := by decide +kernel
theorem dX6_orNone_2 : decode cX6_orNone 2 = .ok (.if_icmp .ne 8, 3) := by decide +kernel
theorem dX6_orNone_5 : decode cX6_orNone 5 = .ok (.bipush (-4), 2) := by decide +kernel
theorem dX6_orNone_7 : decode cX6_orNone 7 = .ok (.goto 4, 3) := by decide +kernel
theorem dX6_orNone_10 : decode cX6_orNone 10 = .ok (.iload_n 0, 1) := by decide +kernel
theorem dX6_orNone_11 : decode cX6_orNone 11 = .ok (.ireturn, 1) := by decide +kernel
theorem dX6_isBlock_0 : decode cX6_isBlock 0 = .ok (.iload_n 1, 1) := by decide +kernel
theorem dX6_isBlock_1 : decode cX6_isBlock 1 = .ok (.ifCond .lt 18, 3) := by decide +kernel
theorem dX6_isBlock_4 : decode cX6_isBlock 4 = .ok (.iload_n 1, 1) := by decide +kernel
theorem dX6_isBlock_5 : decode cX6_isBlock 5 = .ok (.aload_n 0, 1) := by decide +kernel
theorem dX6_isBlock_6 : decode cX6_isBlock 6 = .ok (.getfield 19, 3) := by decide +kernel
theorem dX6_isBlock_9 : decode cX6_isBlock 9 = .ok (.getfield 162, 3) := by decide +kernel
theorem dX6_isBlock_12 : decode cX6_isBlock 12 = .ok (.if_icmp .ge 7, 3) := by decide +kernel
theorem dX6_isBlock_15 : decode cX6_isBlock 15 = .ok (.iconst 1, 1) := by decide +kernel
theorem dX6_isBlock_16 : decode cX6_isBlock 16 = .ok (.goto 4, 3) := by decide +kernel
theorem dX6_isBlock_19 : decode cX6_isBlock 19 = .ok (.iconst 0, 1) := by decide +kernel
theorem dX6_isBlock_20 : decode cX6_isBlock 20 = .ok (.ireturn, 1) := by decide +kernel
theorem dX6_isEmpty_0 : decode cX6_isEmpty 0 = .ok (.aload_n 0, 1) := by decide +kernel
theorem dX6_isEmpty_1 : decode cX6_isEmpty 1 = .ok (.getfield 19, 3) := by decide +kernel
theorem dX6_isEmpty_4 : decode cX6_isEmpty 4 = .ok (.getfield 162, 3) := by decide +kernel
theorem dX6_isEmpty_7 : decode cX6_isEmpty 7 = .ok (.ifCond .ne 7, 3) := by decide +kernel
theorem dX6_isEmpty_10 : decode cX6_isEmpty 10 = .ok (.iconst 1, 1) := by decide +kernel
theorem dX6_isEmpty_11 : decode cX6_isEmpty 11 = .ok (.goto 4, 3) := by decide +kernel
theorem dX6_isEmpty_14 : decode cX6_isEmpty 14 = .ok (.iconst 0, 1) := by decide +kernel
theorem dX6_isEmpty_15 : decode cX6_isEmpty 15 = .ok (.ireturn, 1) := by decide +kernel
theorem dX6_stateAfter_0 : decode cX6_stateAfter 0 = .ok (.aload_n 0, 1) := by decide +kernel
theorem dX6_stateAfter_1 : decode cX6_stateAfter 1 = .ok (.getfield 43, 3) := by decide +kernel
theorem dX6_stateAfter_4 : decode cX6_stateAfter 4 = .ok (.aload_n 0, 1) := by decide +kernel
theorem dX6_stateAfter_5 : decode cX6_stateAfter 5 = .ok (.getfield 40, 3) := by decide +kernel
theorem dX6_stateAfter_8 : decode cX6_stateAfter 8 = .ok (.iload_n 1, 1) := by decide +kernel
theorem dX6_stateAfter_9 : decode cX6_stateAfter 9 = .ok (.invokevirtual 278, 3) := by decide +kernel
theorem dX6_stateAfter_12 : decode cX6_stateAfter 12 = .ok (.aload_n 0, 1) := by decide +kernel
theorem dX6_stateAfter_13 : decode cX6_stateAfter 13 = .ok (.getfield 43, 3) := by decide +kernel
theorem dX6_stateAfter_16 : decode cX6_stateAfter 16 = .ok (.aload_n 0, 1) := by decide +kernel
theorem dX6_stateAfter_17 : decode cX6_stateAfter 17 = .ok (.getfield 40, 3) := by decide +kernel
theorem dX6_stateAfter_20 : decode cX6_stateAfter 20 = .ok (.iconst 1, 1) := by decide +kernel
theorem dX6_stateAfter_21 : decode cX6_stateAfter 21 = .ok (.iconst 0, 1) := by decide +kernel
theorem dX6_stateAfter_22 : decode cX6_stateAfter 22 = .ok (.invokevirtual 281, 3) := by decide +kernel
theorem dX6_stateAfter_25 : decode cX6_stateAfter 25 = .ok (.aload_n 0, 1) := by decide +kernel
theorem dX6_stateAfter_26 : decode cX6_stateAfter 26 = .ok (.getfield 43, 3) := by decide +kernel
theorem dX6_stateAfter_29 : decode cX6_stateAfter 29 = .ok (.invokevirtual 199, 3) := by decide +kernel
theorem dX6_stateAfter_32 : decode cX6_stateAfter 32 = .ok (.ireturn, 1) := by decide +kernel
theorem dX6_loopFrom_0 : decode cX6_loopFrom 0 = .ok (.iload_n 1, 1) := by decide +kernel
theorem dX6_loopFrom_1 : decode cX6_loopFrom 1 = .ok (.istore_n 2, 1) := by decide +kernel
theorem dX6_loopFrom_2 : decode cX6_loopFrom 2 = .ok (.aload_n 0, 1) := by decide +kernel
theorem dX6_loopFrom_3 : decode cX6_loopFrom 3 = .ok (.iload_n 1, 1) := by decide +kernel
theorem dX6_loopFrom_4 : decode cX6_loopFrom 4 = .ok (.invokevirtual 285, 3) := by decide +kernel
theorem dX6_loopFrom_7 : decode cX6_loopFrom 7 = .ok (.istore_n 3, 1) := by decide +kernel
theorem dX6_loopFrom_8 : decode cX6_loopFrom 8 = .ok (.iconst 1, 1) := by decide +kernel
theorem dX6_loopFrom_9 : decode cX6_loopFrom 9 = .ok (.istore 4, 2) := by decide +kernel
theorem dX6_loopFrom_11 : decode cX6_loopFrom 11 = .ok (.iconst 1, 1) := by decide +kernel
theorem dX6_loopFrom_12 : decode cX6_loopFrom 12 = .ok (.istore 5, 2) := by decide +kernel
theorem dX6_loopFrom_14 : decode cX6_loopFrom 14 = .ok (.iconst 0, 1) := by decide +kernel
theorem dX6_loopFrom_15 : decode cX6_loopFrom 15 = .ok (.istore 6, 2) := by decide +kernel
theorem dX6_loopFrom_17 : decode cX6_loopFrom 17 = .ok (.iload 6, 2) := by decide +kernel
theorem dX6_loopFrom_19 : decode cX6_loopFrom 19 = .ok (.ldc_w 288, 3) := by decide +kernel
theorem dX6_loopFrom_22 : decode cX6_loopFrom 22 = .ok (.if_icmp .ge 41, 3) := by decide +kernel
theorem dX6_loopFrom_25 : decode cX6_loopFrom 25 = .ok (.iload_n 3, 1) := by decide +kernel
theorem dX6_loopFrom_26 : decode cX6_loopFrom 26 = .ok (.iload_n 2, 1) := by decide +kernel
theorem dX6_loopFrom_27 : decode cX6_loopFrom 27 = .ok (.if_icmp .eq 36, 3) := by decide +kernel
theorem dX6_loopFrom_30 : decode cX6_loopFrom 30 = .ok (.iload 4, 2) := by decide +kernel
theorem dX6_loopFrom_32 : decode cX6_loopFrom 32 = .ok (.iload 5, 2) := by decide +kernel
theorem dX6_loopFrom_34 : decode cX6_loopFrom 34 = .ok (.if_icmp .ne 14, 3) := by decide +kernel
theorem dX6_loopFrom_37 : decode cX6_loopFrom 37 = .ok (.iload_n 3, 1) := by decide +kernel
theorem dX6_loopFrom_38 : decode cX6_loopFrom 38 = .ok (.istore_n 2, 1) := by decide +kernel
theorem dX6_loopFrom_39 : decode cX6_loopFrom 39 = .ok (.iload 5, 2) := by decide +kernel
theorem dX6_loopFrom_41 : decode cX6_loopFrom 41 = .ok (.iconst 2, 1) := by decide +kernel
theorem dX6_loopFrom_42 : decode cX6_loopFrom 42 = .ok (.imul, 1) := by decide +kernel
theorem dX6_loopFrom_43 : decode cX6_loopFrom 43 = .ok (.istore 5, 2) := by decide +kernel
theorem dX6_loopFrom_45 : decode cX6_loopFrom 45 = .ok (.iconst 0, 1) := by decide +kernel
theorem dX6_loopFrom_46 : decode cX6_loopFrom 46 = .ok (.istore 4, 2) := by decide +kernel
theorem dX6_loopFrom_48 : decode cX6_loopFrom 48 = .ok (.aload_n 0, 1) := by decide +kernel
theorem dX6_loopFrom_49 : decode cX6_loopFrom 49 = .ok (.iload_n 3, 1) := by decide +kernel
theorem dX6_loopFrom_50 : decode cX6_loopFrom 50 = .ok (.invokevirtual 285, 3) := by decide +kernel
theorem dX6_loopFrom_53 : decode cX6_loopFrom 53 = .ok (.istore_n 3, 1) := by decide +kernel
theorem dX6_loopFrom_54 : decode cX6_loopFrom 54 = .ok (.iinc 4 1, 3) := by decide +kernel
theorem dX6_loopFrom_57 : decode cX6_loopFrom 57 = .ok (.iinc 6 1, 3) := by decide +kernel
theorem dX6_loopFrom_60 : decode cX6_loopFrom 60 = .ok (.goto (-43), 3) := by decide +kernel
theorem dX6_loopFrom_63 : decode cX6_loopFrom 63 = .ok (.iload 4, 2) := by decide +kernel
theorem dX6_loopFrom_65 : decode cX6_loopFrom 65 = .ok (.ireturn, 1) := by decide +kernel
theorem dX6_tailFrom_0 : decode cX6_tailFrom 0 = .ok (.iload_n 1, 1) := by decide +kernel
theorem dX6_tailFrom_1 : decode cX6_tailFrom 1 = .ok (.istore_n 3, 1) := by decide +kernel
theorem dX6_tailFrom_2 : decode cX6_tailFrom 2 = .ok (.iconst 0, 1) := by decide +kernel
theorem dX6_tailFrom_3 : decode cX6_tailFrom 3 = .ok (.istore 4, 2) := by decide +kernel
theorem dX6_tailFrom_5 : decode cX6_tailFrom 5 = .ok (.iload 4, 2) := by decide +kernel
theorem dX6_tailFrom_7 : decode cX6_tailFrom 7 = .ok (.iload_n 2, 1) := by decide +kernel
theorem dX6_tailFrom_8 : decode cX6_tailFrom 8 = .ok (.if_icmp .ge 15, 3) := by decide +kernel
theorem dX6_tailFrom_11 : decode cX6_tailFrom 11 = .ok (.aload_n 0, 1) := by decide +kernel
theorem dX6_tailFrom_12 : decode cX6_tailFrom 12 = .ok (.iload_n 3, 1) := by decide +kernel
theorem dX6_tailFrom_13 : decode cX6_tailFrom 13 = .ok (.invokevirtual 285, 3) := by decide +kernel
theorem dX6_tailFrom_16 : decode cX6_tailFrom 16 = .ok (.istore_n 3, 1) := by decide +kernel
theorem dX6_tailFrom_17 : decode cX6_tailFrom 17 = .ok (.iinc 4 1, 3) := by decide +kernel
theorem dX6_tailFrom_20 : decode cX6_tailFrom 20 = .ok (.goto (-15), 3) := by decide +kernel
theorem dX6_tailFrom_23 : decode cX6_tailFrom 23 = .ok (.iload_n 1, 1) := by decide +kernel
theorem dX6_tailFrom_24 : decode cX6_tailFrom 24 = .ok (.istore 4, 2) := by decide +kernel
theorem dX6_tailFrom_26 : decode cX6_tailFrom 26 = .ok (.iconst 0, 1) := by decide +kernel
theorem dX6_tailFrom_27 : decode cX6_tailFrom 27 = .ok (.istore 5, 2) := by decide +kernel
theorem dX6_tailFrom_29 : decode cX6_tailFrom 29 = .ok (.iconst 0, 1) := by decide +kernel
theorem dX6_tailFrom_30 : decode cX6_tailFrom 30 = .ok (.istore 6, 2) := by decide +kernel
theorem dX6_tailFrom_32 : decode cX6_tailFrom 32 = .ok (.iload 6, 2) := by decide +kernel
theorem dX6_tailFrom_34 : decode cX6_tailFrom 34 = .ok (.ldc_w 289, 3) := by decide +kernel
theorem dX6_tailFrom_37 : decode cX6_tailFrom 37 = .ok (.if_icmp .ge 32, 3) := by decide +kernel
theorem dX6_tailFrom_40 : decode cX6_tailFrom 40 = .ok (.iload_n 3, 1) := by decide +kernel
theorem dX6_tailFrom_41 : decode cX6_tailFrom 41 = .ok (.iload 4, 2) := by decide +kernel
theorem dX6_tailFrom_43 : decode cX6_tailFrom 43 = .ok (.if_icmp .eq 26, 3) := by decide +kernel
theorem dX6_tailFrom_46 : decode cX6_tailFrom 46 = .ok (.aload_n 0, 1) := by decide +kernel
theorem dX6_tailFrom_47 : decode cX6_tailFrom 47 = .ok (.iload_n 3, 1) := by decide +kernel
theorem dX6_tailFrom_48 : decode cX6_tailFrom 48 = .ok (.invokevirtual 285, 3) := by decide +kernel
theorem dX6_tailFrom_51 : decode cX6_tailFrom 51 = .ok (.istore_n 3, 1) := by decide +kernel
theorem dX6_tailFrom_52 : decode cX6_tailFrom 52 = .ok (.aload_n 0, 1) := by decide +kernel
theorem dX6_tailFrom_53 : decode cX6_tailFrom 53 = .ok (.iload 4, 2) := by decide +kernel
theorem dX6_tailFrom_55 : decode cX6_tailFrom 55 = .ok (.invokevirtual 285, 3) := by decide +kernel
theorem dX6_tailFrom_58 : decode cX6_tailFrom 58 = .ok (.istore 4, 2) := by decide +kernel
theorem dX6_tailFrom_60 : decode cX6_tailFrom 60 = .ok (.iinc 5 1, 3) := by decide +kernel
theorem dX6_tailFrom_63 : decode cX6_tailFrom 63 = .ok (.iinc 6 1, 3) := by decide +kernel
theorem dX6_tailFrom_66 : decode cX6_tailFrom 66 = .ok (.goto (-34), 3) := by decide +kernel
theorem dX6_tailFrom_69 : decode cX6_tailFrom 69 = .ok (.iload 5, 2) := by decide +kernel
theorem dX6_tailFrom_71 : decode cX6_tailFrom 71 = .ok (.ireturn, 1) := by decide +kernel
theorem dX6_fewestAmong_0 : decode cX6_fewestAmong 0 = .ok (.bipush (-4), 2) := by decide +kernel
theorem dX6_fewestAmong_2 : decode cX6_fewestAmong 2 = .ok (.istore_n 3, 1) := by decide +kernel
theorem dX6_fewestAmong_3 : decode cX6_fewestAmong 3 = .ok (.bipush 121, 2) := by decide +kernel
theorem dX6_fewestAmong_5 : decode cX6_fewestAmong 5 = .ok (.istore 4, 2) := by decide +kernel
theorem dX6_fewestAmong_7 : decode cX6_fewestAmong 7 = .ok (.iconst 1, 1) := by decide +kernel
theorem dX6_fewestAmong_8 : decode cX6_fewestAmong 8 = .ok (.istore 5, 2) := by decide +kernel
theorem dX6_fewestAmong_10 : decode cX6_fewestAmong 10 = .ok (.iload 5, 2) := by decide +kernel
theorem dX6_fewestAmong_12 : decode cX6_fewestAmong 12 = .ok (.iload_n 1, 1) := by decide +kernel
theorem dX6_fewestAmong_13 : decode cX6_fewestAmong 13 = .ok (.if_icmp .gt 49, 3) := by decide +kernel
theorem dX6_fewestAmong_16 : decode cX6_fewestAmong 16 = .ok (.iload 5, 2) := by decide +kernel
theorem dX6_fewestAmong_18 : decode cX6_fewestAmong 18 = .ok (.iload_n 1, 1) := by decide +kernel
theorem dX6_fewestAmong_19 : decode cX6_fewestAmong 19 = .ok (.iconst (-1), 1) := by decide +kernel
theorem dX6_fewestAmong_20 : decode cX6_fewestAmong 20 = .ok (.ixor, 1) := by decide +kernel
theorem dX6_fewestAmong_21 : decode cX6_fewestAmong 21 = .ok (.iand, 1) := by decide +kernel
theorem dX6_fewestAmong_22 : decode cX6_fewestAmong 22 = .ok (.ifCond .ne 34, 3) := by decide +kernel
theorem dX6_fewestAmong_25 : decode cX6_fewestAmong 25 = .ok (.aload_n 0, 1) := by decide +kernel
theorem dX6_fewestAmong_26 : decode cX6_fewestAmong 26 = .ok (.getfield 19, 3) := by decide +kernel
theorem dX6_fewestAmong_29 : decode cX6_fewestAmong 29 = .ok (.iload 5, 2) := by decide +kernel
theorem dX6_fewestAmong_31 : decode cX6_fewestAmong 31 = .ok (.invokevirtual 224, 3) := by decide +kernel
theorem dX6_fewestAmong_34 : decode cX6_fewestAmong 34 = .ok (.istore 6, 2) := by decide +kernel
theorem dX6_fewestAmong_36 : decode cX6_fewestAmong 36 = .ok (.iload 6, 2) := by decide +kernel
theorem dX6_fewestAmong_38 : decode cX6_fewestAmong 38 = .ok (.iload_n 2, 1) := by decide +kernel
theorem dX6_fewestAmong_39 : decode cX6_fewestAmong 39 = .ok (.if_icmp .lt 17, 3) := by decide +kernel
theorem dX6_fewestAmong_42 : decode cX6_fewestAmong 42 = .ok (.iload 6, 2) := by decide +kernel
theorem dX6_fewestAmong_44 : decode cX6_fewestAmong 44 = .ok (.iload 4, 2) := by decide +kernel
theorem dX6_fewestAmong_46 : decode cX6_fewestAmong 46 = .ok (.if_icmp .ge 10, 3) := by decide +kernel
theorem dX6_fewestAmong_49 : decode cX6_fewestAmong 49 = .ok (.iload 5, 2) := by decide +kernel
theorem dX6_fewestAmong_51 : decode cX6_fewestAmong 51 = .ok (.istore_n 3, 1) := by decide +kernel
theorem dX6_fewestAmong_52 : decode cX6_fewestAmong 52 = .ok (.iload 6, 2) := by decide +kernel
theorem dX6_fewestAmong_54 : decode cX6_fewestAmong 54 = .ok (.istore 4, 2) := by decide +kernel
theorem dX6_fewestAmong_56 : decode cX6_fewestAmong 56 = .ok (.iinc 5 1, 3) := by decide +kernel
theorem dX6_fewestAmong_59 : decode cX6_fewestAmong 59 = .ok (.goto (-49), 3) := by decide +kernel
theorem dX6_fewestAmong_62 : decode cX6_fewestAmong 62 = .ok (.iload_n 3, 1) := by decide +kernel
theorem dX6_fewestAmong_63 : decode cX6_fewestAmong 63 = .ok (.ireturn, 1) := by decide +kernel
theorem dX6_beatsEachOther_0 : decode cX6_beatsEachOther 0 = .ok (.iconst 0, 1) := by decide +kernel
theorem dX6_beatsEachOther_1 : decode cX6_beatsEachOther 1 = .ok (.istore_n 3, 1) := by decide +kernel
theorem dX6_beatsEachOther_2 : decode cX6_beatsEachOther 2 = .ok (.iload_n 3, 1) := by decide +kernel
theorem dX6_beatsEachOther_3 : decode cX6_beatsEachOther 3 = .ok (.iconst 5, 1) := by decide +kernel
theorem dX6_beatsEachOther_4 : decode cX6_beatsEachOther 4 = .ok (.if_icmp .ge 58, 3) := by decide +kernel
theorem dX6_beatsEachOther_7 : decode cX6_beatsEachOther 7 = .ok (.iload_n 3, 1) := by decide +kernel
theorem dX6_beatsEachOther_8 : decode cX6_beatsEachOther 8 = .ok (.iload_n 1, 1) := by decide +kernel
theorem dX6_beatsEachOther_9 : decode cX6_beatsEachOther 9 = .ok (.if_icmp .eq 47, 3) := by decide +kernel
theorem dX6_beatsEachOther_12 : decode cX6_beatsEachOther 12 = .ok (.iload_n 2, 1) := by decide +kernel
theorem dX6_beatsEachOther_13 : decode cX6_beatsEachOther 13 = .ok (.ifCond .ne 17, 3) := by decide +kernel
theorem dX6_beatsEachOther_16 : decode cX6_beatsEachOther 16 = .ok (.aload_n 0, 1) := by decide +kernel
theorem dX6_beatsEachOther_17 : decode cX6_beatsEachOther 17 = .ok (.getfield 19, 3) := by decide +kernel
theorem dX6_beatsEachOther_20 : decode cX6_beatsEachOther 20 = .ok (.iload_n 3, 1) := by decide +kernel
theorem dX6_beatsEachOther_21 : decode cX6_beatsEachOther 21 = .ok (.iload_n 1, 1) := by decide +kernel
theorem dX6_beatsEachOther_22 : decode cX6_beatsEachOther 22 = .ok (.invokevirtual 233, 3) := by decide +kernel
theorem dX6_beatsEachOther_25 : decode cX6_beatsEachOther 25 = .ok (.iconst 1, 1) := by decide +kernel
theorem dX6_beatsEachOther_26 : decode cX6_beatsEachOther 26 = .ok (.iadd, 1) := by decide +kernel
theorem dX6_beatsEachOther_27 : decode cX6_beatsEachOther 27 = .ok (.goto 11, 3) := by decide +kernel
theorem dX6_beatsEachOther_30 : decode cX6_beatsEachOther 30 = .ok (.aload_n 0, 1) := by decide +kernel
theorem dX6_beatsEachOther_31 : decode cX6_beatsEachOther 31 = .ok (.getfield 19, 3) := by decide +kernel
theorem dX6_beatsEachOther_34 : decode cX6_beatsEachOther 34 = .ok (.iconst 0, 1) := by decide +kernel
theorem dX6_beatsEachOther_35 : decode cX6_beatsEachOther 35 = .ok (.invokevirtual 127, 3) := by decide +kernel
theorem dX6_beatsEachOther_38 : decode cX6_beatsEachOther 38 = .ok (.istore 4, 2) := by decide +kernel
theorem dX6_beatsEachOther_40 : decode cX6_beatsEachOther 40 = .ok (.aload_n 0, 1) := by decide +kernel
theorem dX6_beatsEachOther_41 : decode cX6_beatsEachOther 41 = .ok (.getfield 19, 3) := by decide +kernel
theorem dX6_beatsEachOther_44 : decode cX6_beatsEachOther 44 = .ok (.iload_n 1, 1) := by decide +kernel
theorem dX6_beatsEachOther_45 : decode cX6_beatsEachOther 45 = .ok (.iload_n 3, 1) := by decide +kernel
theorem dX6_beatsEachOther_46 : decode cX6_beatsEachOther 46 = .ok (.invokevirtual 233, 3) := by decide +kernel
theorem dX6_beatsEachOther_49 : decode cX6_beatsEachOther 49 = .ok (.iload 4, 2) := by decide +kernel
theorem dX6_beatsEachOther_51 : decode cX6_beatsEachOther 51 = .ok (.if_icmp .ge 5, 3) := by decide +kernel
theorem dX6_beatsEachOther_54 : decode cX6_beatsEachOther 54 = .ok (.iconst 0, 1) := by decide +kernel
theorem dX6_beatsEachOther_55 : decode cX6_beatsEachOther 55 = .ok (.ireturn, 1) := by decide +kernel
theorem dX6_beatsEachOther_56 : decode cX6_beatsEachOther 56 = .ok (.iinc 3 1, 3) := by decide +kernel
theorem dX6_beatsEachOther_59 : decode cX6_beatsEachOther 59 = .ok (.goto (-57), 3) := by decide +kernel
theorem dX6_beatsEachOther_62 : decode cX6_beatsEachOther 62 = .ok (.iconst 1, 1) := by decide +kernel
theorem dX6_beatsEachOther_63 : decode cX6_beatsEachOther 63 = .ok (.ireturn, 1) := by decide +kernel
theorem dX6_worthOfWaiting_0 : decode cX6_worthOfWaiting 0 = .ok (.aload_n 0, 1) := by decide +kernel
theorem dX6_worthOfWaiting_1 : decode cX6_worthOfWaiting 1 = .ok (.getfield 43, 3) := by decide +kernel
theorem dX6_worthOfWaiting_4 : decode cX6_worthOfWaiting 4 = .ok (.invokevirtual 80, 3) := by decide +kernel
theorem dX6_worthOfWaiting_7 : decode cX6_worthOfWaiting 7 = .ok (.aload_n 0, 1) := by decide +kernel
theorem dX6_worthOfWaiting_8 : decode cX6_worthOfWaiting 8 = .ok (.getfield 43, 3) := by decide +kernel
theorem dX6_worthOfWaiting_11 : decode cX6_worthOfWaiting 11 = .ok (.iload_n 1, 1) := by decide +kernel
theorem dX6_worthOfWaiting_12 : decode cX6_worthOfWaiting 12 = .ok (.putfield 290, 3) := by decide +kernel
theorem dX6_worthOfWaiting_15 : decode cX6_worthOfWaiting 15 = .ok (.aload_n 0, 1) := by decide +kernel
theorem dX6_worthOfWaiting_16 : decode cX6_worthOfWaiting 16 = .ok (.getfield 43, 3) := by decide +kernel
theorem dX6_worthOfWaiting_19 : decode cX6_worthOfWaiting 19 = .ok (.iload_n 2, 1) := by decide +kernel
theorem dX6_worthOfWaiting_20 : decode cX6_worthOfWaiting 20 = .ok (.putfield 293, 3) := by decide +kernel
theorem dX6_worthOfWaiting_23 : decode cX6_worthOfWaiting 23 = .ok (.aload_n 0, 1) := by decide +kernel
theorem dX6_worthOfWaiting_24 : decode cX6_worthOfWaiting 24 = .ok (.getfield 43, 3) := by decide +kernel
theorem dX6_worthOfWaiting_27 : decode cX6_worthOfWaiting 27 = .ok (.aload_n 0, 1) := by decide +kernel
theorem dX6_worthOfWaiting_28 : decode cX6_worthOfWaiting 28 = .ok (.getfield 19, 3) := by decide +kernel
theorem dX6_worthOfWaiting_31 : decode cX6_worthOfWaiting 31 = .ok (.bipush 32, 2) := by decide +kernel
theorem dX6_worthOfWaiting_33 : decode cX6_worthOfWaiting 33 = .ok (.invokevirtual 152, 3) := by decide +kernel
theorem dX6_worthOfWaiting_36 : decode cX6_worthOfWaiting 36 = .ok (.aload_n 0, 1) := by decide +kernel
theorem dX6_worthOfWaiting_37 : decode cX6_worthOfWaiting 37 = .ok (.getfield 19, 3) := by decide +kernel
theorem dX6_worthOfWaiting_40 : decode cX6_worthOfWaiting 40 = .ok (.iload_n 1, 1) := by decide +kernel
theorem dX6_worthOfWaiting_41 : decode cX6_worthOfWaiting 41 = .ok (.aload_n 0, 1) := by decide +kernel
theorem dX6_worthOfWaiting_42 : decode cX6_worthOfWaiting 42 = .ok (.getfield 43, 3) := by decide +kernel
theorem dX6_worthOfWaiting_45 : decode cX6_worthOfWaiting 45 = .ok (.getfield 159, 3) := by decide +kernel
theorem dX6_worthOfWaiting_48 : decode cX6_worthOfWaiting 48 = .ok (.invokevirtual 296, 3) := by decide +kernel
theorem dX6_worthOfWaiting_51 : decode cX6_worthOfWaiting 51 = .ok (.istore_n 3, 1) := by decide +kernel
theorem dX6_worthOfWaiting_52 : decode cX6_worthOfWaiting 52 = .ok (.iload_n 3, 1) := by decide +kernel
theorem dX6_worthOfWaiting_53 : decode cX6_worthOfWaiting 53 = .ok (.iconst (-1), 1) := by decide +kernel
theorem dX6_worthOfWaiting_54 : decode cX6_worthOfWaiting 54 = .ok (.if_icmp .ne 8, 3) := by decide +kernel
theorem dX6_worthOfWaiting_57 : decode cX6_worthOfWaiting 57 = .ok (.bipush 9, 2) := by decide +kernel
theorem dX6_worthOfWaiting_59 : decode cX6_worthOfWaiting 59 = .ok (.goto 4, 3) := by decide +kernel
theorem dX6_worthOfWaiting_62 : decode cX6_worthOfWaiting 62 = .ok (.iload_n 3, 1) := by decide +kernel
theorem dX6_worthOfWaiting_63 : decode cX6_worthOfWaiting 63 = .ok (.ireturn, 1) := by decide +kernel
theorem dX6_soonestAside_0 : decode cX6_soonestAside 0 = .ok (.aload_n 0, 1) := by decide +kernel
theorem dX6_soonestAside_1 : decode cX6_soonestAside 1 = .ok (.getfield 40, 3) := by decide +kernel
theorem dX6_soonestAside_4 : decode cX6_soonestAside 4 = .ok (.aload_n 0, 1) := by decide +kernel
theorem dX6_soonestAside_5 : decode cX6_soonestAside 5 = .ok (.getfield 19, 3) := by decide +kernel
theorem dX6_soonestAside_8 : decode cX6_soonestAside 8 = .ok (.invokevirtual 192, 3) := by decide +kernel
theorem dX6_soonestAside_11 : decode cX6_soonestAside 11 = .ok (.aload_n 0, 1) := by decide +kernel
theorem dX6_soonestAside_12 : decode cX6_soonestAside 12 = .ok (.getfield 43, 3) := by decide +kernel
theorem dX6_soonestAside_15 : decode cX6_soonestAside 15 = .ok (.aload_n 0, 1) := by decide +kernel
theorem dX6_soonestAside_16 : decode cX6_soonestAside 16 = .ok (.getfield 40, 3) := by decide +kernel
theorem dX6_soonestAside_19 : decode cX6_soonestAside 19 = .ok (.invokevirtual 183, 3) := by decide +kernel
theorem dX6_soonestAside_22 : decode cX6_soonestAside 22 = .ok (.aload_n 0, 1) := by decide +kernel
theorem dX6_soonestAside_23 : decode cX6_soonestAside 23 = .ok (.getfield 43, 3) := by decide +kernel
theorem dX6_soonestAside_26 : decode cX6_soonestAside 26 = .ok (.invokevirtual 186, 3) := by decide +kernel
theorem dX6_soonestAside_29 : decode cX6_soonestAside 29 = .ok (.bipush 6, 2) := by decide +kernel
theorem dX6_soonestAside_31 : decode cX6_soonestAside 31 = .ok (.ishl, 1) := by decide +kernel
theorem dX6_soonestAside_32 : decode cX6_soonestAside 32 = .ok (.istore_n 1, 1) := by decide +kernel
theorem dX6_soonestAside_33 : decode cX6_soonestAside 33 = .ok (.iload_n 1, 1) := by decide +kernel
theorem dX6_soonestAside_34 : decode cX6_soonestAside 34 = .ok (.istore_n 2, 1) := by decide +kernel
theorem dX6_soonestAside_35 : decode cX6_soonestAside 35 = .ok (.iconst 0, 1) := by decide +kernel
theorem dX6_soonestAside_36 : decode cX6_soonestAside 36 = .ok (.istore_n 3, 1) := by decide +kernel
theorem dX6_soonestAside_37 : decode cX6_soonestAside 37 = .ok (.iload_n 3, 1) := by decide +kernel
theorem dX6_soonestAside_38 : decode cX6_soonestAside 38 = .ok (.bipush 8, 2) := by decide +kernel
theorem dX6_soonestAside_40 : decode cX6_soonestAside 40 = .ok (.if_icmp .ge 98, 3) := by decide +kernel
theorem dX6_soonestAside_43 : decode cX6_soonestAside 43 = .ok (.iconst 0, 1) := by decide +kernel
theorem dX6_soonestAside_44 : decode cX6_soonestAside 44 = .ok (.istore 4, 2) := by decide +kernel
theorem dX6_soonestAside_46 : decode cX6_soonestAside 46 = .ok (.iload 4, 2) := by decide +kernel
theorem dX6_soonestAside_48 : decode cX6_soonestAside 48 = .ok (.iconst 5, 1) := by decide +kernel
theorem dX6_soonestAside_49 : decode cX6_soonestAside 49 = .ok (.if_icmp .ge 83, 3) := by decide +kernel
theorem dX6_soonestAside_52 : decode cX6_soonestAside 52 = .ok (.aload_n 0, 1) := by decide +kernel
theorem dX6_soonestAside_53 : decode cX6_soonestAside 53 = .ok (.getfield 40, 3) := by decide +kernel
theorem dX6_soonestAside_56 : decode cX6_soonestAside 56 = .ok (.getfield 133, 3) := by decide +kernel
theorem dX6_soonestAside_59 : decode cX6_soonestAside 59 = .ok (.iload 4, 2) := by decide +kernel
theorem dX6_soonestAside_61 : decode cX6_soonestAside 61 = .ok (.iaload, 1) := by decide +kernel
theorem dX6_soonestAside_62 : decode cX6_soonestAside 62 = .ok (.istore 5, 2) := by decide +kernel
theorem dX6_soonestAside_64 : decode cX6_soonestAside 64 = .ok (.iload_n 3, 1) := by decide +kernel
theorem dX6_soonestAside_65 : decode cX6_soonestAside 65 = .ok (.iload 5, 2) := by decide +kernel
theorem dX6_soonestAside_67 : decode cX6_soonestAside 67 = .ok (.if_icmp .ge 59, 3) := by decide +kernel
theorem dX6_soonestAside_70 : decode cX6_soonestAside 70 = .ok (.aload_n 0, 1) := by decide +kernel
theorem dX6_soonestAside_71 : decode cX6_soonestAside 71 = .ok (.getfield 40, 3) := by decide +kernel
theorem dX6_soonestAside_74 : decode cX6_soonestAside 74 = .ok (.getfield 133, 3) := by decide +kernel
theorem dX6_soonestAside_77 : decode cX6_soonestAside 77 = .ok (.iload 4, 2) := by decide +kernel
theorem dX6_soonestAside_79 : decode cX6_soonestAside 79 = .ok (.iload_n 3, 1) := by decide +kernel
theorem dX6_soonestAside_80 : decode cX6_soonestAside 80 = .ok (.iastore, 1) := by decide +kernel
theorem dX6_soonestAside_81 : decode cX6_soonestAside 81 = .ok (.aload_n 0, 1) := by decide +kernel
theorem dX6_soonestAside_82 : decode cX6_soonestAside 82 = .ok (.getfield 43, 3) := by decide +kernel
theorem dX6_soonestAside_85 : decode cX6_soonestAside 85 = .ok (.aload_n 0, 1) := by decide +kernel
theorem dX6_soonestAside_86 : decode cX6_soonestAside 86 = .ok (.getfield 40, 3) := by decide +kernel
theorem dX6_soonestAside_89 : decode cX6_soonestAside 89 = .ok (.invokevirtual 183, 3) := by decide +kernel
theorem dX6_soonestAside_92 : decode cX6_soonestAside 92 = .ok (.iload_n 2, 1) := by decide +kernel
theorem dX6_soonestAside_93 : decode cX6_soonestAside 93 = .ok (.aload_n 0, 1) := by decide +kernel
theorem dX6_soonestAside_94 : decode cX6_soonestAside 94 = .ok (.getfield 43, 3) := by decide +kernel
theorem dX6_soonestAside_97 : decode cX6_soonestAside 97 = .ok (.invokevirtual 186, 3) := by decide +kernel
theorem dX6_soonestAside_100 : decode cX6_soonestAside 100 = .ok (.bipush 6, 2) := by decide +kernel
theorem dX6_soonestAside_102 : decode cX6_soonestAside 102 = .ok (.ishl, 1) := by decide +kernel
theorem dX6_soonestAside_103 : decode cX6_soonestAside 103 = .ok (.iload_n 3, 1) := by decide +kernel
theorem dX6_soonestAside_104 : decode cX6_soonestAside 104 = .ok (.iconst 3, 1) := by decide +kernel
theorem dX6_soonestAside_105 : decode cX6_soonestAside 105 = .ok (.ishl, 1) := by decide +kernel
theorem dX6_soonestAside_106 : decode cX6_soonestAside 106 = .ok (.iadd, 1) := by decide +kernel
theorem dX6_soonestAside_107 : decode cX6_soonestAside 107 = .ok (.iload 4, 2) := by decide +kernel
theorem dX6_soonestAside_109 : decode cX6_soonestAside 109 = .ok (.iadd, 1) := by decide +kernel
theorem dX6_soonestAside_110 : decode cX6_soonestAside 110 = .ok (.invokestatic 299, 3) := by decide +kernel
theorem dX6_soonestAside_113 : decode cX6_soonestAside 113 = .ok (.istore_n 2, 1) := by decide +kernel
theorem dX6_soonestAside_114 : decode cX6_soonestAside 114 = .ok (.aload_n 0, 1) := by decide +kernel
theorem dX6_soonestAside_115 : decode cX6_soonestAside 115 = .ok (.getfield 40, 3) := by decide +kernel
theorem dX6_soonestAside_118 : decode cX6_soonestAside 118 = .ok (.getfield 133, 3) := by decide +kernel
theorem dX6_soonestAside_121 : decode cX6_soonestAside 121 = .ok (.iload 4, 2) := by decide +kernel
theorem dX6_soonestAside_123 : decode cX6_soonestAside 123 = .ok (.iload 5, 2) := by decide +kernel
theorem dX6_soonestAside_125 : decode cX6_soonestAside 125 = .ok (.iastore, 1) := by decide +kernel
theorem dX6_soonestAside_126 : decode cX6_soonestAside 126 = .ok (.iinc 4 1, 3) := by decide +kernel
theorem dX6_soonestAside_129 : decode cX6_soonestAside 129 = .ok (.goto (-83), 3) := by decide +kernel
theorem dX6_soonestAside_132 : decode cX6_soonestAside 132 = .ok (.iinc 3 1, 3) := by decide +kernel
theorem dX6_soonestAside_135 : decode cX6_soonestAside 135 = .ok (.goto (-98), 3) := by decide +kernel
theorem dX6_soonestAside_138 : decode cX6_soonestAside 138 = .ok (.iload_n 2, 1) := by decide +kernel
theorem dX6_soonestAside_139 : decode cX6_soonestAside 139 = .ok (.iload_n 1, 1) := by decide +kernel
theorem dX6_soonestAside_140 : decode cX6_soonestAside 140 = .ok (.if_icmp .ge 7, 3) := by decide +kernel
theorem dX6_soonestAside_143 : decode cX6_soonestAside 143 = .ok (.iload_n 2, 1) := by decide +kernel
theorem dX6_soonestAside_144 : decode cX6_soonestAside 144 = .ok (.goto 5, 3) := by decide +kernel
theorem dX6_soonestAside_147 : decode cX6_soonestAside 147 = .ok (.bipush (-4), 2) := by decide +kernel
theorem dX6_soonestAside_149 : decode cX6_soonestAside 149 = .ok (.ireturn, 1) := by decide +kernel
theorem dX6_countsStandAt_0 : decode cX6_countsStandAt 0 = .ok (.iconst 0, 1) := by decide +kernel
theorem dX6_countsStandAt_1 : decode cX6_countsStandAt 1 = .ok (.istore_n 3, 1) := by decide +kernel
theorem dX6_countsStandAt_2 : decode cX6_countsStandAt 2 = .ok (.iload_n 3, 1) := by decide +kernel
theorem dX6_countsStandAt_3 : decode cX6_countsStandAt 3 = .ok (.iconst 5, 1) := by decide +kernel
theorem dX6_countsStandAt_4 : decode cX6_countsStandAt 4 = .ok (.if_icmp .ge 34, 3) := by decide +kernel
theorem dX6_countsStandAt_7 : decode cX6_countsStandAt 7 = .ok (.aload_n 0, 1) := by decide +kernel
theorem dX6_countsStandAt_8 : decode cX6_countsStandAt 8 = .ok (.getfield 56, 3) := by decide +kernel
theorem dX6_countsStandAt_11 : decode cX6_countsStandAt 11 = .ok (.iload_n 1, 1) := by decide +kernel
theorem dX6_countsStandAt_12 : decode cX6_countsStandAt 12 = .ok (.iload_n 2, 1) := by decide +kernel
theorem dX6_countsStandAt_13 : decode cX6_countsStandAt 13 = .ok (.iload_n 3, 1) := by decide +kernel
theorem dX6_countsStandAt_14 : decode cX6_countsStandAt 14 = .ok (.iadd, 1) := by decide +kernel
theorem dX6_countsStandAt_15 : decode cX6_countsStandAt 15 = .ok (.invokevirtual 146, 3) := by decide +kernel
theorem dX6_countsStandAt_18 : decode cX6_countsStandAt 18 = .ok (.aload_n 0, 1) := by decide +kernel
theorem dX6_countsStandAt_19 : decode cX6_countsStandAt 19 = .ok (.getfield 43, 3) := by decide +kernel
theorem dX6_countsStandAt_22 : decode cX6_countsStandAt 22 = .ok (.getfield 156, 3) := by decide +kernel
theorem dX6_countsStandAt_25 : decode cX6_countsStandAt 25 = .ok (.iload_n 3, 1) := by decide +kernel
theorem dX6_countsStandAt_26 : decode cX6_countsStandAt 26 = .ok (.iaload, 1) := by decide +kernel
theorem dX6_countsStandAt_27 : decode cX6_countsStandAt 27 = .ok (.if_icmp .eq 5, 3) := by decide +kernel
theorem dX6_countsStandAt_30 : decode cX6_countsStandAt 30 = .ok (.iconst 0, 1) := by decide +kernel
theorem dX6_countsStandAt_31 : decode cX6_countsStandAt 31 = .ok (.ireturn, 1) := by decide +kernel
theorem dX6_countsStandAt_32 : decode cX6_countsStandAt 32 = .ok (.iinc 3 1, 3) := by decide +kernel
theorem dX6_countsStandAt_35 : decode cX6_countsStandAt 35 = .ok (.goto (-33), 3) := by decide +kernel
theorem dX6_countsStandAt_38 : decode cX6_countsStandAt 38 = .ok (.iconst 1, 1) := by decide +kernel
theorem dX6_countsStandAt_39 : decode cX6_countsStandAt 39 = .ok (.ireturn, 1) := by decide +kernel

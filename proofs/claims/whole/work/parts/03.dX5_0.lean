theorem dX5_init_0 : decode cX5_init 0 = .ok (.aload_n 0, 1) := by decide +kernel
theorem dX5_init_1 : decode cX5_init 1 = .ok (.invokespecial 3, 3) := by decide +kernel
theorem dX5_init_4 : decode cX5_init 4 = .ok (.aload_n 0, 1) := by decide +kernel
theorem dX5_init_5 : decode cX5_init 5 = .ok (.iconst 0, 1) := by decide +kernel
theorem dX5_init_6 : decode cX5_init 6 = .ok (.putfield 9, 3) := by decide +kernel
theorem dX5_init_9 : decode cX5_init 9 = .ok (.aload_n 0, 1) := by decide +kernel
theorem dX5_init_10 : decode cX5_init 10 = .ok (.bipush 6, 2) := by decide +kernel
theorem dX5_init_12 : decode cX5_init 12 = .ok (.newarray .int, 2) := by decide +kernel
theorem dX5_init_14 : decode cX5_init 14 = .ok (.putfield 15, 3) := by decide +kernel
theorem dX5_init_17 : decode cX5_init 17 = .ok (.aload_n 0, 1) := by decide +kernel
theorem dX5_init_18 : decode cX5_init 18 = .ok (.bipush 6, 2) := by decide +kernel
theorem dX5_init_20 : decode cX5_init 20 = .ok (.newarray .int, 2) := by decide +kernel
theorem dX5_init_22 : decode cX5_init 22 = .ok (.putfield 19, 3) := by decide +kernel
theorem dX5_init_25 : decode cX5_init 25 = .ok (.aload_n 0, 1) := by decide +kernel
theorem dX5_init_26 : decode cX5_init 26 = .ok (.bipush 6, 2) := by decide +kernel
theorem dX5_init_28 : decode cX5_init 28 = .ok (.newarray .int, 2) := by decide +kernel
theorem dX5_init_30 : decode cX5_init 30 = .ok (.putfield 22, 3) := by decide +kernel
theorem dX5_init_33 : decode cX5_init 33 = .ok (.aload_n 0, 1) := by decide +kernel
theorem dX5_init_34 : decode cX5_init 34 = .ok (.bipush 6, 2) := by decide +kernel
theorem dX5_init_36 : decode cX5_init 36 = .ok (.newarray .int, 2) := by decide +kernel
theorem dX5_init_38 : decode cX5_init 38 = .ok (.putfield 25, 3) := by decide +kernel
theorem dX5_init_41 : decode cX5_init 41 = .ok (.aload_n 0, 1) := by decide +kernel
theorem dX5_init_42 : decode cX5_init 42 = .ok (.bipush 30, 2) := by decide +kernel
theorem dX5_init_44 : decode cX5_init 44 = .ok (.newarray .int, 2) := by decide +kernel
theorem dX5_init_46 : decode cX5_init 46 = .ok (.putfield 28, 3) := by decide +kernel
theorem dX5_init_49 : decode cX5_init 49 = .ok (.aload_n 0, 1) := by decide +kernel
theorem dX5_init_50 : decode cX5_init 50 = .ok (.bipush 8, 2) := by decide +kernel
theorem dX5_init_52 : decode cX5_init 52 = .ok (.newarray .int, 2) := by decide +kernel
theorem dX5_init_54 : decode cX5_init 54 = .ok (.putfield 31, 3) := by decide +kernel
theorem dX5_init_57 : decode cX5_init 57 = .ok (.aload_n 0, 1) := by decide +kernel
theorem dX5_init_58 : decode cX5_init 58 = .ok (.bipush 8, 2) := by decide +kernel
theorem dX5_init_60 : decode cX5_init 60 = .ok (.newarray .int, 2) := by decide +kernel
theorem dX5_init_62 : decode cX5_init 62 = .ok (.putfield 34, 3) := by decide +kernel
theorem dX5_init_65 : decode cX5_init 65 = .ok (.aload_n 0, 1) := by decide +kernel
theorem dX5_init_66 : decode cX5_init 66 = .ok (.iconst 5, 1) := by decide +kernel
theorem dX5_init_67 : decode cX5_init 67 = .ok (.newarray .int, 2) := by decide +kernel
theorem dX5_init_69 : decode cX5_init 69 = .ok (.putfield 37, 3) := by decide +kernel
theorem dX5_init_72 : decode cX5_init 72 = .ok (.aload_n 0, 1) := by decide +kernel
theorem dX5_init_73 : decode cX5_init 73 = .ok (.bipush 16, 2) := by decide +kernel
theorem dX5_init_75 : decode cX5_init 75 = .ok (.newarray .int, 2) := by decide +kernel
theorem dX5_init_77 : decode cX5_init 77 = .ok (.putfield 40, 3) := by decide +kernel
theorem dX5_init_80 : decode cX5_init 80 = .ok (.aload_n 0, 1) := by decide +kernel
theorem dX5_init_81 : decode cX5_init 81 = .ok (.getfield 31, 3) := by decide +kernel
theorem dX5_init_84 : decode cX5_init 84 = .ok (.iconst 2, 1) := by decide +kernel
theorem dX5_init_85 : decode cX5_init 85 = .ok (.invokestatic 43, 3) := by decide +kernel
theorem dX5_init_88 : decode cX5_init 88 = .ok (.aload_n 0, 1) := by decide +kernel
theorem dX5_init_89 : decode cX5_init 89 = .ok (.getfield 34, 3) := by decide +kernel
theorem dX5_init_92 : decode cX5_init 92 = .ok (.iconst 3, 1) := by decide +kernel
theorem dX5_init_93 : decode cX5_init 93 = .ok (.invokestatic 43, 3) := by decide +kernel
theorem dX5_init_96 : decode cX5_init 96 = .ok (.aload_n 0, 1) := by decide +kernel
theorem dX5_init_97 : decode cX5_init 97 = .ok (.getfield 37, 3) := by decide +kernel
theorem dX5_init_100 : decode cX5_init 100 = .ok (.bipush 32, 2) := by decide +kernel
theorem dX5_init_102 : decode cX5_init 102 = .ok (.invokestatic 43, 3) := by decide +kernel
theorem dX5_init_105 : decode cX5_init 105 = .ok (.return_, 1) := by decide +kernel
theorem dX5_takeBlocks_0 : decode cX5_takeBlocks 0 = .ok (.aload_n 0, 1) := by decide +kernel
theorem dX5_takeBlocks_1 : decode cX5_takeBlocks 1 = .ok (.aload_n 1, 1) := by decide +kernel
theorem dX5_takeBlocks_2 : decode cX5_takeBlocks 2 = .ok (.getfield 9, 3) := by decide +kernel
theorem dX5_takeBlocks_5 : decode cX5_takeBlocks 5 = .ok (.putfield 9, 3) := by decide +kernel
theorem dX5_takeBlocks_8 : decode cX5_takeBlocks 8 = .ok (.aload_n 1, 1) := by decide +kernel
theorem dX5_takeBlocks_9 : decode cX5_takeBlocks 9 = .ok (.getfield 15, 3) := by decide +kernel
theorem dX5_takeBlocks_12 : decode cX5_takeBlocks 12 = .ok (.iconst 0, 1) := by decide +kernel
theorem dX5_takeBlocks_13 : decode cX5_takeBlocks 13 = .ok (.aload_n 0, 1) := by decide +kernel
theorem dX5_takeBlocks_14 : decode cX5_takeBlocks 14 = .ok (.getfield 15, 3) := by decide +kernel
theorem dX5_takeBlocks_17 : decode cX5_takeBlocks 17 = .ok (.iconst 0, 1) := by decide +kernel
theorem dX5_takeBlocks_18 : decode cX5_takeBlocks 18 = .ok (.bipush 6, 2) := by decide +kernel
theorem dX5_takeBlocks_20 : decode cX5_takeBlocks 20 = .ok (.invokestatic 49, 3) := by decide +kernel
theorem dX5_takeBlocks_23 : decode cX5_takeBlocks 23 = .ok (.aload_n 1, 1) := by decide +kernel
theorem dX5_takeBlocks_24 : decode cX5_takeBlocks 24 = .ok (.getfield 19, 3) := by decide +kernel
theorem dX5_takeBlocks_27 : decode cX5_takeBlocks 27 = .ok (.iconst 0, 1) := by decide +kernel
theorem dX5_takeBlocks_28 : decode cX5_takeBlocks 28 = .ok (.aload_n 0, 1) := by decide +kernel
theorem dX5_takeBlocks_29 : decode cX5_takeBlocks 29 = .ok (.getfield 19, 3) := by decide +kernel
theorem dX5_takeBlocks_32 : decode cX5_takeBlocks 32 = .ok (.iconst 0, 1) := by decide +kernel
theorem dX5_takeBlocks_33 : decode cX5_takeBlocks 33 = .ok (.bipush 6, 2) := by decide +kernel
theorem dX5_takeBlocks_35 : decode cX5_takeBlocks 35 = .ok (.invokestatic 49, 3) := by decide +kernel
theorem dX5_takeBlocks_38 : decode cX5_takeBlocks 38 = .ok (.aload_n 1, 1) := by decide +kernel
theorem dX5_takeBlocks_39 : decode cX5_takeBlocks 39 = .ok (.getfield 22, 3) := by decide +kernel
theorem dX5_takeBlocks_42 : decode cX5_takeBlocks 42 = .ok (.iconst 0, 1) := by decide +kernel
theorem dX5_takeBlocks_43 : decode cX5_takeBlocks 43 = .ok (.aload_n 0, 1) := by decide +kernel
theorem dX5_takeBlocks_44 : decode cX5_takeBlocks 44 = .ok (.getfield 22, 3) := by decide +kernel
theorem dX5_takeBlocks_47 : decode cX5_takeBlocks 47 = .ok (.iconst 0, 1) := by decide +kernel
theorem dX5_takeBlocks_48 : decode cX5_takeBlocks 48 = .ok (.bipush 6, 2) := by decide +kernel
theorem dX5_takeBlocks_50 : decode cX5_takeBlocks 50 = .ok (.invokestatic 49, 3) := by decide +kernel
theorem dX5_takeBlocks_53 : decode cX5_takeBlocks 53 = .ok (.aload_n 1, 1) := by decide +kernel
theorem dX5_takeBlocks_54 : decode cX5_takeBlocks 54 = .ok (.getfield 25, 3) := by decide +kernel
theorem dX5_takeBlocks_57 : decode cX5_takeBlocks 57 = .ok (.iconst 0, 1) := by decide +kernel
theorem dX5_takeBlocks_58 : decode cX5_takeBlocks 58 = .ok (.aload_n 0, 1) := by decide +kernel
theorem dX5_takeBlocks_59 : decode cX5_takeBlocks 59 = .ok (.getfield 25, 3) := by decide +kernel
theorem dX5_takeBlocks_62 : decode cX5_takeBlocks 62 = .ok (.iconst 0, 1) := by decide +kernel
theorem dX5_takeBlocks_63 : decode cX5_takeBlocks 63 = .ok (.bipush 6, 2) := by decide +kernel
theorem dX5_takeBlocks_65 : decode cX5_takeBlocks 65 = .ok (.invokestatic 49, 3) := by decide +kernel
theorem dX5_takeBlocks_68 : decode cX5_takeBlocks 68 = .ok (.aload_n 1, 1) := by decide +kernel
theorem dX5_takeBlocks_69 : decode cX5_takeBlocks 69 = .ok (.getfield 28, 3) := by decide +kernel
theorem dX5_takeBlocks_72 : decode cX5_takeBlocks 72 = .ok (.iconst 0, 1) := by decide +kernel
theorem dX5_takeBlocks_73 : decode cX5_takeBlocks 73 = .ok (.aload_n 0, 1) := by decide +kernel
theorem dX5_takeBlocks_74 : decode cX5_takeBlocks 74 = .ok (.getfield 28, 3) := by decide +kernel
theorem dX5_takeBlocks_77 : decode cX5_takeBlocks 77 = .ok (.iconst 0, 1) := by decide +kernel
theorem dX5_takeBlocks_78 : decode cX5_takeBlocks 78 = .ok (.bipush 30, 2) := by decide +kernel
theorem dX5_takeBlocks_80 : decode cX5_takeBlocks 80 = .ok (.invokestatic 49, 3) := by decide +kernel
theorem dX5_takeBlocks_83 : decode cX5_takeBlocks 83 = .ok (.return_, 1) := by decide +kernel
theorem dX5_takeAll_0 : decode cX5_takeAll 0 = .ok (.aload_n 0, 1) := by decide +kernel
theorem dX5_takeAll_1 : decode cX5_takeAll 1 = .ok (.aload_n 1, 1) := by decide +kernel
theorem dX5_takeAll_2 : decode cX5_takeAll 2 = .ok (.invokevirtual 55, 3) := by decide +kernel
theorem dX5_takeAll_5 : decode cX5_takeAll 5 = .ok (.aload_n 1, 1) := by decide +kernel
theorem dX5_takeAll_6 : decode cX5_takeAll 6 = .ok (.getfield 31, 3) := by decide +kernel
theorem dX5_takeAll_9 : decode cX5_takeAll 9 = .ok (.iconst 0, 1) := by decide +kernel
theorem dX5_takeAll_10 : decode cX5_takeAll 10 = .ok (.aload_n 0, 1) := by decide +kernel
theorem dX5_takeAll_11 : decode cX5_takeAll 11 = .ok (.getfield 31, 3) := by decide +kernel
theorem dX5_takeAll_14 : decode cX5_takeAll 14 = .ok (.iconst 0, 1) := by decide +kernel
theorem dX5_takeAll_15 : decode cX5_takeAll 15 = .ok (.bipush 8, 2) := by decide +kernel
theorem dX5_takeAll_17 : decode cX5_takeAll 17 = .ok (.invokestatic 49, 3) := by decide +kernel
theorem dX5_takeAll_20 : decode cX5_takeAll 20 = .ok (.aload_n 1, 1) := by decide +kernel
theorem dX5_takeAll_21 : decode cX5_takeAll 21 = .ok (.getfield 34, 3) := by decide +kernel
theorem dX5_takeAll_24 : decode cX5_takeAll 24 = .ok (.iconst 0, 1) := by decide +kernel
theorem dX5_takeAll_25 : decode cX5_takeAll 25 = .ok (.aload_n 0, 1) := by decide +kernel
theorem dX5_takeAll_26 : decode cX5_takeAll 26 = .ok (.getfield 34, 3) := by decide +kernel
theorem dX5_takeAll_29 : decode cX5_takeAll 29 = .ok (.iconst 0, 1) := by decide +kernel
theorem dX5_takeAll_30 : decode cX5_takeAll 30 = .ok (.bipush 8, 2) := by decide +kernel
theorem dX5_takeAll_32 : decode cX5_takeAll 32 = .ok (.invokestatic 49, 3) := by decide +kernel
theorem dX5_takeAll_35 : decode cX5_takeAll 35 = .ok (.aload_n 1, 1) := by decide +kernel
theorem dX5_takeAll_36 : decode cX5_takeAll 36 = .ok (.getfield 37, 3) := by decide +kernel
theorem dX5_takeAll_39 : decode cX5_takeAll 39 = .ok (.iconst 0, 1) := by decide +kernel
theorem dX5_takeAll_40 : decode cX5_takeAll 40 = .ok (.aload_n 0, 1) := by decide +kernel
theorem dX5_takeAll_41 : decode cX5_takeAll 41 = .ok (.getfield 37, 3) := by decide +kernel
theorem dX5_takeAll_44 : decode cX5_takeAll 44 = .ok (.iconst 0, 1) := by decide +kernel
theorem dX5_takeAll_45 : decode cX5_takeAll 45 = .ok (.iconst 5, 1) := by decide +kernel
theorem dX5_takeAll_46 : decode cX5_takeAll 46 = .ok (.invokestatic 49, 3) := by decide +kernel
theorem dX5_takeAll_49 : decode cX5_takeAll 49 = .ok (.aload_n 1, 1) := by decide +kernel
theorem dX5_takeAll_50 : decode cX5_takeAll 50 = .ok (.getfield 40, 3) := by decide +kernel
theorem dX5_takeAll_53 : decode cX5_takeAll 53 = .ok (.iconst 0, 1) := by decide +kernel
theorem dX5_takeAll_54 : decode cX5_takeAll 54 = .ok (.aload_n 0, 1) := by decide +kernel
theorem dX5_takeAll_55 : decode cX5_takeAll 55 = .ok (.getfield 40, 3) := by decide +kernel
theorem dX5_takeAll_58 : decode cX5_takeAll 58 = .ok (.iconst 0, 1) := by decide +kernel
theorem dX5_takeAll_59 : decode cX5_takeAll 59 = .ok (.bipush 16, 2) := by decide +kernel
theorem dX5_takeAll_61 : decode cX5_takeAll 61 = .ok (.invokestatic 49, 3) := by decide +kernel
theorem dX5_takeAll_64 : decode cX5_takeAll 64 = .ok (.return_, 1) := by decide +kernel
theorem dX5_freezeStrikes_0 : decode cX5_freezeStrikes 0 = .ok (.iconst 0, 1) := by decide +kernel
theorem dX5_freezeStrikes_1 : decode cX5_freezeStrikes 1 = .ok (.istore_n 2, 1) := by decide +kernel
theorem dX5_freezeStrikes_2 : decode cX5_freezeStrikes 2 = .ok (.iload_n 2, 1) := by decide +kernel
theorem dX5_freezeStrikes_3 : decode cX5_freezeStrikes 3 = .ok (.iconst 5, 1) := by decide +kernel
theorem dX5_freezeStrikes_4 : decode cX5_freezeStrikes 4 = .ok (.if_icmp .ge 31, 3) := by decide +kernel
theorem dX5_freezeStrikes_7 : decode cX5_freezeStrikes 7 = .ok (.aload_n 0, 1) := by decide +kernel
theorem dX5_freezeStrikes_8 : decode cX5_freezeStrikes 8 = .ok (.getfield 37, 3) := by decide +kernel
theorem dX5_freezeStrikes_11 : decode cX5_freezeStrikes 11 = .ok (.iload_n 2, 1) := by decide +kernel
theorem dX5_freezeStrikes_12 : decode cX5_freezeStrikes 12 = .ok (.iload_n 1, 1) := by decide +kernel
theorem dX5_freezeStrikes_13 : decode cX5_freezeStrikes 13 = .ok (.aload_n 0, 1) := by decide +kernel
theorem dX5_freezeStrikes_14 : decode cX5_freezeStrikes 14 = .ok (.getfield 37, 3) := by decide +kernel
theorem dX5_freezeStrikes_17 : decode cX5_freezeStrikes 17 = .ok (.iload_n 2, 1) := by decide +kernel
theorem dX5_freezeStrikes_18 : decode cX5_freezeStrikes 18 = .ok (.iaload, 1) := by decide +kernel
theorem dX5_freezeStrikes_19 : decode cX5_freezeStrikes 19 = .ok (.if_icmp .ge 8, 3) := by decide +kernel
theorem dX5_freezeStrikes_22 : decode cX5_freezeStrikes 22 = .ok (.bipush 32, 2) := by decide +kernel
theorem dX5_freezeStrikes_24 : decode cX5_freezeStrikes 24 = .ok (.goto 4, 3) := by decide +kernel
theorem dX5_freezeStrikes_27 : decode cX5_freezeStrikes 27 = .ok (.iconst 0, 1) := by decide +kernel
theorem dX5_freezeStrikes_28 : decode cX5_freezeStrikes 28 = .ok (.iastore, 1) := by decide +kernel
theorem dX5_freezeStrikes_29 : decode cX5_freezeStrikes 29 = .ok (.iinc 2 1, 3) := by decide +kernel
theorem dX5_freezeStrikes_32 : decode cX5_freezeStrikes 32 = .ok (.goto (-30), 3) := by decide +kernel
theorem dX5_freezeStrikes_35 : decode cX5_freezeStrikes 35 = .ok (.return_, 1) := by decide +kernel
theorem dX5_changeRound_0 : decode cX5_changeRound 0 = .ok (.iload_n 1, 1) := by decide +kernel
theorem dX5_changeRound_1 : decode cX5_changeRound 1 = .ok (.iconst 5, 1) := by decide +kernel
theorem dX5_changeRound_2 : decode cX5_changeRound 2 = .ok (.imul, 1) := by decide +kernel
theorem dX5_changeRound_3 : decode cX5_changeRound 3 = .ok (.iload_n 2, 1) := by decide +kernel
theorem dX5_changeRound_4 : decode cX5_changeRound 4 = .ok (.iadd, 1) := by decide +kernel
theorem dX5_changeRound_5 : decode cX5_changeRound 5 = .ok (.istore_n 3, 1) := by decide +kernel
theorem dX5_changeRound_6 : decode cX5_changeRound 6 = .ok (.iload_n 3, 1) := by decide +kernel
theorem dX5_changeRound_7 : decode cX5_changeRound 7 = .ok (.ifCond .lt 11, 3) := by decide +kernel
theorem dX5_changeRound_10 : decode cX5_changeRound 10 = .ok (.iload_n 3, 1) := by decide +kernel
theorem dX5_changeRound_11 : decode cX5_changeRound 11 = .ok (.iconst 1, 1) := by decide +kernel
theorem dX5_changeRound_12 : decode cX5_changeRound 12 = .ok (.iadd, 1) := by decide +kernel
theorem dX5_changeRound_13 : decode cX5_changeRound 13 = .ok (.bipush 30, 2) := by decide +kernel
theorem dX5_changeRound_15 : decode cX5_changeRound 15 = .ok (.if_icmp .lt 4, 3) := by decide +kernel
theorem dX5_changeRound_18 : decode cX5_changeRound 18 = .ok (.return_, 1) := by decide +kernel
theorem dX5_changeRound_19 : decode cX5_changeRound 19 = .ok (.aload_n 0, 1) := by decide +kernel
theorem dX5_changeRound_20 : decode cX5_changeRound 20 = .ok (.getfield 28, 3) := by decide +kernel
theorem dX5_changeRound_23 : decode cX5_changeRound 23 = .ok (.iload_n 3, 1) := by decide +kernel
theorem dX5_changeRound_24 : decode cX5_changeRound 24 = .ok (.iaload, 1) := by decide +kernel
theorem dX5_changeRound_25 : decode cX5_changeRound 25 = .ok (.istore 4, 2) := by decide +kernel
theorem dX5_changeRound_27 : decode cX5_changeRound 27 = .ok (.aload_n 0, 1) := by decide +kernel
theorem dX5_changeRound_28 : decode cX5_changeRound 28 = .ok (.getfield 28, 3) := by decide +kernel
theorem dX5_changeRound_31 : decode cX5_changeRound 31 = .ok (.iload_n 3, 1) := by decide +kernel
theorem dX5_changeRound_32 : decode cX5_changeRound 32 = .ok (.aload_n 0, 1) := by decide +kernel
theorem dX5_changeRound_33 : decode cX5_changeRound 33 = .ok (.getfield 28, 3) := by decide +kernel
theorem dX5_changeRound_36 : decode cX5_changeRound 36 = .ok (.iload_n 3, 1) := by decide +kernel
theorem dX5_changeRound_37 : decode cX5_changeRound 37 = .ok (.iconst 1, 1) := by decide +kernel
theorem dX5_changeRound_38 : decode cX5_changeRound 38 = .ok (.iadd, 1) := by decide +kernel
theorem dX5_changeRound_39 : decode cX5_changeRound 39 = .ok (.iaload, 1) := by decide +kernel
theorem dX5_changeRound_40 : decode cX5_changeRound 40 = .ok (.iastore, 1) := by decide +kernel
theorem dX5_changeRound_41 : decode cX5_changeRound 41 = .ok (.aload_n 0, 1) := by decide +kernel
theorem dX5_changeRound_42 : decode cX5_changeRound 42 = .ok (.getfield 28, 3) := by decide +kernel
theorem dX5_changeRound_45 : decode cX5_changeRound 45 = .ok (.iload_n 3, 1) := by decide +kernel
theorem dX5_changeRound_46 : decode cX5_changeRound 46 = .ok (.iconst 1, 1) := by decide +kernel
theorem dX5_changeRound_47 : decode cX5_changeRound 47 = .ok (.iadd, 1) := by decide +kernel
theorem dX5_changeRound_48 : decode cX5_changeRound 48 = .ok (.iload 4, 2) := by decide +kernel
theorem dX5_changeRound_50 : decode cX5_changeRound 50 = .ok (.iastore, 1) := by decide +kernel
theorem dX5_changeRound_51 : decode cX5_changeRound 51 = .ok (.return_, 1) := by decide +kernel
theorem dX5_hasDigit_0 : decode cX5_hasDigit 0 = .ok (.aload_n 0, 1) := by decide +kernel
theorem dX5_hasDigit_1 : decode cX5_hasDigit 1 = .ok (.getfield 19, 3) := by decide +kernel
theorem dX5_hasDigit_4 : decode cX5_hasDigit 4 = .ok (.iload_n 1, 1) := by decide +kernel
theorem dX5_hasDigit_5 : decode cX5_hasDigit 5 = .ok (.iaload, 1) := by decide +kernel
theorem dX5_hasDigit_6 : decode cX5_hasDigit 6 = .ok (.iconst 3, 1) := by decide +kernel
theorem dX5_hasDigit_7 : decode cX5_hasDigit 7 = .ok (.if_icmp .eq 13, 3) := by decide +kernel
theorem dX5_hasDigit_10 : decode cX5_hasDigit 10 = .ok (.aload_n 0, 1) := by decide +kernel
theorem dX5_hasDigit_11 : decode cX5_hasDigit 11 = .ok (.getfield 19, 3) := by decide +kernel
theorem dX5_hasDigit_14 : decode cX5_hasDigit 14 = .ok (.iload_n 1, 1) := by decide +kernel
theorem dX5_hasDigit_15 : decode cX5_hasDigit 15 = .ok (.iaload, 1) := by decide +kernel
theorem dX5_hasDigit_16 : decode cX5_hasDigit 16 = .ok (.iconst 4, 1) := by decide +kernel
theorem dX5_hasDigit_17 : decode cX5_hasDigit 17 = .ok (.if_icmp .ne 7, 3) := by decide +kernel
theorem dX5_hasDigit_20 : decode cX5_hasDigit 20 = .ok (.iconst 1, 1) := by decide +kernel
theorem dX5_hasDigit_21 : decode cX5_hasDigit 21 = .ok (.goto 4, 3) := by decide +kernel
theorem dX5_hasDigit_24 : decode cX5_hasDigit 24 = .ok (.iconst 0, 1) := by decide +kernel
theorem dX5_hasDigit_25 : decode cX5_hasDigit 25 = .ok (.ireturn, 1) := by decide +kernel
theorem dX5_nameAt_0 : decode cX5_nameAt 0 = .ok (.iload_n 2, 1) := by decide +kernel
theorem dX5_nameAt_1 : decode cX5_nameAt 1 = .ok (.ifCond .lt 26, 3) := by decide +kernel
theorem dX5_nameAt_4 : decode cX5_nameAt 4 = .ok (.iload_n 2, 1) := by decide +kernel
theorem dX5_nameAt_5 : decode cX5_nameAt 5 = .ok (.aload_n 0, 1) := by decide +kernel
theorem dX5_nameAt_6 : decode cX5_nameAt 6 = .ok (.getfield 25, 3) := by decide +kernel
theorem dX5_nameAt_9 : decode cX5_nameAt 9 = .ok (.iload_n 1, 1) := by decide +kernel
theorem dX5_nameAt_10 : decode cX5_nameAt 10 = .ok (.iaload, 1) := by decide +kernel
theorem dX5_nameAt_11 : decode cX5_nameAt 11 = .ok (.if_icmp .ge 16, 3) := by decide +kernel
theorem dX5_nameAt_14 : decode cX5_nameAt 14 = .ok (.aload_n 0, 1) := by decide +kernel
theorem dX5_nameAt_15 : decode cX5_nameAt 15 = .ok (.getfield 28, 3) := by decide +kernel
theorem dX5_nameAt_18 : decode cX5_nameAt 18 = .ok (.iload_n 1, 1) := by decide +kernel
theorem dX5_nameAt_19 : decode cX5_nameAt 19 = .ok (.iconst 5, 1) := by decide +kernel
theorem dX5_nameAt_20 : decode cX5_nameAt 20 = .ok (.imul, 1) := by decide +kernel
theorem dX5_nameAt_21 : decode cX5_nameAt 21 = .ok (.iload_n 2, 1) := by decide +kernel
theorem dX5_nameAt_22 : decode cX5_nameAt 22 = .ok (.iadd, 1) := by decide +kernel
theorem dX5_nameAt_23 : decode cX5_nameAt 23 = .ok (.iaload, 1) := by decide +kernel
theorem dX5_nameAt_24 : decode cX5_nameAt 24 = .ok (.goto 4, 3) := by decide +kernel
theorem dX5_nameAt_27 : decode cX5_nameAt 27 = .ok (.iconst (-1), 1) := by decide +kernel
theorem dX5_nameAt_28 : decode cX5_nameAt 28 = .ok (.ireturn, 1) := by decide +kernel
theorem dX5_place_0 : decode cX5_place 0 = .ok (.iload_n 1, 1) := by decide +kernel
theorem dX5_place_1 : decode cX5_place 1 = .ok (.iconst 5, 1) := by decide +kernel
theorem dX5_place_2 : decode cX5_place 2 = .ok (.imul, 1) := by decide +kernel
theorem dX5_place_3 : decode cX5_place 3 = .ok (.istore_n 3, 1) := by decide +kernel
theorem dX5_place_4 : decode cX5_place 4 = .ok (.iconst 0, 1) := by decide +kernel
theorem dX5_place_5 : decode cX5_place 5 = .ok (.istore 4, 2) := by decide +kernel
theorem dX5_place_7 : decode cX5_place 7 = .ok (.iload 4, 2) := by decide +kernel
theorem dX5_place_9 : decode cX5_place 9 = .ok (.aload_n 0, 1) := by decide +kernel
theorem dX5_place_10 : decode cX5_place 10 = .ok (.getfield 25, 3) := by decide +kernel
theorem dX5_place_13 : decode cX5_place 13 = .ok (.iload_n 1, 1) := by decide +kernel
theorem dX5_place_14 : decode cX5_place 14 = .ok (.iaload, 1) := by decide +kernel
theorem dX5_place_15 : decode cX5_place 15 = .ok (.if_icmp .ge 25, 3) := by decide +kernel
theorem dX5_place_18 : decode cX5_place 18 = .ok (.aload_n 0, 1) := by decide +kernel
theorem dX5_place_19 : decode cX5_place 19 = .ok (.getfield 28, 3) := by decide +kernel
theorem dX5_place_22 : decode cX5_place 22 = .ok (.iload_n 3, 1) := by decide +kernel
theorem dX5_place_23 : decode cX5_place 23 = .ok (.iload 4, 2) := by decide +kernel
theorem dX5_place_25 : decode cX5_place 25 = .ok (.iadd, 1) := by decide +kernel
theorem dX5_place_26 : decode cX5_place 26 = .ok (.iaload, 1) := by decide +kernel
theorem dX5_place_27 : decode cX5_place 27 = .ok (.iload_n 2, 1) := by decide +kernel
theorem dX5_place_28 : decode cX5_place 28 = .ok (.if_icmp .ne 6, 3) := by decide +kernel
theorem dX5_place_31 : decode cX5_place 31 = .ok (.iload 4, 2) := by decide +kernel
theorem dX5_place_33 : decode cX5_place 33 = .ok (.ireturn, 1) := by decide +kernel
theorem dX5_place_34 : decode cX5_place 34 = .ok (.iinc 4 1, 3) := by decide +kernel
theorem dX5_place_37 : decode cX5_place 37 = .ok (.goto (-30), 3) := by decide +kernel
theorem dX5_place_40 : decode cX5_place 40 = .ok (.iconst (-1), 1) := by decide +kernel
theorem dX5_place_41 : decode cX5_place 41 = .ok (.ireturn, 1) := by decide +kernel
theorem dX5_allBlocks_0 : decode cX5_allBlocks 0 = .ok (.iconst 1, 1) := by decide +kernel
theorem dX5_allBlocks_1 : decode cX5_allBlocks 1 = .ok (.aload_n 0, 1) := by decide +kernel
theorem dX5_allBlocks_2 : decode cX5_allBlocks 2 = .ok (.getfield 9, 3) := by decide +kernel
theorem dX5_allBlocks_5 : decode cX5_allBlocks 5 = .ok (.ishl, 1) := by decide +kernel
theorem dX5_allBlocks_6 : decode cX5_allBlocks 6 = .ok (.iconst 1, 1) := by decide +kernel
theorem dX5_allBlocks_7 : decode cX5_allBlocks 7 = .ok (.isub, 1) := by decide +kernel
theorem dX5_allBlocks_8 : decode cX5_allBlocks 8 = .ok (.ireturn, 1) := by decide +kernel
theorem dX5_allMembers_0 : decode cX5_allMembers 0 = .ok (.aload_n 0, 1) := by decide +kernel
theorem dX5_allMembers_1 : decode cX5_allMembers 1 = .ok (.aload_n 0, 1) := by decide +kernel
theorem dX5_allMembers_2 : decode cX5_allMembers 2 = .ok (.invokevirtual 59, 3) := by decide +kernel
theorem dX5_allMembers_5 : decode cX5_allMembers 5 = .ok (.invokevirtual 63, 3) := by decide +kernel
theorem dX5_allMembers_8 : decode cX5_allMembers 8 = .ok (.ireturn, 1) := by decide +kernel
theorem dX5_membersOf_0 : decode cX5_membersOf 0 = .ok (.iconst 0, 1) := by decide +kernel
theorem dX5_membersOf_1 : decode cX5_membersOf 1 = .ok (.istore_n 2, 1) := by decide +kernel
theorem dX5_membersOf_2 : decode cX5_membersOf 2 = .ok (.iconst 0, 1) := by decide +kernel
theorem dX5_membersOf_3 : decode cX5_membersOf 3 = .ok (.istore_n 3, 1) := by decide +kernel
theorem dX5_membersOf_4 : decode cX5_membersOf 4 = .ok (.iload_n 3, 1) := by decide +kernel
theorem dX5_membersOf_5 : decode cX5_membersOf 5 = .ok (.aload_n 0, 1) := by decide +kernel
theorem dX5_membersOf_6 : decode cX5_membersOf 6 = .ok (.getfield 9, 3) := by decide +kernel
theorem dX5_membersOf_9 : decode cX5_membersOf 9 = .ok (.if_icmp .ge 27, 3) := by decide +kernel
theorem dX5_membersOf_12 : decode cX5_membersOf 12 = .ok (.iload_n 1, 1) := by decide +kernel
theorem dX5_membersOf_13 : decode cX5_membersOf 13 = .ok (.iload_n 3, 1) := by decide +kernel
theorem dX5_membersOf_14 : decode cX5_membersOf 14 = .ok (.ishr, 1) := by decide +kernel
theorem dX5_membersOf_15 : decode cX5_membersOf 15 = .ok (.iconst 1, 1) := by decide +kernel
theorem dX5_membersOf_16 : decode cX5_membersOf 16 = .ok (.iand, 1) := by decide +kernel
theorem dX5_membersOf_17 : decode cX5_membersOf 17 = .ok (.iconst 1, 1) := by decide +kernel
theorem dX5_membersOf_18 : decode cX5_membersOf 18 = .ok (.if_icmp .ne 12, 3) := by decide +kernel
theorem dX5_membersOf_21 : decode cX5_membersOf 21 = .ok (.iload_n 2, 1) := by decide +kernel
theorem dX5_membersOf_22 : decode cX5_membersOf 22 = .ok (.aload_n 0, 1) := by decide +kernel
theorem dX5_membersOf_23 : decode cX5_membersOf 23 = .ok (.getfield 15, 3) := by decide +kernel
theorem dX5_membersOf_26 : decode cX5_membersOf 26 = .ok (.iload_n 3, 1) := by decide +kernel
theorem dX5_membersOf_27 : decode cX5_membersOf 27 = .ok (.iaload, 1) := by decide +kernel
theorem dX5_membersOf_28 : decode cX5_membersOf 28 = .ok (.iadd, 1) := by decide +kernel
theorem dX5_membersOf_29 : decode cX5_membersOf 29 = .ok (.istore_n 2, 1) := by decide +kernel
theorem dX5_membersOf_30 : decode cX5_membersOf 30 = .ok (.iinc 3 1, 3) := by decide +kernel
theorem dX5_membersOf_33 : decode cX5_membersOf 33 = .ok (.goto (-29), 3) := by decide +kernel
theorem dX5_membersOf_36 : decode cX5_membersOf 36 = .ok (.iload_n 2, 1) := by decide +kernel
theorem dX5_membersOf_37 : decode cX5_membersOf 37 = .ok (.ireturn, 1) := by decide +kernel
theorem dX5_bearers_0 : decode cX5_bearers 0 = .ok (.iconst 0, 1) := by decide +kernel
theorem dX5_bearers_1 : decode cX5_bearers 1 = .ok (.istore_n 2, 1) := by decide +kernel
theorem dX5_bearers_2 : decode cX5_bearers 2 = .ok (.iconst 0, 1) := by decide +kernel
theorem dX5_bearers_3 : decode cX5_bearers 3 = .ok (.istore_n 3, 1) := by decide +kernel
theorem dX5_bearers_4 : decode cX5_bearers 4 = .ok (.iload_n 3, 1) := by decide +kernel
theorem dX5_bearers_5 : decode cX5_bearers 5 = .ok (.aload_n 0, 1) := by decide +kernel
theorem dX5_bearers_6 : decode cX5_bearers 6 = .ok (.getfield 9, 3) := by decide +kernel
theorem dX5_bearers_9 : decode cX5_bearers 9 = .ok (.if_icmp .ge 25, 3) := by decide +kernel
theorem dX5_bearers_12 : decode cX5_bearers 12 = .ok (.aload_n 0, 1) := by decide +kernel
theorem dX5_bearers_13 : decode cX5_bearers 13 = .ok (.iload_n 3, 1) := by decide +kernel
theorem dX5_bearers_14 : decode cX5_bearers 14 = .ok (.iload_n 1, 1) := by decide +kernel
theorem dX5_bearers_15 : decode cX5_bearers 15 = .ok (.invokevirtual 67, 3) := by decide +kernel
theorem dX5_bearers_18 : decode cX5_bearers 18 = .ok (.iconst (-1), 1) := by decide +kernel
theorem dX5_bearers_19 : decode cX5_bearers 19 = .ok (.if_icmp .eq 9, 3) := by decide +kernel
theorem dX5_bearers_22 : decode cX5_bearers 22 = .ok (.iload_n 2, 1) := by decide +kernel
theorem dX5_bearers_23 : decode cX5_bearers 23 = .ok (.iconst 1, 1) := by decide +kernel
theorem dX5_bearers_24 : decode cX5_bearers 24 = .ok (.iload_n 3, 1) := by decide +kernel
theorem dX5_bearers_25 : decode cX5_bearers 25 = .ok (.ishl, 1) := by decide +kernel
theorem dX5_bearers_26 : decode cX5_bearers 26 = .ok (.ior, 1) := by decide +kernel
theorem dX5_bearers_27 : decode cX5_bearers 27 = .ok (.istore_n 2, 1) := by decide +kernel
theorem dX5_bearers_28 : decode cX5_bearers 28 = .ok (.iinc 3 1, 3) := by decide +kernel
theorem dX5_bearers_31 : decode cX5_bearers 31 = .ok (.goto (-27), 3) := by decide +kernel
theorem dX5_bearers_34 : decode cX5_bearers 34 = .ok (.iload_n 2, 1) := by decide +kernel
theorem dX5_bearers_35 : decode cX5_bearers 35 = .ok (.ireturn, 1) := by decide +kernel
theorem dX5_preferring_0 : decode cX5_preferring 0 = .ok (.iconst 0, 1) := by decide +kernel
theorem dX5_preferring_1 : decode cX5_preferring 1 = .ok (.istore_n 3, 1) := by decide +kernel
theorem dX5_preferring_2 : decode cX5_preferring 2 = .ok (.iconst 0, 1) := by decide +kernel
theorem dX5_preferring_3 : decode cX5_preferring 3 = .ok (.istore 4, 2) := by decide +kernel
theorem dX5_preferring_5 : decode cX5_preferring 5 = .ok (.iload 4, 2) := by decide +kernel
theorem dX5_preferring_7 : decode cX5_preferring 7 = .ok (.aload_n 0, 1) := by decide +kernel
theorem dX5_preferring_8 : decode cX5_preferring 8 = .ok (.getfield 9, 3) := by decide +kernel
theorem dX5_preferring_11 : decode cX5_preferring 11 = .ok (.if_icmp .ge 56, 3) := by decide +kernel
theorem dX5_preferring_14 : decode cX5_preferring 14 = .ok (.aload_n 0, 1) := by decide +kernel
theorem dX5_preferring_15 : decode cX5_preferring 15 = .ok (.iload 4, 2) := by decide +kernel
theorem dX5_preferring_17 : decode cX5_preferring 17 = .ok (.iload_n 1, 1) := by decide +kernel
theorem dX5_preferring_18 : decode cX5_preferring 18 = .ok (.invokevirtual 67, 3) := by decide +kernel
theorem dX5_preferring_21 : decode cX5_preferring 21 = .ok (.istore 5, 2) := by decide +kernel
theorem dX5_preferring_23 : decode cX5_preferring 23 = .ok (.aload_n 0, 1) := by decide +kernel
theorem dX5_preferring_24 : decode cX5_preferring 24 = .ok (.iload 4, 2) := by decide +kernel
theorem dX5_preferring_26 : decode cX5_preferring 26 = .ok (.iload_n 2, 1) := by decide +kernel
theorem dX5_preferring_27 : decode cX5_preferring 27 = .ok (.invokevirtual 67, 3) := by decide +kernel
theorem dX5_preferring_30 : decode cX5_preferring 30 = .ok (.istore 6, 2) := by decide +kernel
theorem dX5_preferring_32 : decode cX5_preferring 32 = .ok (.iload 5, 2) := by decide +kernel
theorem dX5_preferring_34 : decode cX5_preferring 34 = .ok (.iconst (-1), 1) := by decide +kernel
theorem dX5_preferring_35 : decode cX5_preferring 35 = .ok (.if_icmp .eq 26, 3) := by decide +kernel
theorem dX5_preferring_38 : decode cX5_preferring 38 = .ok (.iload 6, 2) := by decide +kernel
theorem dX5_preferring_40 : decode cX5_preferring 40 = .ok (.iconst (-1), 1) := by decide +kernel
theorem dX5_preferring_41 : decode cX5_preferring 41 = .ok (.if_icmp .eq 10, 3) := by decide +kernel
theorem dX5_preferring_44 : decode cX5_preferring 44 = .ok (.iload 5, 2) := by decide +kernel
theorem dX5_preferring_46 : decode cX5_preferring 46 = .ok (.iload 6, 2) := by decide +kernel
theorem dX5_preferring_48 : decode cX5_preferring 48 = .ok (.if_icmp .ge 13, 3) := by decide +kernel
theorem dX5_preferring_51 : decode cX5_preferring 51 = .ok (.iload_n 3, 1) := by decide +kernel
theorem dX5_preferring_52 : decode cX5_preferring 52 = .ok (.aload_n 0, 1) := by decide +kernel
theorem dX5_preferring_53 : decode cX5_preferring 53 = .ok (.getfield 15, 3) := by decide +kernel
theorem dX5_preferring_56 : decode cX5_preferring 56 = .ok (.iload 4, 2) := by decide +kernel
theorem dX5_preferring_58 : decode cX5_preferring 58 = .ok (.iaload, 1) := by decide +kernel
theorem dX5_preferring_59 : decode cX5_preferring 59 = .ok (.iadd, 1) := by decide +kernel
theorem dX5_preferring_60 : decode cX5_preferring 60 = .ok (.istore_n 3, 1) := by decide +kernel
theorem dX5_preferring_61 : decode cX5_preferring 61 = .ok (.iinc 4 1, 3) := by decide +kernel
theorem dX5_preferring_64 : decode cX5_preferring 64 = .ok (.goto (-59), 3) := by decide +kernel
theorem dX5_preferring_67 : decode cX5_preferring 67 = .ok (.iload_n 3, 1) := by decide +kernel
theorem dX5_preferring_68 : decode cX5_preferring 68 = .ok (.ireturn, 1) := by decide +kernel
theorem dX5_needed_0 : decode cX5_needed 0 = .ok (.iload_n 1, 1) := by decide +kernel
theorem dX5_needed_1 : decode cX5_needed 1 = .ok (.invokestatic 71, 3) := by decide +kernel
theorem dX5_needed_4 : decode cX5_needed 4 = .ok (.ifCond .eq 16, 3) := by decide +kernel
theorem dX5_needed_7 : decode cX5_needed 7 = .ok (.iconst 1, 1) := by decide +kernel
theorem dX5_needed_8 : decode cX5_needed 8 = .ok (.aload_n 0, 1) := by decide +kernel
theorem dX5_needed_9 : decode cX5_needed 9 = .ok (.getfield 34, 3) := by decide +kernel
theorem dX5_needed_12 : decode cX5_needed 12 = .ok (.iload_n 1, 1) := by decide +kernel
theorem dX5_needed_13 : decode cX5_needed 13 = .ok (.iaload, 1) := by decide +kernel
theorem dX5_needed_14 : decode cX5_needed 14 = .ok (.invokestatic 75, 3) := by decide +kernel
theorem dX5_needed_17 : decode cX5_needed 17 = .ok (.goto 4, 3) := by decide +kernel
theorem dX5_needed_20 : decode cX5_needed 20 = .ok (.iconst 1, 1) := by decide +kernel
theorem dX5_needed_21 : decode cX5_needed 21 = .ok (.istore_n 2, 1) := by decide +kernel
theorem dX5_needed_22 : decode cX5_needed 22 = .ok (.iload_n 1, 1) := by decide +kernel
theorem dX5_needed_23 : decode cX5_needed 23 = .ok (.invokestatic 71, 3) := by decide +kernel
theorem dX5_needed_26 : decode cX5_needed 26 = .ok (.ifCond .eq 12, 3) := by decide +kernel
theorem dX5_needed_29 : decode cX5_needed 29 = .ok (.aload_n 0, 1) := by decide +kernel
theorem dX5_needed_30 : decode cX5_needed 30 = .ok (.getfield 31, 3) := by decide +kernel
theorem dX5_needed_33 : decode cX5_needed 33 = .ok (.iload_n 1, 1) := by decide +kernel
theorem dX5_needed_34 : decode cX5_needed 34 = .ok (.iaload, 1) := by decide +kernel
theorem dX5_needed_35 : decode cX5_needed 35 = .ok (.goto 4, 3) := by decide +kernel
theorem dX5_needed_38 : decode cX5_needed 38 = .ok (.iconst 1, 1) := by decide +kernel
theorem dX5_needed_39 : decode cX5_needed 39 = .ok (.istore_n 3, 1) := by decide +kernel
theorem dX5_needed_40 : decode cX5_needed 40 = .ok (.aload_n 0, 1) := by decide +kernel
theorem dX5_needed_41 : decode cX5_needed 41 = .ok (.invokevirtual 80, 3) := by decide +kernel
theorem dX5_needed_44 : decode cX5_needed 44 = .ok (.iload_n 3, 1) := by decide +kernel
theorem dX5_needed_45 : decode cX5_needed 45 = .ok (.imul, 1) := by decide +kernel
theorem dX5_needed_46 : decode cX5_needed 46 = .ok (.iload_n 2, 1) := by decide +kernel
theorem dX5_needed_47 : decode cX5_needed 47 = .ok (.iadd, 1) := by decide +kernel
theorem dX5_needed_48 : decode cX5_needed 48 = .ok (.iconst 1, 1) := by decide +kernel
theorem dX5_needed_49 : decode cX5_needed 49 = .ok (.isub, 1) := by decide +kernel
theorem dX5_needed_50 : decode cX5_needed 50 = .ok (.iload_n 2, 1) := by decide +kernel
theorem dX5_needed_51 : decode cX5_needed 51 = .ok (.idiv, 1) := by decide +kernel
theorem dX5_needed_52 : decode cX5_needed 52 = .ok (.ireturn, 1) := by decide +kernel
theorem dX5_namesAlive_0 : decode cX5_namesAlive 0 = .ok (.iconst 0, 1) := by decide +kernel
theorem dX5_namesAlive_1 : decode cX5_namesAlive 1 = .ok (.istore_n 2, 1) := by decide +kernel
theorem dX5_namesAlive_2 : decode cX5_namesAlive 2 = .ok (.iconst 0, 1) := by decide +kernel
theorem dX5_namesAlive_3 : decode cX5_namesAlive 3 = .ok (.istore_n 3, 1) := by decide +kernel
theorem dX5_namesAlive_4 : decode cX5_namesAlive 4 = .ok (.iload_n 3, 1) := by decide +kernel
theorem dX5_namesAlive_5 : decode cX5_namesAlive 5 = .ok (.iconst 5, 1) := by decide +kernel
theorem dX5_namesAlive_6 : decode cX5_namesAlive 6 = .ok (.if_icmp .ge 25, 3) := by decide +kernel
theorem dX5_namesAlive_9 : decode cX5_namesAlive 9 = .ok (.iload_n 1, 1) := by decide +kernel
theorem dX5_namesAlive_10 : decode cX5_namesAlive 10 = .ok (.aload_n 0, 1) := by decide +kernel
theorem dX5_namesAlive_11 : decode cX5_namesAlive 11 = .ok (.getfield 37, 3) := by decide +kernel
theorem dX5_namesAlive_14 : decode cX5_namesAlive 14 = .ok (.iload_n 3, 1) := by decide +kernel
theorem dX5_namesAlive_15 : decode cX5_namesAlive 15 = .ok (.iaload, 1) := by decide +kernel
theorem dX5_namesAlive_16 : decode cX5_namesAlive 16 = .ok (.if_icmp .ge 9, 3) := by decide +kernel
theorem dX5_namesAlive_19 : decode cX5_namesAlive 19 = .ok (.iload_n 2, 1) := by decide +kernel
theorem dX5_namesAlive_20 : decode cX5_namesAlive 20 = .ok (.iconst 1, 1) := by decide +kernel
theorem dX5_namesAlive_21 : decode cX5_namesAlive 21 = .ok (.iload_n 3, 1) := by decide +kernel
theorem dX5_namesAlive_22 : decode cX5_namesAlive 22 = .ok (.ishl, 1) := by decide +kernel
theorem dX5_namesAlive_23 : decode cX5_namesAlive 23 = .ok (.ior, 1) := by decide +kernel
theorem dX5_namesAlive_24 : decode cX5_namesAlive 24 = .ok (.istore_n 2, 1) := by decide +kernel
theorem dX5_namesAlive_25 : decode cX5_namesAlive 25 = .ok (.iinc 3 1, 3) := by decide +kernel
theorem dX5_namesAlive_28 : decode cX5_namesAlive 28 = .ok (.goto (-24), 3) := by decide +kernel
theorem dX5_namesAlive_31 : decode cX5_namesAlive 31 = .ok (.iload_n 2, 1) := by decide +kernel
theorem dX5_namesAlive_32 : decode cX5_namesAlive 32 = .ok (.ireturn, 1) := by decide +kernel
theorem dX5_firstAlive_0 : decode cX5_firstAlive 0 = .ok (.iload_n 1, 1) := by decide +kernel
theorem dX5_firstAlive_1 : decode cX5_firstAlive 1 = .ok (.iconst 5, 1) := by decide +kernel
theorem dX5_firstAlive_2 : decode cX5_firstAlive 2 = .ok (.imul, 1) := by decide +kernel
theorem dX5_firstAlive_3 : decode cX5_firstAlive 3 = .ok (.istore 4, 2) := by decide +kernel
theorem dX5_firstAlive_5 : decode cX5_firstAlive 5 = .ok (.iload_n 2, 1) := by decide +kernel
theorem dX5_firstAlive_6 : decode cX5_firstAlive 6 = .ok (.istore 5, 2) := by decide +kernel
theorem dX5_firstAlive_8 : decode cX5_firstAlive 8 = .ok (.iload 5, 2) := by decide +kernel
theorem dX5_firstAlive_10 : decode cX5_firstAlive 10 = .ok (.aload_n 0, 1) := by decide +kernel
theorem dX5_firstAlive_11 : decode cX5_firstAlive 11 = .ok (.getfield 25, 3) := by decide +kernel
theorem dX5_firstAlive_14 : decode cX5_firstAlive 14 = .ok (.iload_n 1, 1) := by decide +kernel
theorem dX5_firstAlive_15 : decode cX5_firstAlive 15 = .ok (.iaload, 1) := by decide +kernel
theorem dX5_firstAlive_16 : decode cX5_firstAlive 16 = .ok (.if_icmp .ge 38, 3) := by decide +kernel
theorem dX5_firstAlive_19 : decode cX5_firstAlive 19 = .ok (.iload_n 3, 1) := by decide +kernel
theorem dX5_firstAlive_20 : decode cX5_firstAlive 20 = .ok (.aload_n 0, 1) := by decide +kernel
theorem dX5_firstAlive_21 : decode cX5_firstAlive 21 = .ok (.getfield 28, 3) := by decide +kernel
theorem dX5_firstAlive_24 : decode cX5_firstAlive 24 = .ok (.iload 4, 2) := by decide +kernel
theorem dX5_firstAlive_26 : decode cX5_firstAlive 26 = .ok (.iload 5, 2) := by decide +kernel
theorem dX5_firstAlive_28 : decode cX5_firstAlive 28 = .ok (.iadd, 1) := by decide +kernel
theorem dX5_firstAlive_29 : decode cX5_firstAlive 29 = .ok (.iaload, 1) := by decide +kernel
theorem dX5_firstAlive_30 : decode cX5_firstAlive 30 = .ok (.ishr, 1) := by decide +kernel
theorem dX5_firstAlive_31 : decode cX5_firstAlive 31 = .ok (.iconst 1, 1) := by decide +kernel
theorem dX5_firstAlive_32 : decode cX5_firstAlive 32 = .ok (.iand, 1) := by decide +kernel
theorem dX5_firstAlive_33 : decode cX5_firstAlive 33 = .ok (.iconst 1, 1) := by decide +kernel
theorem dX5_firstAlive_34 : decode cX5_firstAlive 34 = .ok (.if_icmp .ne 14, 3) := by decide +kernel
theorem dX5_firstAlive_37 : decode cX5_firstAlive 37 = .ok (.aload_n 0, 1) := by decide +kernel
theorem dX5_firstAlive_38 : decode cX5_firstAlive 38 = .ok (.getfield 28, 3) := by decide +kernel
theorem dX5_firstAlive_41 : decode cX5_firstAlive 41 = .ok (.iload 4, 2) := by decide +kernel
theorem dX5_firstAlive_43 : decode cX5_firstAlive 43 = .ok (.iload 5, 2) := by decide +kernel
theorem dX5_firstAlive_45 : decode cX5_firstAlive 45 = .ok (.iadd, 1) := by decide +kernel
theorem dX5_firstAlive_46 : decode cX5_firstAlive 46 = .ok (.iaload, 1) := by decide +kernel
theorem dX5_firstAlive_47 : decode cX5_firstAlive 47 = .ok (.ireturn, 1) := by decide +kernel
theorem dX5_firstAlive_48 : decode cX5_firstAlive 48 = .ok (.iinc 5 1, 3) := by decide +kernel
theorem dX5_firstAlive_51 : decode cX5_firstAlive 51 = .ok (.goto (-43), 3) := by decide +kernel
theorem dX5_firstAlive_54 : decode cX5_firstAlive 54 = .ok (.iconst (-1), 1) := by decide +kernel
theorem dX5_firstAlive_55 : decode cX5_firstAlive 55 = .ok (.ireturn, 1) := by decide +kernel
theorem dX5_lotBlock_0 : decode cX5_lotBlock 0 = .ok (.iconst 0, 1) := by decide +kernel
theorem dX5_lotBlock_1 : decode cX5_lotBlock 1 = .ok (.istore_n 2, 1) := by decide +kernel
theorem dX5_lotBlock_2 : decode cX5_lotBlock 2 = .ok (.iconst 0, 1) := by decide +kernel
theorem dX5_lotBlock_3 : decode cX5_lotBlock 3 = .ok (.istore_n 3, 1) := by decide +kernel
theorem dX5_lotBlock_4 : decode cX5_lotBlock 4 = .ok (.iload_n 3, 1) := by decide +kernel

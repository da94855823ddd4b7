theorem d_Md_in_0 : decode c_Md_in 0 = .ok (.lload_n 0, 1) := by decide +kernel
theorem d_Md_in_1 : decode c_Md_in 1 = .ok (.lload_n 2, 1) := by decide +kernel
theorem d_Md_in_2 : decode c_Md_in 2 = .ok (.lcmp, 1) := by decide +kernel
theorem d_Md_in_3 : decode c_Md_in 3 = .ok (.ifCond .lt 14, 3) := by decide +kernel
theorem d_Md_in_6 : decode c_Md_in 6 = .ok (.lload_n 0, 1) := by decide +kernel
theorem d_Md_in_7 : decode c_Md_in 7 = .ok (.lload 4, 2) := by decide +kernel
theorem d_Md_in_9 : decode c_Md_in 9 = .ok (.lcmp, 1) := by decide +kernel
theorem d_Md_in_10 : decode c_Md_in 10 = .ok (.ifCond .gt 7, 3) := by decide +kernel
theorem d_Md_in_13 : decode c_Md_in 13 = .ok (.iconst 1, 1) := by decide +kernel
theorem d_Md_in_14 : decode c_Md_in 14 = .ok (.goto 4, 3) := by decide +kernel
theorem d_Md_in_17 : decode c_Md_in 17 = .ok (.iconst 0, 1) := by decide +kernel
theorem d_Md_in_18 : decode c_Md_in 18 = .ok (.ireturn, 1) := by decide +kernel
theorem d_Md_copyState_0 : decode c_Md_copyState 0 = .ok (.iconst 0, 1) := by decide +kernel
theorem d_Md_copyState_1 : decode c_Md_copyState 1 = .ok (.istore 4, 2) := by decide +kernel
theorem d_Md_copyState_3 : decode c_Md_copyState 3 = .ok (.iload 4, 2) := by decide +kernel
theorem d_Md_copyState_5 : decode c_Md_copyState 5 = .ok (.sipush 2400, 3) := by decide +kernel
theorem d_Md_copyState_8 : decode c_Md_copyState 8 = .ok (.if_icmp .ge 21, 3) := by decide +kernel
theorem d_Md_copyState_11 : decode c_Md_copyState 11 = .ok (.aload_n 2, 1) := by decide +kernel
theorem d_Md_copyState_12 : decode c_Md_copyState 12 = .ok (.iload_n 3, 1) := by decide +kernel
theorem d_Md_copyState_13 : decode c_Md_copyState 13 = .ok (.iload 4, 2) := by decide +kernel
theorem d_Md_copyState_15 : decode c_Md_copyState 15 = .ok (.iadd, 1) := by decide +kernel
theorem d_Md_copyState_16 : decode c_Md_copyState 16 = .ok (.aload_n 0, 1) := by decide +kernel
theorem d_Md_copyState_17 : decode c_Md_copyState 17 = .ok (.iload_n 1, 1) := by decide +kernel
theorem d_Md_copyState_18 : decode c_Md_copyState 18 = .ok (.iload 4, 2) := by decide +kernel
theorem d_Md_copyState_20 : decode c_Md_copyState 20 = .ok (.iadd, 1) := by decide +kernel
theorem d_Md_copyState_21 : decode c_Md_copyState 21 = .ok (.iaload, 1) := by decide +kernel
theorem d_Md_copyState_22 : decode c_Md_copyState 22 = .ok (.iastore, 1) := by decide +kernel
theorem d_Md_copyState_23 : decode c_Md_copyState 23 = .ok (.iinc 4 1, 3) := by decide +kernel
theorem d_Md_copyState_26 : decode c_Md_copyState 26 = .ok (.goto (-23), 3) := by decide +kernel
theorem d_Md_copyState_29 : decode c_Md_copyState 29 = .ok (.return_, 1) := by decide +kernel
theorem d_Md_isPage_0 : decode c_Md_isPage 0 = .ok (.iload_n 0, 1) := by decide +kernel
theorem d_Md_isPage_1 : decode c_Md_isPage 1 = .ok (.i2l, 1) := by decide +kernel
theorem d_Md_isPage_2 : decode c_Md_isPage 2 = .ok (.lconst 0, 1) := by decide +kernel
theorem d_Md_isPage_3 : decode c_Md_isPage 3 = .ok (.ldc2_w 33, 3) := by decide +kernel
theorem d_Md_isPage_6 : decode c_Md_isPage 6 = .ok (.invokestatic 35, 3) := by decide +kernel
theorem d_Md_isPage_9 : decode c_Md_isPage 9 = .ok (.ireturn, 1) := by decide +kernel
theorem d_Md_isWork_0 : decode c_Md_isWork 0 = .ok (.iload_n 1, 1) := by decide +kernel
theorem d_Md_isWork_1 : decode c_Md_isWork 1 = .ok (.i2l, 1) := by decide +kernel
theorem d_Md_isWork_2 : decode c_Md_isWork 2 = .ok (.lconst 0, 1) := by decide +kernel
theorem d_Md_isWork_3 : decode c_Md_isWork 3 = .ok (.aload_n 0, 1) := by decide +kernel
theorem d_Md_isWork_4 : decode c_Md_isWork 4 = .ok (.bipush 56, 2) := by decide +kernel
theorem d_Md_isWork_6 : decode c_Md_isWork 6 = .ok (.iaload, 1) := by decide +kernel
theorem d_Md_isWork_7 : decode c_Md_isWork 7 = .ok (.iconst 1, 1) := by decide +kernel
theorem d_Md_isWork_8 : decode c_Md_isWork 8 = .ok (.isub, 1) := by decide +kernel
theorem d_Md_isWork_9 : decode c_Md_isWork 9 = .ok (.i2l, 1) := by decide +kernel
theorem d_Md_isWork_10 : decode c_Md_isWork 10 = .ok (.invokestatic 35, 3) := by decide +kernel
theorem d_Md_isWork_13 : decode c_Md_isWork 13 = .ok (.ireturn, 1) := by decide +kernel
theorem d_Md_at_0 : decode c_Md_at 0 = .ok (.bipush 67, 2) := by decide +kernel
theorem d_Md_at_2 : decode c_Md_at 2 = .ok (.bipush 7, 2) := by decide +kernel
theorem d_Md_at_4 : decode c_Md_at 4 = .ok (.iload_n 0, 1) := by decide +kernel
theorem d_Md_at_5 : decode c_Md_at 5 = .ok (.iconst 1, 1) := by decide +kernel
theorem d_Md_at_6 : decode c_Md_at 6 = .ok (.isub, 1) := by decide +kernel
theorem d_Md_at_7 : decode c_Md_at 7 = .ok (.imul, 1) := by decide +kernel
theorem d_Md_at_8 : decode c_Md_at 8 = .ok (.iadd, 1) := by decide +kernel
theorem d_Md_at_9 : decode c_Md_at 9 = .ok (.ireturn, 1) := by decide +kernel
theorem d_Md_takeInHand_0 : decode c_Md_takeInHand 0 = .ok (.aload_n 0, 1) := by decide +kernel
theorem d_Md_takeInHand_1 : decode c_Md_takeInHand 1 = .ok (.bipush 16, 2) := by decide +kernel
theorem d_Md_takeInHand_3 : decode c_Md_takeInHand 3 = .ok (.iload_n 1, 1) := by decide +kernel
theorem d_Md_takeInHand_4 : decode c_Md_takeInHand 4 = .ok (.iadd, 1) := by decide +kernel
theorem d_Md_takeInHand_5 : decode c_Md_takeInHand 5 = .ok (.iaload, 1) := by decide +kernel
theorem d_Md_takeInHand_6 : decode c_Md_takeInHand 6 = .ok (.ifCond .ne 33, 3) := by decide +kernel
theorem d_Md_takeInHand_9 : decode c_Md_takeInHand 9 = .ok (.aload_n 0, 1) := by decide +kernel
theorem d_Md_takeInHand_10 : decode c_Md_takeInHand 10 = .ok (.bipush 16, 2) := by decide +kernel
theorem d_Md_takeInHand_12 : decode c_Md_takeInHand 12 = .ok (.iload_n 1, 1) := by decide +kernel
theorem d_Md_takeInHand_13 : decode c_Md_takeInHand 13 = .ok (.iadd, 1) := by decide +kernel
theorem d_Md_takeInHand_14 : decode c_Md_takeInHand 14 = .ok (.iconst 1, 1) := by decide +kernel
theorem d_Md_takeInHand_15 : decode c_Md_takeInHand 15 = .ok (.iastore, 1) := by decide +kernel
theorem d_Md_takeInHand_16 : decode c_Md_takeInHand 16 = .ok (.aload_n 0, 1) := by decide +kernel
theorem d_Md_takeInHand_17 : decode c_Md_takeInHand 17 = .ok (.bipush 24, 2) := by decide +kernel
theorem d_Md_takeInHand_19 : decode c_Md_takeInHand 19 = .ok (.iload_n 1, 1) := by decide +kernel
theorem d_Md_takeInHand_20 : decode c_Md_takeInHand 20 = .ok (.iadd, 1) := by decide +kernel
theorem d_Md_takeInHand_21 : decode c_Md_takeInHand 21 = .ok (.aload_n 0, 1) := by decide +kernel
theorem d_Md_takeInHand_22 : decode c_Md_takeInHand 22 = .ok (.iconst 0, 1) := by decide +kernel
theorem d_Md_takeInHand_23 : decode c_Md_takeInHand 23 = .ok (.iload_n 1, 1) := by decide +kernel
theorem d_Md_takeInHand_24 : decode c_Md_takeInHand 24 = .ok (.iadd, 1) := by decide +kernel
theorem d_Md_takeInHand_25 : decode c_Md_takeInHand 25 = .ok (.iaload, 1) := by decide +kernel
theorem d_Md_takeInHand_26 : decode c_Md_takeInHand 26 = .ok (.iastore, 1) := by decide +kernel
theorem d_Md_takeInHand_27 : decode c_Md_takeInHand 27 = .ok (.aload_n 0, 1) := by decide +kernel
theorem d_Md_takeInHand_28 : decode c_Md_takeInHand 28 = .ok (.bipush 32, 2) := by decide +kernel
theorem d_Md_takeInHand_30 : decode c_Md_takeInHand 30 = .ok (.iload_n 1, 1) := by decide +kernel
theorem d_Md_takeInHand_31 : decode c_Md_takeInHand 31 = .ok (.iadd, 1) := by decide +kernel
theorem d_Md_takeInHand_32 : decode c_Md_takeInHand 32 = .ok (.aload_n 0, 1) := by decide +kernel
theorem d_Md_takeInHand_33 : decode c_Md_takeInHand 33 = .ok (.bipush 8, 2) := by decide +kernel
theorem d_Md_takeInHand_35 : decode c_Md_takeInHand 35 = .ok (.iload_n 1, 1) := by decide +kernel
theorem d_Md_takeInHand_36 : decode c_Md_takeInHand 36 = .ok (.iadd, 1) := by decide +kernel
theorem d_Md_takeInHand_37 : decode c_Md_takeInHand 37 = .ok (.iaload, 1) := by decide +kernel
theorem d_Md_takeInHand_38 : decode c_Md_takeInHand 38 = .ok (.iastore, 1) := by decide +kernel
theorem d_Md_takeInHand_39 : decode c_Md_takeInHand 39 = .ok (.return_, 1) := by decide +kernel
theorem d_Md_change_0 : decode c_Md_change 0 = .ok (.aload_n 0, 1) := by decide +kernel
theorem d_Md_change_1 : decode c_Md_change 1 = .ok (.iload_n 1, 1) := by decide +kernel
theorem d_Md_change_2 : decode c_Md_change 2 = .ok (.invokestatic 39, 3) := by decide +kernel
theorem d_Md_change_5 : decode c_Md_change 5 = .ok (.aload_n 0, 1) := by decide +kernel
theorem d_Md_change_6 : decode c_Md_change 6 = .ok (.bipush 24, 2) := by decide +kernel
theorem d_Md_change_8 : decode c_Md_change 8 = .ok (.iload_n 1, 1) := by decide +kernel
theorem d_Md_change_9 : decode c_Md_change 9 = .ok (.iadd, 1) := by decide +kernel
theorem d_Md_change_10 : decode c_Md_change 10 = .ok (.iload_n 2, 1) := by decide +kernel
theorem d_Md_change_11 : decode c_Md_change 11 = .ok (.iastore, 1) := by decide +kernel
theorem d_Md_change_12 : decode c_Md_change 12 = .ok (.aload_n 0, 1) := by decide +kernel
theorem d_Md_change_13 : decode c_Md_change 13 = .ok (.bipush 32, 2) := by decide +kernel
theorem d_Md_change_15 : decode c_Md_change 15 = .ok (.iload_n 1, 1) := by decide +kernel
theorem d_Md_change_16 : decode c_Md_change 16 = .ok (.iadd, 1) := by decide +kernel
theorem d_Md_change_17 : decode c_Md_change 17 = .ok (.iload_n 3, 1) := by decide +kernel
theorem d_Md_change_18 : decode c_Md_change 18 = .ok (.iastore, 1) := by decide +kernel
theorem d_Md_change_19 : decode c_Md_change 19 = .ok (.return_, 1) := by decide +kernel
theorem d_Md_lastOf_0 : decode c_Md_lastOf 0 = .ok (.aload_n 0, 1) := by decide +kernel
theorem d_Md_lastOf_1 : decode c_Md_lastOf 1 = .ok (.bipush 57, 2) := by decide +kernel
theorem d_Md_lastOf_3 : decode c_Md_lastOf 3 = .ok (.iaload, 1) := by decide +kernel
theorem d_Md_lastOf_4 : decode c_Md_lastOf 4 = .ok (.istore_n 2, 1) := by decide +kernel
theorem d_Md_lastOf_5 : decode c_Md_lastOf 5 = .ok (.iload_n 2, 1) := by decide +kernel
theorem d_Md_lastOf_6 : decode c_Md_lastOf 6 = .ok (.ifCond .le 21, 3) := by decide +kernel
theorem d_Md_lastOf_9 : decode c_Md_lastOf 9 = .ok (.aload_n 0, 1) := by decide +kernel
theorem d_Md_lastOf_10 : decode c_Md_lastOf 10 = .ok (.iload_n 2, 1) := by decide +kernel
theorem d_Md_lastOf_11 : decode c_Md_lastOf 11 = .ok (.invokestatic 43, 3) := by decide +kernel
theorem d_Md_lastOf_14 : decode c_Md_lastOf 14 = .ok (.iconst 1, 1) := by decide +kernel
theorem d_Md_lastOf_15 : decode c_Md_lastOf 15 = .ok (.iadd, 1) := by decide +kernel
theorem d_Md_lastOf_16 : decode c_Md_lastOf 16 = .ok (.iaload, 1) := by decide +kernel
theorem d_Md_lastOf_17 : decode c_Md_lastOf 17 = .ok (.iload_n 1, 1) := by decide +kernel
theorem d_Md_lastOf_18 : decode c_Md_lastOf 18 = .ok (.if_icmp .eq 9, 3) := by decide +kernel
theorem d_Md_lastOf_21 : decode c_Md_lastOf 21 = .ok (.iinc 2 (-1), 3) := by decide +kernel
theorem d_Md_lastOf_24 : decode c_Md_lastOf 24 = .ok (.goto (-19), 3) := by decide +kernel
theorem d_Md_lastOf_27 : decode c_Md_lastOf 27 = .ok (.iload_n 2, 1) := by decide +kernel
theorem d_Md_lastOf_28 : decode c_Md_lastOf 28 = .ok (.ireturn, 1) := by decide +kernel
theorem d_Md_enter_0 : decode c_Md_enter 0 = .ok (.iload_n 1, 1) := by decide +kernel
theorem d_Md_enter_1 : decode c_Md_enter 1 = .ok (.ifCond .ne 7, 3) := by decide +kernel
theorem d_Md_enter_4 : decode c_Md_enter 4 = .ok (.iconst 0, 1) := by decide +kernel
theorem d_Md_enter_5 : decode c_Md_enter 5 = .ok (.goto 8, 3) := by decide +kernel
theorem d_Md_enter_8 : decode c_Md_enter 8 = .ok (.aload_n 0, 1) := by decide +kernel
theorem d_Md_enter_9 : decode c_Md_enter 9 = .ok (.iload_n 2, 1) := by decide +kernel
theorem d_Md_enter_10 : decode c_Md_enter 10 = .ok (.invokestatic 47, 3) := by decide +kernel
theorem d_Md_enter_13 : decode c_Md_enter 13 = .ok (.istore 7, 2) := by decide +kernel
theorem d_Md_enter_15 : decode c_Md_enter 15 = .ok (.aload_n 0, 1) := by decide +kernel
theorem d_Md_enter_16 : decode c_Md_enter 16 = .ok (.bipush 57, 2) := by decide +kernel
theorem d_Md_enter_18 : decode c_Md_enter 18 = .ok (.dup2, 1) := by decide +kernel
theorem d_Md_enter_19 : decode c_Md_enter 19 = .ok (.iaload, 1) := by decide +kernel
theorem d_Md_enter_20 : decode c_Md_enter 20 = .ok (.iconst 1, 1) := by decide +kernel
theorem d_Md_enter_21 : decode c_Md_enter 21 = .ok (.iadd, 1) := by decide +kernel
theorem d_Md_enter_22 : decode c_Md_enter 22 = .ok (.iastore, 1) := by decide +kernel
theorem d_Md_enter_23 : decode c_Md_enter 23 = .ok (.aload_n 0, 1) := by decide +kernel
theorem d_Md_enter_24 : decode c_Md_enter 24 = .ok (.bipush 57, 2) := by decide +kernel
theorem d_Md_enter_26 : decode c_Md_enter 26 = .ok (.iaload, 1) := by decide +kernel
theorem d_Md_enter_27 : decode c_Md_enter 27 = .ok (.istore 8, 2) := by decide +kernel
theorem d_Md_enter_29 : decode c_Md_enter 29 = .ok (.aload_n 0, 1) := by decide +kernel
theorem d_Md_enter_30 : decode c_Md_enter 30 = .ok (.iload 8, 2) := by decide +kernel
theorem d_Md_enter_32 : decode c_Md_enter 32 = .ok (.invokestatic 43, 3) := by decide +kernel
theorem d_Md_enter_35 : decode c_Md_enter 35 = .ok (.iconst 0, 1) := by decide +kernel
theorem d_Md_enter_36 : decode c_Md_enter 36 = .ok (.iadd, 1) := by decide +kernel
theorem d_Md_enter_37 : decode c_Md_enter 37 = .ok (.iload_n 1, 1) := by decide +kernel
theorem d_Md_enter_38 : decode c_Md_enter 38 = .ok (.iastore, 1) := by decide +kernel
theorem d_Md_enter_39 : decode c_Md_enter 39 = .ok (.aload_n 0, 1) := by decide +kernel
theorem d_Md_enter_40 : decode c_Md_enter 40 = .ok (.iload 8, 2) := by decide +kernel
theorem d_Md_enter_42 : decode c_Md_enter 42 = .ok (.invokestatic 43, 3) := by decide +kernel
theorem d_Md_enter_45 : decode c_Md_enter 45 = .ok (.iconst 1, 1) := by decide +kernel
theorem d_Md_enter_46 : decode c_Md_enter 46 = .ok (.iadd, 1) := by decide +kernel
theorem d_Md_enter_47 : decode c_Md_enter 47 = .ok (.iload_n 2, 1) := by decide +kernel
theorem d_Md_enter_48 : decode c_Md_enter 48 = .ok (.iastore, 1) := by decide +kernel
theorem d_Md_enter_49 : decode c_Md_enter 49 = .ok (.aload_n 0, 1) := by decide +kernel
theorem d_Md_enter_50 : decode c_Md_enter 50 = .ok (.iload 8, 2) := by decide +kernel
theorem d_Md_enter_52 : decode c_Md_enter 52 = .ok (.invokestatic 43, 3) := by decide +kernel
theorem d_Md_enter_55 : decode c_Md_enter 55 = .ok (.iconst 2, 1) := by decide +kernel
theorem d_Md_enter_56 : decode c_Md_enter 56 = .ok (.iadd, 1) := by decide +kernel
theorem d_Md_enter_57 : decode c_Md_enter 57 = .ok (.iload 7, 2) := by decide +kernel
theorem d_Md_enter_59 : decode c_Md_enter 59 = .ok (.iastore, 1) := by decide +kernel
theorem d_Md_enter_60 : decode c_Md_enter 60 = .ok (.aload_n 0, 1) := by decide +kernel
theorem d_Md_enter_61 : decode c_Md_enter 61 = .ok (.iload 8, 2) := by decide +kernel
theorem d_Md_enter_63 : decode c_Md_enter 63 = .ok (.invokestatic 43, 3) := by decide +kernel
theorem d_Md_enter_66 : decode c_Md_enter 66 = .ok (.iconst 3, 1) := by decide +kernel
theorem d_Md_enter_67 : decode c_Md_enter 67 = .ok (.iadd, 1) := by decide +kernel
theorem d_Md_enter_68 : decode c_Md_enter 68 = .ok (.iload_n 3, 1) := by decide +kernel
theorem d_Md_enter_69 : decode c_Md_enter 69 = .ok (.iastore, 1) := by decide +kernel
theorem d_Md_enter_70 : decode c_Md_enter 70 = .ok (.aload_n 0, 1) := by decide +kernel
theorem d_Md_enter_71 : decode c_Md_enter 71 = .ok (.iload 8, 2) := by decide +kernel
theorem d_Md_enter_73 : decode c_Md_enter 73 = .ok (.invokestatic 43, 3) := by decide +kernel
theorem d_Md_enter_76 : decode c_Md_enter 76 = .ok (.iconst 4, 1) := by decide +kernel
theorem d_Md_enter_77 : decode c_Md_enter 77 = .ok (.iadd, 1) := by decide +kernel
theorem d_Md_enter_78 : decode c_Md_enter 78 = .ok (.iload 4, 2) := by decide +kernel
theorem d_Md_enter_80 : decode c_Md_enter 80 = .ok (.iastore, 1) := by decide +kernel
theorem d_Md_enter_81 : decode c_Md_enter 81 = .ok (.aload_n 0, 1) := by decide +kernel
theorem d_Md_enter_82 : decode c_Md_enter 82 = .ok (.iload 8, 2) := by decide +kernel
theorem d_Md_enter_84 : decode c_Md_enter 84 = .ok (.invokestatic 43, 3) := by decide +kernel
theorem d_Md_enter_87 : decode c_Md_enter 87 = .ok (.iconst 5, 1) := by decide +kernel
theorem d_Md_enter_88 : decode c_Md_enter 88 = .ok (.iadd, 1) := by decide +kernel
theorem d_Md_enter_89 : decode c_Md_enter 89 = .ok (.iload 5, 2) := by decide +kernel
theorem d_Md_enter_91 : decode c_Md_enter 91 = .ok (.iastore, 1) := by decide +kernel
theorem d_Md_enter_92 : decode c_Md_enter 92 = .ok (.aload_n 0, 1) := by decide +kernel
theorem d_Md_enter_93 : decode c_Md_enter 93 = .ok (.iload 8, 2) := by decide +kernel
theorem d_Md_enter_95 : decode c_Md_enter 95 = .ok (.invokestatic 43, 3) := by decide +kernel
theorem d_Md_enter_98 : decode c_Md_enter 98 = .ok (.bipush 6, 2) := by decide +kernel
theorem d_Md_enter_100 : decode c_Md_enter 100 = .ok (.iadd, 1) := by decide +kernel
theorem d_Md_enter_101 : decode c_Md_enter 101 = .ok (.iload 6, 2) := by decide +kernel
theorem d_Md_enter_103 : decode c_Md_enter 103 = .ok (.iastore, 1) := by decide +kernel
theorem d_Md_enter_104 : decode c_Md_enter 104 = .ok (.iload 8, 2) := by decide +kernel
theorem d_Md_enter_106 : decode c_Md_enter 106 = .ok (.ireturn, 1) := by decide +kernel
theorem d_Md_goesOnWith_0 : decode c_Md_goesOnWith 0 = .ok (.aload_n 0, 1) := by decide +kernel
theorem d_Md_goesOnWith_1 : decode c_Md_goesOnWith 1 = .ok (.iload_n 1, 1) := by decide +kernel
theorem d_Md_goesOnWith_2 : decode c_Md_goesOnWith 2 = .ok (.invokestatic 47, 3) := by decide +kernel
theorem d_Md_goesOnWith_5 : decode c_Md_goesOnWith 5 = .ok (.istore_n 2, 1) := by decide +kernel
theorem d_Md_goesOnWith_6 : decode c_Md_goesOnWith 6 = .ok (.iload_n 2, 1) := by decide +kernel
theorem d_Md_goesOnWith_7 : decode c_Md_goesOnWith 7 = .ok (.ifCond .le 27, 3) := by decide +kernel
theorem d_Md_goesOnWith_10 : decode c_Md_goesOnWith 10 = .ok (.aload_n 0, 1) := by decide +kernel
theorem d_Md_goesOnWith_11 : decode c_Md_goesOnWith 11 = .ok (.iload_n 2, 1) := by decide +kernel
theorem d_Md_goesOnWith_12 : decode c_Md_goesOnWith 12 = .ok (.invokestatic 43, 3) := by decide +kernel
theorem d_Md_goesOnWith_15 : decode c_Md_goesOnWith 15 = .ok (.iconst 0, 1) := by decide +kernel
theorem d_Md_goesOnWith_16 : decode c_Md_goesOnWith 16 = .ok (.iadd, 1) := by decide +kernel
theorem d_Md_goesOnWith_17 : decode c_Md_goesOnWith 17 = .ok (.iaload, 1) := by decide +kernel
theorem d_Md_goesOnWith_18 : decode c_Md_goesOnWith 18 = .ok (.iconst 2, 1) := by decide +kernel
theorem d_Md_goesOnWith_19 : decode c_Md_goesOnWith 19 = .ok (.if_icmp .ne 15, 3) := by decide +kernel
theorem d_Md_goesOnWith_22 : decode c_Md_goesOnWith 22 = .ok (.aload_n 0, 1) := by decide +kernel
theorem d_Md_goesOnWith_23 : decode c_Md_goesOnWith 23 = .ok (.iload_n 2, 1) := by decide +kernel
theorem d_Md_goesOnWith_24 : decode c_Md_goesOnWith 24 = .ok (.invokestatic 43, 3) := by decide +kernel
theorem d_Md_goesOnWith_27 : decode c_Md_goesOnWith 27 = .ok (.bipush 6, 2) := by decide +kernel
theorem d_Md_goesOnWith_29 : decode c_Md_goesOnWith 29 = .ok (.iadd, 1) := by decide +kernel
theorem d_Md_goesOnWith_30 : decode c_Md_goesOnWith 30 = .ok (.iaload, 1) := by decide +kernel
theorem d_Md_goesOnWith_31 : decode c_Md_goesOnWith 31 = .ok (.goto 4, 3) := by decide +kernel
theorem d_Md_goesOnWith_34 : decode c_Md_goesOnWith 34 = .ok (.iload_n 2, 1) := by decide +kernel
theorem d_Md_goesOnWith_35 : decode c_Md_goesOnWith 35 = .ok (.ireturn, 1) := by decide +kernel
theorem d_Md_pagesOf_0 : decode c_Md_pagesOf 0 = .ok (.iconst 0, 1) := by decide +kernel
theorem d_Md_pagesOf_1 : decode c_Md_pagesOf 1 = .ok (.istore_n 2, 1) := by decide +kernel
theorem d_Md_pagesOf_2 : decode c_Md_pagesOf 2 = .ok (.iconst 1, 1) := by decide +kernel
theorem d_Md_pagesOf_3 : decode c_Md_pagesOf 3 = .ok (.istore_n 3, 1) := by decide +kernel
theorem d_Md_pagesOf_4 : decode c_Md_pagesOf 4 = .ok (.iload_n 3, 1) := by decide +kernel
theorem d_Md_pagesOf_5 : decode c_Md_pagesOf 5 = .ok (.aload_n 0, 1) := by decide +kernel
theorem d_Md_pagesOf_6 : decode c_Md_pagesOf 6 = .ok (.bipush 57, 2) := by decide +kernel
theorem d_Md_pagesOf_8 : decode c_Md_pagesOf 8 = .ok (.iaload, 1) := by decide +kernel
theorem d_Md_pagesOf_9 : decode c_Md_pagesOf 9 = .ok (.if_icmp .gt 50, 3) := by decide +kernel
theorem d_Md_pagesOf_12 : decode c_Md_pagesOf 12 = .ok (.iload_n 2, 1) := by decide +kernel
theorem d_Md_pagesOf_13 : decode c_Md_pagesOf 13 = .ok (.aload_n 0, 1) := by decide +kernel
theorem d_Md_pagesOf_14 : decode c_Md_pagesOf 14 = .ok (.iload_n 3, 1) := by decide +kernel
theorem d_Md_pagesOf_15 : decode c_Md_pagesOf 15 = .ok (.invokestatic 43, 3) := by decide +kernel
theorem d_Md_pagesOf_18 : decode c_Md_pagesOf 18 = .ok (.iconst 1, 1) := by decide +kernel
theorem d_Md_pagesOf_19 : decode c_Md_pagesOf 19 = .ok (.iadd, 1) := by decide +kernel
theorem d_Md_pagesOf_20 : decode c_Md_pagesOf 20 = .ok (.iaload, 1) := by decide +kernel
theorem d_Md_pagesOf_21 : decode c_Md_pagesOf 21 = .ok (.iload_n 1, 1) := by decide +kernel
theorem d_Md_pagesOf_22 : decode c_Md_pagesOf 22 = .ok (.if_icmp .ne 28, 3) := by decide +kernel
theorem d_Md_pagesOf_25 : decode c_Md_pagesOf 25 = .ok (.aload_n 0, 1) := by decide +kernel
theorem d_Md_pagesOf_26 : decode c_Md_pagesOf 26 = .ok (.iload_n 3, 1) := by decide +kernel
theorem d_Md_pagesOf_27 : decode c_Md_pagesOf 27 = .ok (.invokestatic 43, 3) := by decide +kernel
theorem d_Md_pagesOf_30 : decode c_Md_pagesOf 30 = .ok (.iconst 0, 1) := by decide +kernel
theorem d_Md_pagesOf_31 : decode c_Md_pagesOf 31 = .ok (.iadd, 1) := by decide +kernel
theorem d_Md_pagesOf_32 : decode c_Md_pagesOf 32 = .ok (.iaload, 1) := by decide +kernel
theorem d_Md_pagesOf_33 : decode c_Md_pagesOf 33 = .ok (.iconst 1, 1) := by decide +kernel
theorem d_Md_pagesOf_34 : decode c_Md_pagesOf 34 = .ok (.if_icmp .ne 16, 3) := by decide +kernel
theorem d_Md_pagesOf_37 : decode c_Md_pagesOf 37 = .ok (.iconst 1, 1) := by decide +kernel
theorem d_Md_pagesOf_38 : decode c_Md_pagesOf 38 = .ok (.aload_n 0, 1) := by decide +kernel
theorem d_Md_pagesOf_39 : decode c_Md_pagesOf 39 = .ok (.iload_n 3, 1) := by decide +kernel
theorem d_Md_pagesOf_40 : decode c_Md_pagesOf 40 = .ok (.invokestatic 43, 3) := by decide +kernel
theorem d_Md_pagesOf_43 : decode c_Md_pagesOf 43 = .ok (.iconst 3, 1) := by decide +kernel
theorem d_Md_pagesOf_44 : decode c_Md_pagesOf 44 = .ok (.iadd, 1) := by decide +kernel
theorem d_Md_pagesOf_45 : decode c_Md_pagesOf 45 = .ok (.iaload, 1) := by decide +kernel
theorem d_Md_pagesOf_46 : decode c_Md_pagesOf 46 = .ok (.ishl, 1) := by decide +kernel
theorem d_Md_pagesOf_47 : decode c_Md_pagesOf 47 = .ok (.goto 4, 3) := by decide +kernel
theorem d_Md_pagesOf_50 : decode c_Md_pagesOf 50 = .ok (.iconst 0, 1) := by decide +kernel
theorem d_Md_pagesOf_51 : decode c_Md_pagesOf 51 = .ok (.ior, 1) := by decide +kernel
theorem d_Md_pagesOf_52 : decode c_Md_pagesOf 52 = .ok (.istore_n 2, 1) := by decide +kernel
theorem d_Md_pagesOf_53 : decode c_Md_pagesOf 53 = .ok (.iinc 3 1, 3) := by decide +kernel
theorem d_Md_pagesOf_56 : decode c_Md_pagesOf 56 = .ok (.goto (-52), 3) := by decide +kernel
theorem d_Md_pagesOf_59 : decode c_Md_pagesOf 59 = .ok (.iload_n 2, 1) := by decide +kernel
theorem d_Md_pagesOf_60 : decode c_Md_pagesOf 60 = .ok (.ireturn, 1) := by decide +kernel
theorem d_Md_holder_0 : decode c_Md_holder 0 = .ok (.iconst 0, 1) := by decide +kernel
theorem d_Md_holder_1 : decode c_Md_holder 1 = .ok (.istore_n 2, 1) := by decide +kernel
theorem d_Md_holder_2 : decode c_Md_holder 2 = .ok (.iload_n 2, 1) := by decide +kernel
theorem d_Md_holder_3 : decode c_Md_holder 3 = .ok (.aload_n 0, 1) := by decide +kernel
theorem d_Md_holder_4 : decode c_Md_holder 4 = .ok (.bipush 56, 2) := by decide +kernel
theorem d_Md_holder_6 : decode c_Md_holder 6 = .ok (.iaload, 1) := by decide +kernel
theorem d_Md_holder_7 : decode c_Md_holder 7 = .ok (.if_icmp .ge 33, 3) := by decide +kernel
theorem d_Md_holder_10 : decode c_Md_holder 10 = .ok (.aload_n 0, 1) := by decide +kernel
theorem d_Md_holder_11 : decode c_Md_holder 11 = .ok (.bipush 40, 2) := by decide +kernel
theorem d_Md_holder_13 : decode c_Md_holder 13 = .ok (.iload_n 2, 1) := by decide +kernel
theorem d_Md_holder_14 : decode c_Md_holder 14 = .ok (.iadd, 1) := by decide +kernel
theorem d_Md_holder_15 : decode c_Md_holder 15 = .ok (.iaload, 1) := by decide +kernel
theorem d_Md_holder_16 : decode c_Md_holder 16 = .ok (.ifCond .ne 18, 3) := by decide +kernel
theorem d_Md_holder_19 : decode c_Md_holder 19 = .ok (.aload_n 0, 1) := by decide +kernel
theorem d_Md_holder_20 : decode c_Md_holder 20 = .ok (.iload_n 2, 1) := by decide +kernel
theorem d_Md_holder_21 : decode c_Md_holder 21 = .ok (.invokestatic 51, 3) := by decide +kernel
theorem d_Md_holder_24 : decode c_Md_holder 24 = .ok (.iload_n 1, 1) := by decide +kernel
theorem d_Md_holder_25 : decode c_Md_holder 25 = .ok (.ishr, 1) := by decide +kernel
theorem d_Md_holder_26 : decode c_Md_holder 26 = .ok (.iconst 1, 1) := by decide +kernel
theorem d_Md_holder_27 : decode c_Md_holder 27 = .ok (.iand, 1) := by decide +kernel
theorem d_Md_holder_28 : decode c_Md_holder 28 = .ok (.iconst 1, 1) := by decide +kernel
theorem d_Md_holder_29 : decode c_Md_holder 29 = .ok (.if_icmp .ne 5, 3) := by decide +kernel
theorem d_Md_holder_32 : decode c_Md_holder 32 = .ok (.iload_n 2, 1) := by decide +kernel
theorem d_Md_holder_33 : decode c_Md_holder 33 = .ok (.ireturn, 1) := by decide +kernel
theorem d_Md_holder_34 : decode c_Md_holder 34 = .ok (.iinc 2 1, 3) := by decide +kernel
theorem d_Md_holder_37 : decode c_Md_holder 37 = .ok (.goto (-35), 3) := by decide +kernel
theorem d_Md_holder_40 : decode c_Md_holder 40 = .ok (.bipush (-6), 2) := by decide +kernel
theorem d_Md_holder_42 : decode c_Md_holder 42 = .ok (.ireturn, 1) := by decide +kernel
theorem d_Md_stepBack_0 : decode c_Md_stepBack 0 = .ok (.aload_n 0, 1) := by decide +kernel
theorem d_Md_stepBack_1 : decode c_Md_stepBack 1 = .ok (.iload_n 1, 1) := by decide +kernel
theorem d_Md_stepBack_2 : decode c_Md_stepBack 2 = .ok (.invokestatic 54, 3) := by decide +kernel
theorem d_Md_stepBack_5 : decode c_Md_stepBack 5 = .ok (.istore_n 2, 1) := by decide +kernel
theorem d_Md_stepBack_6 : decode c_Md_stepBack 6 = .ok (.aload_n 0, 1) := by decide +kernel
theorem d_Md_stepBack_7 : decode c_Md_stepBack 7 = .ok (.iload_n 2, 1) := by decide +kernel
theorem d_Md_stepBack_8 : decode c_Md_stepBack 8 = .ok (.invokestatic 43, 3) := by decide +kernel
theorem d_Md_stepBack_11 : decode c_Md_stepBack 11 = .ok (.iconst 0, 1) := by decide +kernel
theorem d_Md_stepBack_12 : decode c_Md_stepBack 12 = .ok (.iadd, 1) := by decide +kernel
theorem d_Md_stepBack_13 : decode c_Md_stepBack 13 = .ok (.iaload, 1) := by decide +kernel
theorem d_Md_stepBack_14 : decode c_Md_stepBack 14 = .ok (.ifCond .ne 26, 3) := by decide +kernel
theorem d_Md_stepBack_17 : decode c_Md_stepBack 17 = .ok (.aload_n 0, 1) := by decide +kernel
theorem d_Md_stepBack_18 : decode c_Md_stepBack 18 = .ok (.iconst 4, 1) := by decide +kernel
theorem d_Md_stepBack_19 : decode c_Md_stepBack 19 = .ok (.iload_n 1, 1) := by decide +kernel
theorem d_Md_stepBack_20 : decode c_Md_stepBack 20 = .ok (.bipush (-6), 2) := by decide +kernel
theorem d_Md_stepBack_22 : decode c_Md_stepBack 22 = .ok (.bipush (-6), 2) := by decide +kernel
theorem d_Md_stepBack_24 : decode c_Md_stepBack 24 = .ok (.bipush (-6), 2) := by decide +kernel
theorem d_Md_stepBack_26 : decode c_Md_stepBack 26 = .ok (.bipush (-6), 2) := by decide +kernel
theorem d_Md_stepBack_28 : decode c_Md_stepBack 28 = .ok (.invokestatic 57, 3) := by decide +kernel
theorem d_Md_stepBack_31 : decode c_Md_stepBack 31 = .ok (.pop, 1) := by decide +kernel
theorem d_Md_stepBack_32 : decode c_Md_stepBack 32 = .ok (.aload_n 0, 1) := by decide +kernel
theorem d_Md_stepBack_33 : decode c_Md_stepBack 33 = .ok (.bipush 40, 2) := by decide +kernel
theorem d_Md_stepBack_35 : decode c_Md_stepBack 35 = .ok (.iload_n 1, 1) := by decide +kernel
theorem d_Md_stepBack_36 : decode c_Md_stepBack 36 = .ok (.iadd, 1) := by decide +kernel
theorem d_Md_stepBack_37 : decode c_Md_stepBack 37 = .ok (.iconst 2, 1) := by decide +kernel
theorem d_Md_stepBack_38 : decode c_Md_stepBack 38 = .ok (.iastore, 1) := by decide +kernel
theorem d_Md_stepBack_39 : decode c_Md_stepBack 39 = .ok (.return_, 1) := by decide +kernel
theorem d_Md_stepBack_40 : decode c_Md_stepBack 40 = .ok (.aload_n 0, 1) := by decide +kernel
theorem d_Md_stepBack_41 : decode c_Md_stepBack 41 = .ok (.iload_n 2, 1) := by decide +kernel
theorem d_Md_stepBack_42 : decode c_Md_stepBack 42 = .ok (.invokestatic 43, 3) := by decide +kernel
theorem d_Md_stepBack_45 : decode c_Md_stepBack 45 = .ok (.iconst 3, 1) := by decide +kernel
theorem d_Md_stepBack_46 : decode c_Md_stepBack 46 = .ok (.iadd, 1) := by decide +kernel
theorem d_Md_stepBack_47 : decode c_Md_stepBack 47 = .ok (.iaload, 1) := by decide +kernel
theorem d_Md_stepBack_48 : decode c_Md_stepBack 48 = .ok (.istore_n 3, 1) := by decide +kernel
theorem d_Md_stepBack_49 : decode c_Md_stepBack 49 = .ok (.aload_n 0, 1) := by decide +kernel
theorem d_Md_stepBack_50 : decode c_Md_stepBack 50 = .ok (.iload_n 2, 1) := by decide +kernel
theorem d_Md_stepBack_51 : decode c_Md_stepBack 51 = .ok (.invokestatic 43, 3) := by decide +kernel
theorem d_Md_stepBack_54 : decode c_Md_stepBack 54 = .ok (.iconst 4, 1) := by decide +kernel
theorem d_Md_stepBack_55 : decode c_Md_stepBack 55 = .ok (.iadd, 1) := by decide +kernel
theorem d_Md_stepBack_56 : decode c_Md_stepBack 56 = .ok (.iaload, 1) := by decide +kernel
theorem d_Md_stepBack_57 : decode c_Md_stepBack 57 = .ok (.istore 4, 2) := by decide +kernel
theorem d_Md_stepBack_59 : decode c_Md_stepBack 59 = .ok (.aload_n 0, 1) := by decide +kernel
theorem d_Md_stepBack_60 : decode c_Md_stepBack 60 = .ok (.iconst 2, 1) := by decide +kernel
theorem d_Md_stepBack_61 : decode c_Md_stepBack 61 = .ok (.iload_n 1, 1) := by decide +kernel
theorem d_Md_stepBack_62 : decode c_Md_stepBack 62 = .ok (.iload_n 3, 1) := by decide +kernel
theorem d_Md_stepBack_63 : decode c_Md_stepBack 63 = .ok (.bipush (-6), 2) := by decide +kernel
theorem d_Md_stepBack_65 : decode c_Md_stepBack 65 = .ok (.iload 4, 2) := by decide +kernel
theorem d_Md_stepBack_67 : decode c_Md_stepBack 67 = .ok (.aload_n 0, 1) := by decide +kernel
theorem d_Md_stepBack_68 : decode c_Md_stepBack 68 = .ok (.iload_n 2, 1) := by decide +kernel
theorem d_Md_stepBack_69 : decode c_Md_stepBack 69 = .ok (.invokestatic 43, 3) := by decide +kernel
theorem d_Md_stepBack_72 : decode c_Md_stepBack 72 = .ok (.iconst 2, 1) := by decide +kernel
theorem d_Md_stepBack_73 : decode c_Md_stepBack 73 = .ok (.iadd, 1) := by decide +kernel
theorem d_Md_stepBack_74 : decode c_Md_stepBack 74 = .ok (.iaload, 1) := by decide +kernel
theorem d_Md_stepBack_75 : decode c_Md_stepBack 75 = .ok (.invokestatic 57, 3) := by decide +kernel
theorem d_Md_stepBack_78 : decode c_Md_stepBack 78 = .ok (.istore 5, 2) := by decide +kernel
theorem d_Md_stepBack_80 : decode c_Md_stepBack 80 = .ok (.aload_n 0, 1) := by decide +kernel
theorem d_Md_stepBack_81 : decode c_Md_stepBack 81 = .ok (.iload_n 3, 1) := by decide +kernel
theorem d_Md_stepBack_82 : decode c_Md_stepBack 82 = .ok (.iload 4, 2) := by decide +kernel
theorem d_Md_stepBack_84 : decode c_Md_stepBack 84 = .ok (.iload 5, 2) := by decide +kernel
theorem d_Md_stepBack_86 : decode c_Md_stepBack 86 = .ok (.invokestatic 61, 3) := by decide +kernel
theorem d_Md_stepBack_89 : decode c_Md_stepBack 89 = .ok (.return_, 1) := by decide +kernel
theorem d_Md_tearOn_0 : decode c_Md_tearOn 0 = .ok (.iconst 0, 1) := by decide +kernel
theorem d_Md_tearOn_1 : decode c_Md_tearOn 1 = .ok (.istore_n 2, 1) := by decide +kernel
theorem d_Md_tearOn_2 : decode c_Md_tearOn 2 = .ok (.aload_n 0, 1) := by decide +kernel
theorem d_Md_tearOn_3 : decode c_Md_tearOn 3 = .ok (.bipush 40, 2) := by decide +kernel
theorem d_Md_tearOn_5 : decode c_Md_tearOn 5 = .ok (.iload_n 1, 1) := by decide +kernel
theorem d_Md_tearOn_6 : decode c_Md_tearOn 6 = .ok (.iadd, 1) := by decide +kernel
theorem d_Md_tearOn_7 : decode c_Md_tearOn 7 = .ok (.iaload, 1) := by decide +kernel
theorem d_Md_tearOn_8 : decode c_Md_tearOn 8 = .ok (.ifCond .ne 14, 3) := by decide +kernel
theorem d_Md_tearOn_11 : decode c_Md_tearOn 11 = .ok (.aload_n 0, 1) := by decide +kernel
theorem d_Md_tearOn_12 : decode c_Md_tearOn 12 = .ok (.iload_n 1, 1) := by decide +kernel
theorem d_Md_tearOn_13 : decode c_Md_tearOn 13 = .ok (.invokestatic 65, 3) := by decide +kernel
theorem d_Md_tearOn_16 : decode c_Md_tearOn 16 = .ok (.iinc 2 1, 3) := by decide +kernel
theorem d_Md_tearOn_19 : decode c_Md_tearOn 19 = .ok (.goto (-17), 3) := by decide +kernel
theorem d_Md_tearOn_22 : decode c_Md_tearOn 22 = .ok (.iload_n 2, 1) := by decide +kernel
theorem d_Md_tearOn_23 : decode c_Md_tearOn 23 = .ok (.ireturn, 1) := by decide +kernel
theorem d_Md_stepsToTear_0 : decode c_Md_stepsToTear 0 = .ok (.iconst 1, 1) := by decide +kernel
theorem d_Md_stepsToTear_1 : decode c_Md_stepsToTear 1 = .ok (.istore_n 2, 1) := by decide +kernel
theorem d_Md_stepsToTear_2 : decode c_Md_stepsToTear 2 = .ok (.iconst 1, 1) := by decide +kernel
theorem d_Md_stepsToTear_3 : decode c_Md_stepsToTear 3 = .ok (.istore_n 3, 1) := by decide +kernel
theorem d_Md_stepsToTear_4 : decode c_Md_stepsToTear 4 = .ok (.iload_n 3, 1) := by decide +kernel
theorem d_Md_stepsToTear_5 : decode c_Md_stepsToTear 5 = .ok (.aload_n 0, 1) := by decide +kernel
theorem d_Md_stepsToTear_6 : decode c_Md_stepsToTear 6 = .ok (.bipush 57, 2) := by decide +kernel
theorem d_Md_stepsToTear_8 : decode c_Md_stepsToTear 8 = .ok (.iaload, 1) := by decide +kernel
theorem d_Md_stepsToTear_9 : decode c_Md_stepsToTear 9 = .ok (.if_icmp .gt 41, 3) := by decide +kernel
theorem d_Md_stepsToTear_12 : decode c_Md_stepsToTear 12 = .ok (.iload_n 2, 1) := by decide +kernel
theorem d_Md_stepsToTear_13 : decode c_Md_stepsToTear 13 = .ok (.aload_n 0, 1) := by decide +kernel
theorem d_Md_stepsToTear_14 : decode c_Md_stepsToTear 14 = .ok (.iload_n 3, 1) := by decide +kernel
theorem d_Md_stepsToTear_15 : decode c_Md_stepsToTear 15 = .ok (.invokestatic 43, 3) := by decide +kernel
theorem d_Md_stepsToTear_18 : decode c_Md_stepsToTear 18 = .ok (.iconst 1, 1) := by decide +kernel
theorem d_Md_stepsToTear_19 : decode c_Md_stepsToTear 19 = .ok (.iadd, 1) := by decide +kernel
theorem d_Md_stepsToTear_20 : decode c_Md_stepsToTear 20 = .ok (.iaload, 1) := by decide +kernel
theorem d_Md_stepsToTear_21 : decode c_Md_stepsToTear 21 = .ok (.iload_n 1, 1) := by decide +kernel
theorem d_Md_stepsToTear_22 : decode c_Md_stepsToTear 22 = .ok (.if_icmp .ne 19, 3) := by decide +kernel
theorem d_Md_stepsToTear_25 : decode c_Md_stepsToTear 25 = .ok (.aload_n 0, 1) := by decide +kernel
theorem d_Md_stepsToTear_26 : decode c_Md_stepsToTear 26 = .ok (.iload_n 3, 1) := by decide +kernel
theorem d_Md_stepsToTear_27 : decode c_Md_stepsToTear 27 = .ok (.invokestatic 43, 3) := by decide +kernel
theorem d_Md_stepsToTear_30 : decode c_Md_stepsToTear 30 = .ok (.iconst 0, 1) := by decide +kernel
theorem d_Md_stepsToTear_31 : decode c_Md_stepsToTear 31 = .ok (.iadd, 1) := by decide +kernel
theorem d_Md_stepsToTear_32 : decode c_Md_stepsToTear 32 = .ok (.iaload, 1) := by decide +kernel
theorem d_Md_stepsToTear_33 : decode c_Md_stepsToTear 33 = .ok (.iconst 1, 1) := by decide +kernel
theorem d_Md_stepsToTear_34 : decode c_Md_stepsToTear 34 = .ok (.if_icmp .ne 7, 3) := by decide +kernel
theorem d_Md_stepsToTear_37 : decode c_Md_stepsToTear 37 = .ok (.iconst 1, 1) := by decide +kernel
theorem d_Md_stepsToTear_38 : decode c_Md_stepsToTear 38 = .ok (.goto 4, 3) := by decide +kernel
theorem d_Md_stepsToTear_41 : decode c_Md_stepsToTear 41 = .ok (.iconst 0, 1) := by decide +kernel
theorem d_Md_stepsToTear_42 : decode c_Md_stepsToTear 42 = .ok (.iadd, 1) := by decide +kernel
theorem d_Md_stepsToTear_43 : decode c_Md_stepsToTear 43 = .ok (.istore_n 2, 1) := by decide +kernel
theorem d_Md_stepsToTear_44 : decode c_Md_stepsToTear 44 = .ok (.iinc 3 1, 3) := by decide +kernel
theorem d_Md_stepsToTear_47 : decode c_Md_stepsToTear 47 = .ok (.goto (-43), 3) := by decide +kernel
theorem d_Md_stepsToTear_50 : decode c_Md_stepsToTear 50 = .ok (.iload_n 2, 1) := by decide +kernel
theorem d_Md_stepsToTear_51 : decode c_Md_stepsToTear 51 = .ok (.ireturn, 1) := by decide +kernel
theorem d_Md_saveTo_0 : decode c_Md_saveTo 0 = .ok (.aload_n 0, 1) := by decide +kernel
theorem d_Md_saveTo_1 : decode c_Md_saveTo 1 = .ok (.bipush 58, 2) := by decide +kernel
theorem d_Md_saveTo_3 : decode c_Md_saveTo 3 = .ok (.aload_n 0, 1) := by decide +kernel
theorem d_Md_saveTo_4 : decode c_Md_saveTo 4 = .ok (.bipush 58, 2) := by decide +kernel
theorem d_Md_saveTo_6 : decode c_Md_saveTo 6 = .ok (.iaload, 1) := by decide +kernel
theorem d_Md_saveTo_7 : decode c_Md_saveTo 7 = .ok (.iload_n 1, 1) := by decide +kernel
theorem d_Md_saveTo_8 : decode c_Md_saveTo 8 = .ok (.if_icmp .le 10, 3) := by decide +kernel
theorem d_Md_saveTo_11 : decode c_Md_saveTo 11 = .ok (.aload_n 0, 1) := by decide +kernel
theorem d_Md_saveTo_12 : decode c_Md_saveTo 12 = .ok (.bipush 58, 2) := by decide +kernel
theorem d_Md_saveTo_14 : decode c_Md_saveTo 14 = .ok (.iaload, 1) := by decide +kernel
theorem d_Md_saveTo_15 : decode c_Md_saveTo 15 = .ok (.goto 4, 3) := by decide +kernel
theorem d_Md_saveTo_18 : decode c_Md_saveTo 18 = .ok (.iload_n 1, 1) := by decide +kernel
theorem d_Md_saveTo_19 : decode c_Md_saveTo 19 = .ok (.iastore, 1) := by decide +kernel
theorem d_Md_saveTo_20 : decode c_Md_saveTo 20 = .ok (.return_, 1) := by decide +kernel
theorem d_Md_lose_0 : decode c_Md_lose 0 = .ok (.aload_n 0, 1) := by decide +kernel
theorem d_Md_lose_1 : decode c_Md_lose 1 = .ok (.bipush 65, 2) := by decide +kernel
theorem d_Md_lose_3 : decode c_Md_lose 3 = .ok (.dup2, 1) := by decide +kernel
theorem d_Md_lose_4 : decode c_Md_lose 4 = .ok (.iaload, 1) := by decide +kernel
theorem d_Md_lose_5 : decode c_Md_lose 5 = .ok (.aload_n 0, 1) := by decide +kernel
theorem d_Md_lose_6 : decode c_Md_lose 6 = .ok (.bipush 57, 2) := by decide +kernel
theorem d_Md_lose_8 : decode c_Md_lose 8 = .ok (.iaload, 1) := by decide +kernel
theorem d_Md_lose_9 : decode c_Md_lose 9 = .ok (.iload_n 1, 1) := by decide +kernel
theorem d_Md_lose_10 : decode c_Md_lose 10 = .ok (.isub, 1) := by decide +kernel
theorem d_Md_lose_11 : decode c_Md_lose 11 = .ok (.iadd, 1) := by decide +kernel
theorem d_Md_lose_12 : decode c_Md_lose 12 = .ok (.iastore, 1) := by decide +kernel
theorem d_Md_lose_13 : decode c_Md_lose 13 = .ok (.aload_n 0, 1) := by decide +kernel
theorem d_Md_lose_14 : decode c_Md_lose 14 = .ok (.bipush 57, 2) := by decide +kernel
theorem d_Md_lose_16 : decode c_Md_lose 16 = .ok (.iload_n 1, 1) := by decide +kernel
theorem d_Md_lose_17 : decode c_Md_lose 17 = .ok (.iastore, 1) := by decide +kernel
theorem d_Md_lose_18 : decode c_Md_lose 18 = .ok (.aload_n 0, 1) := by decide +kernel
theorem d_Md_lose_19 : decode c_Md_lose 19 = .ok (.bipush 58, 2) := by decide +kernel
theorem d_Md_lose_21 : decode c_Md_lose 21 = .ok (.aload_n 0, 1) := by decide +kernel
theorem d_Md_lose_22 : decode c_Md_lose 22 = .ok (.bipush 58, 2) := by decide +kernel
theorem d_Md_lose_24 : decode c_Md_lose 24 = .ok (.iaload, 1) := by decide +kernel
theorem d_Md_lose_25 : decode c_Md_lose 25 = .ok (.iload_n 1, 1) := by decide +kernel
theorem d_Md_lose_26 : decode c_Md_lose 26 = .ok (.if_icmp .ge 10, 3) := by decide +kernel
theorem d_Md_lose_29 : decode c_Md_lose 29 = .ok (.aload_n 0, 1) := by decide +kernel
theorem d_Md_lose_30 : decode c_Md_lose 30 = .ok (.bipush 58, 2) := by decide +kernel
theorem d_Md_lose_32 : decode c_Md_lose 32 = .ok (.iaload, 1) := by decide +kernel
theorem d_Md_lose_33 : decode c_Md_lose 33 = .ok (.goto 4, 3) := by decide +kernel
theorem d_Md_lose_36 : decode c_Md_lose 36 = .ok (.iload_n 1, 1) := by decide +kernel
theorem d_Md_lose_37 : decode c_Md_lose 37 = .ok (.iastore, 1) := by decide +kernel
theorem d_Md_lose_38 : decode c_Md_lose 38 = .ok (.aload_n 0, 1) := by decide +kernel
theorem d_Md_lose_39 : decode c_Md_lose 39 = .ok (.bipush 56, 2) := by decide +kernel
theorem d_Md_lose_41 : decode c_Md_lose 41 = .ok (.iconst 0, 1) := by decide +kernel
theorem d_Md_lose_42 : decode c_Md_lose 42 = .ok (.iastore, 1) := by decide +kernel
theorem d_Md_lose_43 : decode c_Md_lose 43 = .ok (.iconst 1, 1) := by decide +kernel
theorem d_Md_lose_44 : decode c_Md_lose 44 = .ok (.istore_n 2, 1) := by decide +kernel
theorem d_Md_lose_45 : decode c_Md_lose 45 = .ok (.iload_n 2, 1) := by decide +kernel
theorem d_Md_lose_46 : decode c_Md_lose 46 = .ok (.iload_n 1, 1) := by decide +kernel
theorem d_Md_lose_47 : decode c_Md_lose 47 = .ok (.if_icmp .gt 80, 3) := by decide +kernel
theorem d_Md_lose_50 : decode c_Md_lose 50 = .ok (.aload_n 0, 1) := by decide +kernel
theorem d_Md_lose_51 : decode c_Md_lose 51 = .ok (.iload_n 2, 1) := by decide +kernel
theorem d_Md_lose_52 : decode c_Md_lose 52 = .ok (.invokestatic 43, 3) := by decide +kernel
theorem d_Md_lose_55 : decode c_Md_lose 55 = .ok (.iconst 1, 1) := by decide +kernel
theorem d_Md_lose_56 : decode c_Md_lose 56 = .ok (.iadd, 1) := by decide +kernel
theorem d_Md_lose_57 : decode c_Md_lose 57 = .ok (.iaload, 1) := by decide +kernel
theorem d_Md_lose_58 : decode c_Md_lose 58 = .ok (.istore_n 3, 1) := by decide +kernel
theorem d_Md_lose_59 : decode c_Md_lose 59 = .ok (.aload_n 0, 1) := by decide +kernel
theorem d_Md_lose_60 : decode c_Md_lose 60 = .ok (.iload_n 2, 1) := by decide +kernel
theorem d_Md_lose_61 : decode c_Md_lose 61 = .ok (.invokestatic 43, 3) := by decide +kernel
theorem d_Md_lose_64 : decode c_Md_lose 64 = .ok (.iconst 0, 1) := by decide +kernel
theorem d_Md_lose_65 : decode c_Md_lose 65 = .ok (.iadd, 1) := by decide +kernel
theorem d_Md_lose_66 : decode c_Md_lose 66 = .ok (.iaload, 1) := by decide +kernel
theorem d_Md_lose_67 : decode c_Md_lose 67 = .ok (.istore 4, 2) := by decide +kernel
theorem d_Md_lose_69 : decode c_Md_lose 69 = .ok (.iload 4, 2) := by decide +kernel
theorem d_Md_lose_71 : decode c_Md_lose 71 = .ok (.ifCond .ne 21, 3) := by decide +kernel
theorem d_Md_lose_74 : decode c_Md_lose 74 = .ok (.aload_n 0, 1) := by decide +kernel
theorem d_Md_lose_75 : decode c_Md_lose 75 = .ok (.bipush 56, 2) := by decide +kernel
theorem d_Md_lose_77 : decode c_Md_lose 77 = .ok (.dup2, 1) := by decide +kernel
theorem d_Md_lose_78 : decode c_Md_lose 78 = .ok (.iaload, 1) := by decide +kernel
theorem d_Md_lose_79 : decode c_Md_lose 79 = .ok (.iconst 1, 1) := by decide +kernel
theorem d_Md_lose_80 : decode c_Md_lose 80 = .ok (.iadd, 1) := by decide +kernel
theorem d_Md_lose_81 : decode c_Md_lose 81 = .ok (.iastore, 1) := by decide +kernel
theorem d_Md_lose_82 : decode c_Md_lose 82 = .ok (.aload_n 0, 1) := by decide +kernel
theorem d_Md_lose_83 : decode c_Md_lose 83 = .ok (.bipush 40, 2) := by decide +kernel
theorem d_Md_lose_85 : decode c_Md_lose 85 = .ok (.iload_n 3, 1) := by decide +kernel
theorem d_Md_lose_86 : decode c_Md_lose 86 = .ok (.iadd, 1) := by decide +kernel
theorem d_Md_lose_87 : decode c_Md_lose 87 = .ok (.iconst 0, 1) := by decide +kernel
theorem d_Md_lose_88 : decode c_Md_lose 88 = .ok (.iastore, 1) := by decide +kernel
theorem d_Md_lose_89 : decode c_Md_lose 89 = .ok (.goto 32, 3) := by decide +kernel
theorem d_Md_lose_92 : decode c_Md_lose 92 = .ok (.iload 4, 2) := by decide +kernel
theorem d_Md_lose_94 : decode c_Md_lose 94 = .ok (.iconst 3, 1) := by decide +kernel
theorem d_Md_lose_95 : decode c_Md_lose 95 = .ok (.if_icmp .eq 9, 3) := by decide +kernel
theorem d_Md_lose_98 : decode c_Md_lose 98 = .ok (.iload 4, 2) := by decide +kernel
theorem d_Md_lose_100 : decode c_Md_lose 100 = .ok (.iconst 4, 1) := by decide +kernel
theorem d_Md_lose_101 : decode c_Md_lose 101 = .ok (.if_icmp .ne 20, 3) := by decide +kernel
theorem d_Md_lose_104 : decode c_Md_lose 104 = .ok (.aload_n 0, 1) := by decide +kernel
theorem d_Md_lose_105 : decode c_Md_lose 105 = .ok (.bipush 40, 2) := by decide +kernel
theorem d_Md_lose_107 : decode c_Md_lose 107 = .ok (.iload_n 3, 1) := by decide +kernel
theorem d_Md_lose_108 : decode c_Md_lose 108 = .ok (.iadd, 1) := by decide +kernel
theorem d_Md_lose_109 : decode c_Md_lose 109 = .ok (.iload 4, 2) := by decide +kernel
theorem d_Md_lose_111 : decode c_Md_lose 111 = .ok (.iconst 3, 1) := by decide +kernel
theorem d_Md_lose_112 : decode c_Md_lose 112 = .ok (.if_icmp .ne 7, 3) := by decide +kernel
theorem d_Md_lose_115 : decode c_Md_lose 115 = .ok (.iconst 1, 1) := by decide +kernel
theorem d_Md_lose_116 : decode c_Md_lose 116 = .ok (.goto 4, 3) := by decide +kernel
theorem d_Md_lose_119 : decode c_Md_lose 119 = .ok (.iconst 2, 1) := by decide +kernel
theorem d_Md_lose_120 : decode c_Md_lose 120 = .ok (.iastore, 1) := by decide +kernel
theorem d_Md_lose_121 : decode c_Md_lose 121 = .ok (.iinc 2 1, 3) := by decide +kernel
theorem d_Md_lose_124 : decode c_Md_lose 124 = .ok (.goto (-79), 3) := by decide +kernel
theorem d_Md_lose_127 : decode c_Md_lose 127 = .ok (.return_, 1) := by decide +kernel
theorem d_Md_floodOn_0 : decode c_Md_floodOn 0 = .ok (.aload_n 0, 1) := by decide +kernel
theorem d_Md_floodOn_1 : decode c_Md_floodOn 1 = .ok (.bipush 57, 2) := by decide +kernel
theorem d_Md_floodOn_3 : decode c_Md_floodOn 3 = .ok (.iaload, 1) := by decide +kernel
theorem d_Md_floodOn_4 : decode c_Md_floodOn 4 = .ok (.aload_n 0, 1) := by decide +kernel
theorem d_Md_floodOn_5 : decode c_Md_floodOn 5 = .ok (.bipush 58, 2) := by decide +kernel
theorem d_Md_floodOn_7 : decode c_Md_floodOn 7 = .ok (.iaload, 1) := by decide +kernel
theorem d_Md_floodOn_8 : decode c_Md_floodOn 8 = .ok (.isub, 1) := by decide +kernel
theorem d_Md_floodOn_9 : decode c_Md_floodOn 9 = .ok (.istore_n 1, 1) := by decide +kernel
theorem d_Md_floodOn_10 : decode c_Md_floodOn 10 = .ok (.iconst 0, 1) := by decide +kernel
theorem d_Md_floodOn_11 : decode c_Md_floodOn 11 = .ok (.istore_n 2, 1) := by decide +kernel
theorem d_Md_floodOn_12 : decode c_Md_floodOn 12 = .ok (.iload_n 2, 1) := by decide +kernel
theorem d_Md_floodOn_13 : decode c_Md_floodOn 13 = .ok (.bipush 8, 2) := by decide +kernel
theorem d_Md_floodOn_15 : decode c_Md_floodOn 15 = .ok (.if_icmp .ge 16, 3) := by decide +kernel
theorem d_Md_floodOn_18 : decode c_Md_floodOn 18 = .ok (.aload_n 0, 1) := by decide +kernel
theorem d_Md_floodOn_19 : decode c_Md_floodOn 19 = .ok (.bipush 16, 2) := by decide +kernel
theorem d_Md_floodOn_21 : decode c_Md_floodOn 21 = .ok (.iload_n 2, 1) := by decide +kernel
theorem d_Md_floodOn_22 : decode c_Md_floodOn 22 = .ok (.iadd, 1) := by decide +kernel
theorem d_Md_floodOn_23 : decode c_Md_floodOn 23 = .ok (.iconst 0, 1) := by decide +kernel
theorem d_Md_floodOn_24 : decode c_Md_floodOn 24 = .ok (.iastore, 1) := by decide +kernel
theorem d_Md_floodOn_25 : decode c_Md_floodOn 25 = .ok (.iinc 2 1, 3) := by decide +kernel
theorem d_Md_floodOn_28 : decode c_Md_floodOn 28 = .ok (.goto (-16), 3) := by decide +kernel
theorem d_Md_floodOn_31 : decode c_Md_floodOn 31 = .ok (.aload_n 0, 1) := by decide +kernel
theorem d_Md_floodOn_32 : decode c_Md_floodOn 32 = .ok (.aload_n 0, 1) := by decide +kernel
theorem d_Md_floodOn_33 : decode c_Md_floodOn 33 = .ok (.bipush 58, 2) := by decide +kernel
theorem d_Md_floodOn_35 : decode c_Md_floodOn 35 = .ok (.iaload, 1) := by decide +kernel
theorem d_Md_floodOn_36 : decode c_Md_floodOn 36 = .ok (.invokestatic 68, 3) := by decide +kernel
theorem d_Md_floodOn_39 : decode c_Md_floodOn 39 = .ok (.aload_n 0, 1) := by decide +kernel
theorem d_Md_floodOn_40 : decode c_Md_floodOn 40 = .ok (.bipush 59, 2) := by decide +kernel
theorem d_Md_floodOn_42 : decode c_Md_floodOn 42 = .ok (.iconst 1, 1) := by decide +kernel
theorem d_Md_floodOn_43 : decode c_Md_floodOn 43 = .ok (.iastore, 1) := by decide +kernel
theorem d_Md_floodOn_44 : decode c_Md_floodOn 44 = .ok (.aload_n 0, 1) := by decide +kernel
theorem d_Md_floodOn_45 : decode c_Md_floodOn 45 = .ok (.bipush 60, 2) := by decide +kernel
theorem d_Md_floodOn_47 : decode c_Md_floodOn 47 = .ok (.iconst 0, 1) := by decide +kernel
theorem d_Md_floodOn_48 : decode c_Md_floodOn 48 = .ok (.iastore, 1) := by decide +kernel
theorem d_Md_floodOn_49 : decode c_Md_floodOn 49 = .ok (.aload_n 0, 1) := by decide +kernel
theorem d_Md_floodOn_50 : decode c_Md_floodOn 50 = .ok (.bipush 63, 2) := by decide +kernel
theorem d_Md_floodOn_52 : decode c_Md_floodOn 52 = .ok (.dup2, 1) := by decide +kernel
theorem d_Md_floodOn_53 : decode c_Md_floodOn 53 = .ok (.iaload, 1) := by decide +kernel
theorem d_Md_floodOn_54 : decode c_Md_floodOn 54 = .ok (.iconst 1, 1) := by decide +kernel
theorem d_Md_floodOn_55 : decode c_Md_floodOn 55 = .ok (.iadd, 1) := by decide +kernel
theorem d_Md_floodOn_56 : decode c_Md_floodOn 56 = .ok (.iastore, 1) := by decide +kernel
theorem d_Md_floodOn_57 : decode c_Md_floodOn 57 = .ok (.aload_n 0, 1) := by decide +kernel
theorem d_Md_floodOn_58 : decode c_Md_floodOn 58 = .ok (.bipush 66, 2) := by decide +kernel
theorem d_Md_floodOn_60 : decode c_Md_floodOn 60 = .ok (.iconst 1, 1) := by decide +kernel
theorem d_Md_floodOn_61 : decode c_Md_floodOn 61 = .ok (.iastore, 1) := by decide +kernel
theorem d_Md_floodOn_62 : decode c_Md_floodOn 62 = .ok (.iload_n 1, 1) := by decide +kernel
theorem d_Md_floodOn_63 : decode c_Md_floodOn 63 = .ok (.ireturn, 1) := by decide +kernel
theorem d_Md_nextAgain_0 : decode c_Md_nextAgain 0 = .ok (.aload_n 0, 1) := by decide +kernel
theorem d_Md_nextAgain_1 : decode c_Md_nextAgain 1 = .ok (.bipush 62, 2) := by decide +kernel
theorem d_Md_nextAgain_3 : decode c_Md_nextAgain 3 = .ok (.iaload, 1) := by decide +kernel
theorem d_Md_nextAgain_4 : decode c_Md_nextAgain 4 = .ok (.iconst 1, 1) := by decide +kernel
theorem d_Md_nextAgain_5 : decode c_Md_nextAgain 5 = .ok (.iadd, 1) := by decide +kernel
theorem d_Md_nextAgain_6 : decode c_Md_nextAgain 6 = .ok (.istore_n 1, 1) := by decide +kernel
theorem d_Md_nextAgain_7 : decode c_Md_nextAgain 7 = .ok (.iload_n 1, 1) := by decide +kernel
theorem d_Md_nextAgain_8 : decode c_Md_nextAgain 8 = .ok (.aload_n 0, 1) := by decide +kernel
theorem d_Md_nextAgain_9 : decode c_Md_nextAgain 9 = .ok (.bipush 61, 2) := by decide +kernel
theorem d_Md_nextAgain_11 : decode c_Md_nextAgain 11 = .ok (.iaload, 1) := by decide +kernel
theorem d_Md_nextAgain_12 : decode c_Md_nextAgain 12 = .ok (.if_icmp .gt 35, 3) := by decide +kernel
theorem d_Md_nextAgain_15 : decode c_Md_nextAgain 15 = .ok (.aload_n 0, 1) := by decide +kernel
theorem d_Md_nextAgain_16 : decode c_Md_nextAgain 16 = .ok (.iload_n 1, 1) := by decide +kernel
theorem d_Md_nextAgain_17 : decode c_Md_nextAgain 17 = .ok (.invokestatic 43, 3) := by decide +kernel
theorem d_Md_nextAgain_20 : decode c_Md_nextAgain 20 = .ok (.iconst 0, 1) := by decide +kernel
theorem d_Md_nextAgain_21 : decode c_Md_nextAgain 21 = .ok (.iadd, 1) := by decide +kernel
theorem d_Md_nextAgain_22 : decode c_Md_nextAgain 22 = .ok (.iaload, 1) := by decide +kernel
theorem d_Md_nextAgain_23 : decode c_Md_nextAgain 23 = .ok (.iconst 1, 1) := by decide +kernel
theorem d_Md_nextAgain_24 : decode c_Md_nextAgain 24 = .ok (.if_icmp .eq 15, 3) := by decide +kernel
theorem d_Md_nextAgain_27 : decode c_Md_nextAgain 27 = .ok (.aload_n 0, 1) := by decide +kernel
theorem d_Md_nextAgain_28 : decode c_Md_nextAgain 28 = .ok (.iload_n 1, 1) := by decide +kernel
theorem d_Md_nextAgain_29 : decode c_Md_nextAgain 29 = .ok (.invokestatic 43, 3) := by decide +kernel
theorem d_Md_nextAgain_32 : decode c_Md_nextAgain 32 = .ok (.iconst 0, 1) := by decide +kernel
theorem d_Md_nextAgain_33 : decode c_Md_nextAgain 33 = .ok (.iadd, 1) := by decide +kernel
theorem d_Md_nextAgain_34 : decode c_Md_nextAgain 34 = .ok (.iaload, 1) := by decide +kernel
theorem d_Md_nextAgain_35 : decode c_Md_nextAgain 35 = .ok (.iconst 2, 1) := by decide +kernel
theorem d_Md_nextAgain_36 : decode c_Md_nextAgain 36 = .ok (.if_icmp .ne 5, 3) := by decide +kernel
theorem d_Md_nextAgain_39 : decode c_Md_nextAgain 39 = .ok (.iload_n 1, 1) := by decide +kernel
theorem d_Md_nextAgain_40 : decode c_Md_nextAgain 40 = .ok (.ireturn, 1) := by decide +kernel
theorem d_Md_nextAgain_41 : decode c_Md_nextAgain 41 = .ok (.iinc 1 1, 3) := by decide +kernel
theorem d_Md_nextAgain_44 : decode c_Md_nextAgain 44 = .ok (.goto (-37), 3) := by decide +kernel
theorem d_Md_nextAgain_47 : decode c_Md_nextAgain 47 = .ok (.iconst 0, 1) := by decide +kernel
theorem d_Md_nextAgain_48 : decode c_Md_nextAgain 48 = .ok (.ireturn, 1) := by decide +kernel
theorem d_Md_nextBack_0 : decode c_Md_nextBack 0 = .ok (.bipush (-6), 2) := by decide +kernel
theorem d_Md_nextBack_2 : decode c_Md_nextBack 2 = .ok (.istore_n 1, 1) := by decide +kernel
theorem d_Md_nextBack_3 : decode c_Md_nextBack 3 = .ok (.iconst 0, 1) := by decide +kernel
theorem d_Md_nextBack_4 : decode c_Md_nextBack 4 = .ok (.istore_n 2, 1) := by decide +kernel
theorem d_Md_nextBack_5 : decode c_Md_nextBack 5 = .ok (.iload_n 2, 1) := by decide +kernel
theorem d_Md_nextBack_6 : decode c_Md_nextBack 6 = .ok (.aload_n 0, 1) := by decide +kernel
theorem d_Md_nextBack_7 : decode c_Md_nextBack 7 = .ok (.bipush 56, 2) := by decide +kernel
theorem d_Md_nextBack_9 : decode c_Md_nextBack 9 = .ok (.iaload, 1) := by decide +kernel
theorem d_Md_nextBack_10 : decode c_Md_nextBack 10 = .ok (.if_icmp .ge 43, 3) := by decide +kernel
theorem d_Md_nextBack_13 : decode c_Md_nextBack 13 = .ok (.aload_n 0, 1) := by decide +kernel
theorem d_Md_nextBack_14 : decode c_Md_nextBack 14 = .ok (.bipush 40, 2) := by decide +kernel
theorem d_Md_nextBack_16 : decode c_Md_nextBack 16 = .ok (.iload_n 2, 1) := by decide +kernel
theorem d_Md_nextBack_17 : decode c_Md_nextBack 17 = .ok (.iadd, 1) := by decide +kernel
theorem d_Md_nextBack_18 : decode c_Md_nextBack 18 = .ok (.iaload, 1) := by decide +kernel
theorem d_Md_nextBack_19 : decode c_Md_nextBack 19 = .ok (.ifCond .ne 26, 3) := by decide +kernel
theorem d_Md_nextBack_22 : decode c_Md_nextBack 22 = .ok (.iload_n 1, 1) := by decide +kernel
theorem d_Md_nextBack_23 : decode c_Md_nextBack 23 = .ok (.bipush (-6), 2) := by decide +kernel
theorem d_Md_nextBack_25 : decode c_Md_nextBack 25 = .ok (.if_icmp .eq 16, 3) := by decide +kernel
theorem d_Md_nextBack_28 : decode c_Md_nextBack 28 = .ok (.aload_n 0, 1) := by decide +kernel
theorem d_Md_nextBack_29 : decode c_Md_nextBack 29 = .ok (.iload_n 2, 1) := by decide +kernel
theorem d_Md_nextBack_30 : decode c_Md_nextBack 30 = .ok (.invokestatic 54, 3) := by decide +kernel
theorem d_Md_nextBack_33 : decode c_Md_nextBack 33 = .ok (.aload_n 0, 1) := by decide +kernel
theorem d_Md_nextBack_34 : decode c_Md_nextBack 34 = .ok (.iload_n 1, 1) := by decide +kernel
theorem d_Md_nextBack_35 : decode c_Md_nextBack 35 = .ok (.invokestatic 54, 3) := by decide +kernel
theorem d_Md_nextBack_38 : decode c_Md_nextBack 38 = .ok (.if_icmp .le 7, 3) := by decide +kernel
theorem d_Md_nextBack_41 : decode c_Md_nextBack 41 = .ok (.iload_n 2, 1) := by decide +kernel
theorem d_Md_nextBack_42 : decode c_Md_nextBack 42 = .ok (.goto 4, 3) := by decide +kernel
theorem d_Md_nextBack_45 : decode c_Md_nextBack 45 = .ok (.iload_n 1, 1) := by decide +kernel
theorem d_Md_nextBack_46 : decode c_Md_nextBack 46 = .ok (.istore_n 1, 1) := by decide +kernel
theorem d_Md_nextBack_47 : decode c_Md_nextBack 47 = .ok (.iinc 2 1, 3) := by decide +kernel
theorem d_Md_nextBack_50 : decode c_Md_nextBack 50 = .ok (.goto (-45), 3) := by decide +kernel
theorem d_Md_nextBack_53 : decode c_Md_nextBack 53 = .ok (.iload_n 1, 1) := by decide +kernel
theorem d_Md_nextBack_54 : decode c_Md_nextBack 54 = .ok (.ireturn, 1) := by decide +kernel
theorem d_Md_isLeft_0 : decode c_Md_isLeft 0 = .ok (.aload_n 0, 1) := by decide +kernel
theorem d_Md_isLeft_1 : decode c_Md_isLeft 1 = .ok (.invokestatic 71, 3) := by decide +kernel
theorem d_Md_isLeft_4 : decode c_Md_isLeft 4 = .ok (.ifCond .gt 12, 3) := by decide +kernel
theorem d_Md_isLeft_7 : decode c_Md_isLeft 7 = .ok (.aload_n 0, 1) := by decide +kernel
theorem d_Md_isLeft_8 : decode c_Md_isLeft 8 = .ok (.invokestatic 75, 3) := by decide +kernel
theorem d_Md_isLeft_11 : decode c_Md_isLeft 11 = .ok (.bipush (-6), 2) := by decide +kernel
theorem d_Md_isLeft_13 : decode c_Md_isLeft 13 = .ok (.if_icmp .eq 7, 3) := by decide +kernel
theorem d_Md_isLeft_16 : decode c_Md_isLeft 16 = .ok (.iconst 1, 1) := by decide +kernel
theorem d_Md_isLeft_17 : decode c_Md_isLeft 17 = .ok (.goto 4, 3) := by decide +kernel
theorem d_Md_isLeft_20 : decode c_Md_isLeft 20 = .ok (.iconst 0, 1) := by decide +kernel
theorem d_Md_isLeft_21 : decode c_Md_isLeft 21 = .ok (.ireturn, 1) := by decide +kernel
theorem d_Md_step_0 : decode c_Md_step 0 = .ok (.aload_n 0, 1) := by decide +kernel
theorem d_Md_step_1 : decode c_Md_step 1 = .ok (.invokestatic 71, 3) := by decide +kernel
theorem d_Md_step_4 : decode c_Md_step 4 = .ok (.istore_n 1, 1) := by decide +kernel
theorem d_Md_step_5 : decode c_Md_step 5 = .ok (.iload_n 1, 1) := by decide +kernel
theorem d_Md_step_6 : decode c_Md_step 6 = .ok (.ifCond .ne 12, 3) := by decide +kernel
theorem d_Md_step_9 : decode c_Md_step 9 = .ok (.aload_n 0, 1) := by decide +kernel
theorem d_Md_step_10 : decode c_Md_step 10 = .ok (.aload_n 0, 1) := by decide +kernel
theorem d_Md_step_11 : decode c_Md_step 11 = .ok (.invokestatic 75, 3) := by decide +kernel
theorem d_Md_step_14 : decode c_Md_step 14 = .ok (.invokestatic 65, 3) := by decide +kernel
theorem d_Md_step_17 : decode c_Md_step 17 = .ok (.return_, 1) := by decide +kernel
theorem d_Md_step_18 : decode c_Md_step 18 = .ok (.aload_n 0, 1) := by decide +kernel
theorem d_Md_step_19 : decode c_Md_step 19 = .ok (.bipush 62, 2) := by decide +kernel
theorem d_Md_step_21 : decode c_Md_step 21 = .ok (.iload_n 1, 1) := by decide +kernel
theorem d_Md_step_22 : decode c_Md_step 22 = .ok (.iastore, 1) := by decide +kernel
theorem d_Md_step_23 : decode c_Md_step 23 = .ok (.aload_n 0, 1) := by decide +kernel
theorem d_Md_step_24 : decode c_Md_step 24 = .ok (.iload_n 1, 1) := by decide +kernel
theorem d_Md_step_25 : decode c_Md_step 25 = .ok (.invokestatic 43, 3) := by decide +kernel
theorem d_Md_step_28 : decode c_Md_step 28 = .ok (.iconst 3, 1) := by decide +kernel
theorem d_Md_step_29 : decode c_Md_step 29 = .ok (.iadd, 1) := by decide +kernel
theorem d_Md_step_30 : decode c_Md_step 30 = .ok (.iaload, 1) := by decide +kernel
theorem d_Md_step_31 : decode c_Md_step 31 = .ok (.istore_n 2, 1) := by decide +kernel
theorem d_Md_step_32 : decode c_Md_step 32 = .ok (.aload_n 0, 1) := by decide +kernel
theorem d_Md_step_33 : decode c_Md_step 33 = .ok (.iload_n 2, 1) := by decide +kernel
theorem d_Md_step_34 : decode c_Md_step 34 = .ok (.invokestatic 39, 3) := by decide +kernel
theorem d_Md_step_37 : decode c_Md_step 37 = .ok (.aload_n 0, 1) := by decide +kernel
theorem d_Md_step_38 : decode c_Md_step 38 = .ok (.bipush 32, 2) := by decide +kernel
theorem d_Md_step_40 : decode c_Md_step 40 = .ok (.iload_n 2, 1) := by decide +kernel
theorem d_Md_step_41 : decode c_Md_step 41 = .ok (.iadd, 1) := by decide +kernel
theorem d_Md_step_42 : decode c_Md_step 42 = .ok (.iaload, 1) := by decide +kernel
theorem d_Md_step_43 : decode c_Md_step 43 = .ok (.iload_n 1, 1) := by decide +kernel
theorem d_Md_step_44 : decode c_Md_step 44 = .ok (.if_icmp .ge 17, 3) := by decide +kernel
theorem d_Md_step_47 : decode c_Md_step 47 = .ok (.aload_n 0, 1) := by decide +kernel
theorem d_Md_step_48 : decode c_Md_step 48 = .ok (.iload_n 2, 1) := by decide +kernel
theorem d_Md_step_49 : decode c_Md_step 49 = .ok (.aload_n 0, 1) := by decide +kernel
theorem d_Md_step_50 : decode c_Md_step 50 = .ok (.iload_n 1, 1) := by decide +kernel
theorem d_Md_step_51 : decode c_Md_step 51 = .ok (.invokestatic 43, 3) := by decide +kernel
theorem d_Md_step_54 : decode c_Md_step 54 = .ok (.iconst 5, 1) := by decide +kernel
theorem d_Md_step_55 : decode c_Md_step 55 = .ok (.iadd, 1) := by decide +kernel
theorem d_Md_step_56 : decode c_Md_step 56 = .ok (.iaload, 1) := by decide +kernel
theorem d_Md_step_57 : decode c_Md_step 57 = .ok (.iload_n 1, 1) := by decide +kernel
theorem d_Md_step_58 : decode c_Md_step 58 = .ok (.invokestatic 61, 3) := by decide +kernel
theorem d_Md_step_61 : decode c_Md_step 61 = .ok (.return_, 1) := by decide +kernel
theorem d_Md_mendOn_0 : decode c_Md_mendOn 0 = .ok (.aload_n 0, 1) := by decide +kernel
theorem d_Md_mendOn_1 : decode c_Md_mendOn 1 = .ok (.bipush 60, 2) := by decide +kernel
theorem d_Md_mendOn_3 : decode c_Md_mendOn 3 = .ok (.iaload, 1) := by decide +kernel
theorem d_Md_mendOn_4 : decode c_Md_mendOn 4 = .ok (.ifCond .ne 21, 3) := by decide +kernel
theorem d_Md_mendOn_7 : decode c_Md_mendOn 7 = .ok (.aload_n 0, 1) := by decide +kernel
theorem d_Md_mendOn_8 : decode c_Md_mendOn 8 = .ok (.bipush 60, 2) := by decide +kernel
theorem d_Md_mendOn_10 : decode c_Md_mendOn 10 = .ok (.iconst 1, 1) := by decide +kernel
theorem d_Md_mendOn_11 : decode c_Md_mendOn 11 = .ok (.iastore, 1) := by decide +kernel
theorem d_Md_mendOn_12 : decode c_Md_mendOn 12 = .ok (.aload_n 0, 1) := by decide +kernel
theorem d_Md_mendOn_13 : decode c_Md_mendOn 13 = .ok (.bipush 61, 2) := by decide +kernel
theorem d_Md_mendOn_15 : decode c_Md_mendOn 15 = .ok (.aload_n 0, 1) := by decide +kernel
theorem d_Md_mendOn_16 : decode c_Md_mendOn 16 = .ok (.bipush 57, 2) := by decide +kernel
theorem d_Md_mendOn_18 : decode c_Md_mendOn 18 = .ok (.iaload, 1) := by decide +kernel
theorem d_Md_mendOn_19 : decode c_Md_mendOn 19 = .ok (.iastore, 1) := by decide +kernel
theorem d_Md_mendOn_20 : decode c_Md_mendOn 20 = .ok (.aload_n 0, 1) := by decide +kernel
theorem d_Md_mendOn_21 : decode c_Md_mendOn 21 = .ok (.bipush 62, 2) := by decide +kernel
theorem d_Md_mendOn_23 : decode c_Md_mendOn 23 = .ok (.iconst 0, 1) := by decide +kernel
theorem d_Md_mendOn_24 : decode c_Md_mendOn 24 = .ok (.iastore, 1) := by decide +kernel
theorem d_Md_mendOn_25 : decode c_Md_mendOn 25 = .ok (.iconst 0, 1) := by decide +kernel
theorem d_Md_mendOn_26 : decode c_Md_mendOn 26 = .ok (.istore_n 2, 1) := by decide +kernel
theorem d_Md_mendOn_27 : decode c_Md_mendOn 27 = .ok (.iload_n 2, 1) := by decide +kernel
theorem d_Md_mendOn_28 : decode c_Md_mendOn 28 = .ok (.iload_n 1, 1) := by decide +kernel
theorem d_Md_mendOn_29 : decode c_Md_mendOn 29 = .ok (.if_icmp .ge 20, 3) := by decide +kernel
theorem d_Md_mendOn_32 : decode c_Md_mendOn 32 = .ok (.aload_n 0, 1) := by decide +kernel
theorem d_Md_mendOn_33 : decode c_Md_mendOn 33 = .ok (.invokestatic 78, 3) := by decide +kernel
theorem d_Md_mendOn_36 : decode c_Md_mendOn 36 = .ok (.ifCond .eq 13, 3) := by decide +kernel
theorem d_Md_mendOn_39 : decode c_Md_mendOn 39 = .ok (.aload_n 0, 1) := by decide +kernel
theorem d_Md_mendOn_40 : decode c_Md_mendOn 40 = .ok (.invokestatic 82, 3) := by decide +kernel
theorem d_Md_mendOn_43 : decode c_Md_mendOn 43 = .ok (.iinc 2 1, 3) := by decide +kernel
theorem d_Md_mendOn_46 : decode c_Md_mendOn 46 = .ok (.goto (-19), 3) := by decide +kernel
theorem d_Md_mendOn_49 : decode c_Md_mendOn 49 = .ok (.aload_n 0, 1) := by decide +kernel
theorem d_Md_mendOn_50 : decode c_Md_mendOn 50 = .ok (.bipush 64, 2) := by decide +kernel
theorem d_Md_mendOn_52 : decode c_Md_mendOn 52 = .ok (.dup2, 1) := by decide +kernel
theorem d_Md_mendOn_53 : decode c_Md_mendOn 53 = .ok (.iaload, 1) := by decide +kernel
theorem d_Md_mendOn_54 : decode c_Md_mendOn 54 = .ok (.iload_n 2, 1) := by decide +kernel
theorem d_Md_mendOn_55 : decode c_Md_mendOn 55 = .ok (.iadd, 1) := by decide +kernel
theorem d_Md_mendOn_56 : decode c_Md_mendOn 56 = .ok (.iastore, 1) := by decide +kernel
theorem d_Md_mendOn_57 : decode c_Md_mendOn 57 = .ok (.aload_n 0, 1) := by decide +kernel
theorem d_Md_mendOn_58 : decode c_Md_mendOn 58 = .ok (.invokestatic 78, 3) := by decide +kernel
theorem d_Md_mendOn_61 : decode c_Md_mendOn 61 = .ok (.ifCond .ne 16, 3) := by decide +kernel
theorem d_Md_mendOn_64 : decode c_Md_mendOn 64 = .ok (.aload_n 0, 1) := by decide +kernel
theorem d_Md_mendOn_65 : decode c_Md_mendOn 65 = .ok (.bipush 59, 2) := by decide +kernel
theorem d_Md_mendOn_67 : decode c_Md_mendOn 67 = .ok (.iconst 0, 1) := by decide +kernel
theorem d_Md_mendOn_68 : decode c_Md_mendOn 68 = .ok (.iastore, 1) := by decide +kernel
theorem d_Md_mendOn_69 : decode c_Md_mendOn 69 = .ok (.aload_n 0, 1) := by decide +kernel
theorem d_Md_mendOn_70 : decode c_Md_mendOn 70 = .ok (.bipush 58, 2) := by decide +kernel
theorem d_Md_mendOn_72 : decode c_Md_mendOn 72 = .ok (.aload_n 0, 1) := by decide +kernel
theorem d_Md_mendOn_73 : decode c_Md_mendOn 73 = .ok (.bipush 57, 2) := by decide +kernel
theorem d_Md_mendOn_75 : decode c_Md_mendOn 75 = .ok (.iaload, 1) := by decide +kernel
theorem d_Md_mendOn_76 : decode c_Md_mendOn 76 = .ok (.iastore, 1) := by decide +kernel
theorem d_Md_mendOn_77 : decode c_Md_mendOn 77 = .ok (.iload_n 2, 1) := by decide +kernel
theorem d_Md_mendOn_78 : decode c_Md_mendOn 78 = .ok (.ireturn, 1) := by decide +kernel
theorem d_Md_whyNotBegin_0 : decode c_Md_whyNotBegin 0 = .ok (.aload_n 0, 1) := by decide +kernel
theorem d_Md_whyNotBegin_1 : decode c_Md_whyNotBegin 1 = .ok (.bipush 56, 2) := by decide +kernel
theorem d_Md_whyNotBegin_3 : decode c_Md_whyNotBegin 3 = .ok (.iaload, 1) := by decide +kernel
theorem d_Md_whyNotBegin_4 : decode c_Md_whyNotBegin 4 = .ok (.bipush 16, 2) := by decide +kernel
theorem d_Md_whyNotBegin_6 : decode c_Md_whyNotBegin 6 = .ok (.if_icmp .eq 13, 3) := by decide +kernel
theorem d_Md_whyNotBegin_9 : decode c_Md_whyNotBegin 9 = .ok (.aload_n 0, 1) := by decide +kernel
theorem d_Md_whyNotBegin_10 : decode c_Md_whyNotBegin 10 = .ok (.bipush 57, 2) := by decide +kernel
theorem d_Md_whyNotBegin_12 : decode c_Md_whyNotBegin 12 = .ok (.iaload, 1) := by decide +kernel
theorem d_Md_whyNotBegin_13 : decode c_Md_whyNotBegin 13 = .ok (.sipush 150, 3) := by decide +kernel
theorem d_Md_whyNotBegin_16 : decode c_Md_whyNotBegin 16 = .ok (.if_icmp .lt 8, 3) := by decide +kernel
theorem d_Md_whyNotBegin_19 : decode c_Md_whyNotBegin 19 = .ok (.bipush (-4), 2) := by decide +kernel
theorem d_Md_whyNotBegin_21 : decode c_Md_whyNotBegin 21 = .ok (.goto 17, 3) := by decide +kernel
theorem d_Md_whyNotBegin_24 : decode c_Md_whyNotBegin 24 = .ok (.aload_n 0, 1) := by decide +kernel
theorem d_Md_whyNotBegin_25 : decode c_Md_whyNotBegin 25 = .ok (.bipush 59, 2) := by decide +kernel
theorem d_Md_whyNotBegin_27 : decode c_Md_whyNotBegin 27 = .ok (.iaload, 1) := by decide +kernel
theorem d_Md_whyNotBegin_28 : decode c_Md_whyNotBegin 28 = .ok (.iconst 1, 1) := by decide +kernel
theorem d_Md_whyNotBegin_29 : decode c_Md_whyNotBegin 29 = .ok (.if_icmp .ne 8, 3) := by decide +kernel
theorem d_Md_whyNotBegin_32 : decode c_Md_whyNotBegin 32 = .ok (.bipush (-5), 2) := by decide +kernel
theorem d_Md_whyNotBegin_34 : decode c_Md_whyNotBegin 34 = .ok (.goto 4, 3) := by decide +kernel
theorem d_Md_whyNotBegin_37 : decode c_Md_whyNotBegin 37 = .ok (.iconst 0, 1) := by decide +kernel
theorem d_Md_whyNotBegin_38 : decode c_Md_whyNotBegin 38 = .ok (.ireturn, 1) := by decide +kernel
theorem d_Md_beginOn_0 : decode c_Md_beginOn 0 = .ok (.aload_n 0, 1) := by decide +kernel
theorem d_Md_beginOn_1 : decode c_Md_beginOn 1 = .ok (.bipush 56, 2) := by decide +kernel
theorem d_Md_beginOn_3 : decode c_Md_beginOn 3 = .ok (.iaload, 1) := by decide +kernel
theorem d_Md_beginOn_4 : decode c_Md_beginOn 4 = .ok (.istore_n 1, 1) := by decide +kernel
theorem d_Md_beginOn_5 : decode c_Md_beginOn 5 = .ok (.aload_n 0, 1) := by decide +kernel
theorem d_Md_beginOn_6 : decode c_Md_beginOn 6 = .ok (.bipush 40, 2) := by decide +kernel
theorem d_Md_beginOn_8 : decode c_Md_beginOn 8 = .ok (.iload_n 1, 1) := by decide +kernel
theorem d_Md_beginOn_9 : decode c_Md_beginOn 9 = .ok (.iadd, 1) := by decide +kernel
theorem d_Md_beginOn_10 : decode c_Md_beginOn 10 = .ok (.iconst 0, 1) := by decide +kernel
theorem d_Md_beginOn_11 : decode c_Md_beginOn 11 = .ok (.iastore, 1) := by decide +kernel
theorem d_Md_beginOn_12 : decode c_Md_beginOn 12 = .ok (.aload_n 0, 1) := by decide +kernel
theorem d_Md_beginOn_13 : decode c_Md_beginOn 13 = .ok (.bipush 56, 2) := by decide +kernel
theorem d_Md_beginOn_15 : decode c_Md_beginOn 15 = .ok (.dup2, 1) := by decide +kernel
theorem d_Md_beginOn_16 : decode c_Md_beginOn 16 = .ok (.iaload, 1) := by decide +kernel
theorem d_Md_beginOn_17 : decode c_Md_beginOn 17 = .ok (.iconst 1, 1) := by decide +kernel
theorem d_Md_beginOn_18 : decode c_Md_beginOn 18 = .ok (.iadd, 1) := by decide +kernel
theorem d_Md_beginOn_19 : decode c_Md_beginOn 19 = .ok (.iastore, 1) := by decide +kernel
theorem d_Md_beginOn_20 : decode c_Md_beginOn 20 = .ok (.aload_n 0, 1) := by decide +kernel
theorem d_Md_beginOn_21 : decode c_Md_beginOn 21 = .ok (.iconst 0, 1) := by decide +kernel
theorem d_Md_beginOn_22 : decode c_Md_beginOn 22 = .ok (.iload_n 1, 1) := by decide +kernel
theorem d_Md_beginOn_23 : decode c_Md_beginOn 23 = .ok (.bipush (-6), 2) := by decide +kernel
theorem d_Md_beginOn_25 : decode c_Md_beginOn 25 = .ok (.bipush (-6), 2) := by decide +kernel
theorem d_Md_beginOn_27 : decode c_Md_beginOn 27 = .ok (.bipush (-6), 2) := by decide +kernel
theorem d_Md_beginOn_29 : decode c_Md_beginOn 29 = .ok (.bipush (-6), 2) := by decide +kernel
theorem d_Md_beginOn_31 : decode c_Md_beginOn 31 = .ok (.invokestatic 57, 3) := by decide +kernel
theorem d_Md_beginOn_34 : decode c_Md_beginOn 34 = .ok (.pop, 1) := by decide +kernel
theorem d_Md_beginOn_35 : decode c_Md_beginOn 35 = .ok (.iload_n 1, 1) := by decide +kernel
theorem d_Md_beginOn_36 : decode c_Md_beginOn 36 = .ok (.ireturn, 1) := by decide +kernel
theorem d_Md_isStopped_0 : decode c_Md_isStopped 0 = .ok (.aload_n 0, 1) := by decide +kernel
theorem d_Md_isStopped_1 : decode c_Md_isStopped 1 = .ok (.bipush 59, 2) := by decide +kernel
theorem d_Md_isStopped_3 : decode c_Md_isStopped 3 = .ok (.iaload, 1) := by decide +kernel
theorem d_Md_isStopped_4 : decode c_Md_isStopped 4 = .ok (.iconst 1, 1) := by decide +kernel
theorem d_Md_isStopped_5 : decode c_Md_isStopped 5 = .ok (.if_icmp .eq 12, 3) := by decide +kernel
theorem d_Md_isStopped_8 : decode c_Md_isStopped 8 = .ok (.aload_n 0, 1) := by decide +kernel
theorem d_Md_isStopped_9 : decode c_Md_isStopped 9 = .ok (.bipush 40, 2) := by decide +kernel
theorem d_Md_isStopped_11 : decode c_Md_isStopped 11 = .ok (.iload_n 1, 1) := by decide +kernel
theorem d_Md_isStopped_12 : decode c_Md_isStopped 12 = .ok (.iadd, 1) := by decide +kernel
theorem d_Md_isStopped_13 : decode c_Md_isStopped 13 = .ok (.iaload, 1) := by decide +kernel
theorem d_Md_isStopped_14 : decode c_Md_isStopped 14 = .ok (.ifCond .eq 7, 3) := by decide +kernel
theorem d_Md_isStopped_17 : decode c_Md_isStopped 17 = .ok (.iconst 1, 1) := by decide +kernel
theorem d_Md_isStopped_18 : decode c_Md_isStopped 18 = .ok (.goto 4, 3) := by decide +kernel
theorem d_Md_isStopped_21 : decode c_Md_isStopped 21 = .ok (.iconst 0, 1) := by decide +kernel
theorem d_Md_isStopped_22 : decode c_Md_isStopped 22 = .ok (.ireturn, 1) := by decide +kernel
theorem d_Md_whyNotWrite_0 : decode c_Md_whyNotWrite 0 = .ok (.aload_n 0, 1) := by decide +kernel
theorem d_Md_whyNotWrite_1 : decode c_Md_whyNotWrite 1 = .ok (.iload_n 1, 1) := by decide +kernel
theorem d_Md_whyNotWrite_2 : decode c_Md_whyNotWrite 2 = .ok (.invokestatic 99, 3) := by decide +kernel
theorem d_Md_whyNotWrite_5 : decode c_Md_whyNotWrite 5 = .ok (.ifCond .eq 10, 3) := by decide +kernel
theorem d_Md_whyNotWrite_8 : decode c_Md_whyNotWrite 8 = .ok (.iload_n 2, 1) := by decide +kernel
theorem d_Md_whyNotWrite_9 : decode c_Md_whyNotWrite 9 = .ok (.invokestatic 103, 3) := by decide +kernel
theorem d_Md_whyNotWrite_12 : decode c_Md_whyNotWrite 12 = .ok (.ifCond .ne 5, 3) := by decide +kernel
theorem d_Md_whyNotWrite_15 : decode c_Md_whyNotWrite 15 = .ok (.iconst (-1), 1) := by decide +kernel
theorem d_Md_whyNotWrite_16 : decode c_Md_whyNotWrite 16 = .ok (.ireturn, 1) := by decide +kernel
theorem d_Md_whyNotWrite_17 : decode c_Md_whyNotWrite 17 = .ok (.iload_n 3, 1) := by decide +kernel
theorem d_Md_whyNotWrite_18 : decode c_Md_whyNotWrite 18 = .ok (.i2l, 1) := by decide +kernel
theorem d_Md_whyNotWrite_19 : decode c_Md_whyNotWrite 19 = .ok (.lconst 0, 1) := by decide +kernel
theorem d_Md_whyNotWrite_20 : decode c_Md_whyNotWrite 20 = .ok (.ldc2_w 107, 3) := by decide +kernel
theorem d_Md_whyNotWrite_23 : decode c_Md_whyNotWrite 23 = .ok (.invokestatic 35, 3) := by decide +kernel
theorem d_Md_whyNotWrite_26 : decode c_Md_whyNotWrite 26 = .ok (.ifCond .ne 6, 3) := by decide +kernel
theorem d_Md_whyNotWrite_29 : decode c_Md_whyNotWrite 29 = .ok (.bipush (-2), 2) := by decide +kernel
theorem d_Md_whyNotWrite_31 : decode c_Md_whyNotWrite 31 = .ok (.ireturn, 1) := by decide +kernel
theorem d_Md_whyNotWrite_32 : decode c_Md_whyNotWrite 32 = .ok (.aload_n 0, 1) := by decide +kernel
theorem d_Md_whyNotWrite_33 : decode c_Md_whyNotWrite 33 = .ok (.bipush 57, 2) := by decide +kernel
theorem d_Md_whyNotWrite_35 : decode c_Md_whyNotWrite 35 = .ok (.iaload, 1) := by decide +kernel
theorem d_Md_whyNotWrite_36 : decode c_Md_whyNotWrite 36 = .ok (.sipush 150, 3) := by decide +kernel
theorem d_Md_whyNotWrite_39 : decode c_Md_whyNotWrite 39 = .ok (.if_icmp .lt 6, 3) := by decide +kernel
theorem d_Md_whyNotWrite_42 : decode c_Md_whyNotWrite 42 = .ok (.bipush (-4), 2) := by decide +kernel
theorem d_Md_whyNotWrite_44 : decode c_Md_whyNotWrite 44 = .ok (.ireturn, 1) := by decide +kernel
theorem d_Md_whyNotWrite_45 : decode c_Md_whyNotWrite 45 = .ok (.aload_n 0, 1) := by decide +kernel
theorem d_Md_whyNotWrite_46 : decode c_Md_whyNotWrite 46 = .ok (.iload_n 2, 1) := by decide +kernel
theorem d_Md_whyNotWrite_47 : decode c_Md_whyNotWrite 47 = .ok (.invokestatic 109, 3) := by decide +kernel
theorem d_Md_whyNotWrite_50 : decode c_Md_whyNotWrite 50 = .ok (.istore 4, 2) := by decide +kernel
theorem d_Md_whyNotWrite_52 : decode c_Md_whyNotWrite 52 = .ok (.aload_n 0, 1) := by decide +kernel
theorem d_Md_whyNotWrite_53 : decode c_Md_whyNotWrite 53 = .ok (.iload_n 1, 1) := by decide +kernel
theorem d_Md_whyNotWrite_54 : decode c_Md_whyNotWrite 54 = .ok (.invokestatic 112, 3) := by decide +kernel
theorem d_Md_whyNotWrite_57 : decode c_Md_whyNotWrite 57 = .ok (.ifCond .ne 16, 3) := by decide +kernel
theorem d_Md_whyNotWrite_60 : decode c_Md_whyNotWrite 60 = .ok (.iload 4, 2) := by decide +kernel
theorem d_Md_whyNotWrite_62 : decode c_Md_whyNotWrite 62 = .ok (.bipush (-6), 2) := by decide +kernel
theorem d_Md_whyNotWrite_64 : decode c_Md_whyNotWrite 64 = .ok (.if_icmp .eq 14, 3) := by decide +kernel
theorem d_Md_whyNotWrite_67 : decode c_Md_whyNotWrite 67 = .ok (.iload 4, 2) := by decide +kernel
theorem d_Md_whyNotWrite_69 : decode c_Md_whyNotWrite 69 = .ok (.iload_n 1, 1) := by decide +kernel
theorem d_Md_whyNotWrite_70 : decode c_Md_whyNotWrite 70 = .ok (.if_icmp .eq 8, 3) := by decide +kernel
theorem d_Md_whyNotWrite_73 : decode c_Md_whyNotWrite 73 = .ok (.bipush (-5), 2) := by decide +kernel
theorem d_Md_whyNotWrite_75 : decode c_Md_whyNotWrite 75 = .ok (.goto 4, 3) := by decide +kernel
theorem d_Md_whyNotWrite_78 : decode c_Md_whyNotWrite 78 = .ok (.iconst 0, 1) := by decide +kernel
theorem d_Md_whyNotWrite_79 : decode c_Md_whyNotWrite 79 = .ok (.ireturn, 1) := by decide +kernel
theorem d_Md_writeOn_0 : decode c_Md_writeOn 0 = .ok (.aload_n 0, 1) := by decide +kernel
theorem d_Md_writeOn_1 : decode c_Md_writeOn 1 = .ok (.iload_n 2, 1) := by decide +kernel
theorem d_Md_writeOn_2 : decode c_Md_writeOn 2 = .ok (.invokestatic 39, 3) := by decide +kernel
theorem d_Md_writeOn_5 : decode c_Md_writeOn 5 = .ok (.aload_n 0, 1) := by decide +kernel
theorem d_Md_writeOn_6 : decode c_Md_writeOn 6 = .ok (.bipush 24, 2) := by decide +kernel
theorem d_Md_writeOn_8 : decode c_Md_writeOn 8 = .ok (.iload_n 2, 1) := by decide +kernel
theorem d_Md_writeOn_9 : decode c_Md_writeOn 9 = .ok (.iadd, 1) := by decide +kernel
theorem d_Md_writeOn_10 : decode c_Md_writeOn 10 = .ok (.iaload, 1) := by decide +kernel
theorem d_Md_writeOn_11 : decode c_Md_writeOn 11 = .ok (.istore 4, 2) := by decide +kernel
theorem d_Md_writeOn_13 : decode c_Md_writeOn 13 = .ok (.aload_n 0, 1) := by decide +kernel
theorem d_Md_writeOn_14 : decode c_Md_writeOn 14 = .ok (.iconst 1, 1) := by decide +kernel
theorem d_Md_writeOn_15 : decode c_Md_writeOn 15 = .ok (.iload_n 1, 1) := by decide +kernel
theorem d_Md_writeOn_16 : decode c_Md_writeOn 16 = .ok (.iload_n 2, 1) := by decide +kernel
theorem d_Md_writeOn_17 : decode c_Md_writeOn 17 = .ok (.iload 4, 2) := by decide +kernel
theorem d_Md_writeOn_19 : decode c_Md_writeOn 19 = .ok (.iload_n 3, 1) := by decide +kernel
theorem d_Md_writeOn_20 : decode c_Md_writeOn 20 = .ok (.bipush (-6), 2) := by decide +kernel
theorem d_Md_writeOn_22 : decode c_Md_writeOn 22 = .ok (.invokestatic 57, 3) := by decide +kernel
theorem d_Md_writeOn_25 : decode c_Md_writeOn 25 = .ok (.istore 5, 2) := by decide +kernel
theorem d_Md_writeOn_27 : decode c_Md_writeOn 27 = .ok (.aload_n 0, 1) := by decide +kernel
theorem d_Md_writeOn_28 : decode c_Md_writeOn 28 = .ok (.iload_n 2, 1) := by decide +kernel
theorem d_Md_writeOn_29 : decode c_Md_writeOn 29 = .ok (.iload_n 3, 1) := by decide +kernel
theorem d_Md_writeOn_30 : decode c_Md_writeOn 30 = .ok (.iload 5, 2) := by decide +kernel
theorem d_Md_writeOn_32 : decode c_Md_writeOn 32 = .ok (.invokestatic 61, 3) := by decide +kernel
theorem d_Md_writeOn_35 : decode c_Md_writeOn 35 = .ok (.iload 4, 2) := by decide +kernel
theorem d_Md_writeOn_37 : decode c_Md_writeOn 37 = .ok (.ireturn, 1) := by decide +kernel
theorem d_Md_whyNotFinish_0 : decode c_Md_whyNotFinish 0 = .ok (.aload_n 0, 1) := by decide +kernel
theorem d_Md_whyNotFinish_1 : decode c_Md_whyNotFinish 1 = .ok (.iload_n 1, 1) := by decide +kernel
theorem d_Md_whyNotFinish_2 : decode c_Md_whyNotFinish 2 = .ok (.invokestatic 99, 3) := by decide +kernel
theorem d_Md_whyNotFinish_5 : decode c_Md_whyNotFinish 5 = .ok (.ifCond .ne 7, 3) := by decide +kernel
theorem d_Md_whyNotFinish_8 : decode c_Md_whyNotFinish 8 = .ok (.iconst (-1), 1) := by decide +kernel
theorem d_Md_whyNotFinish_9 : decode c_Md_whyNotFinish 9 = .ok (.goto 32, 3) := by decide +kernel
theorem d_Md_whyNotFinish_12 : decode c_Md_whyNotFinish 12 = .ok (.aload_n 0, 1) := by decide +kernel
theorem d_Md_whyNotFinish_13 : decode c_Md_whyNotFinish 13 = .ok (.bipush 57, 2) := by decide +kernel
theorem d_Md_whyNotFinish_15 : decode c_Md_whyNotFinish 15 = .ok (.iaload, 1) := by decide +kernel
theorem d_Md_whyNotFinish_16 : decode c_Md_whyNotFinish 16 = .ok (.sipush 150, 3) := by decide +kernel
theorem d_Md_whyNotFinish_19 : decode c_Md_whyNotFinish 19 = .ok (.if_icmp .lt 8, 3) := by decide +kernel
theorem d_Md_whyNotFinish_22 : decode c_Md_whyNotFinish 22 = .ok (.bipush (-4), 2) := by decide +kernel
theorem d_Md_whyNotFinish_24 : decode c_Md_whyNotFinish 24 = .ok (.goto 17, 3) := by decide +kernel
theorem d_Md_whyNotFinish_27 : decode c_Md_whyNotFinish 27 = .ok (.aload_n 0, 1) := by decide +kernel
theorem d_Md_whyNotFinish_28 : decode c_Md_whyNotFinish 28 = .ok (.iload_n 1, 1) := by decide +kernel
theorem d_Md_whyNotFinish_29 : decode c_Md_whyNotFinish 29 = .ok (.invokestatic 112, 3) := by decide +kernel
theorem d_Md_whyNotFinish_32 : decode c_Md_whyNotFinish 32 = .ok (.ifCond .eq 8, 3) := by decide +kernel
theorem d_Md_whyNotFinish_35 : decode c_Md_whyNotFinish 35 = .ok (.bipush (-5), 2) := by decide +kernel
theorem d_Md_whyNotFinish_37 : decode c_Md_whyNotFinish 37 = .ok (.goto 4, 3) := by decide +kernel
theorem d_Md_whyNotFinish_40 : decode c_Md_whyNotFinish 40 = .ok (.iconst 0, 1) := by decide +kernel
theorem d_Md_whyNotFinish_41 : decode c_Md_whyNotFinish 41 = .ok (.ireturn, 1) := by decide +kernel
theorem d_Md_finishOn_0 : decode c_Md_finishOn 0 = .ok (.aload_n 0, 1) := by decide +kernel
theorem d_Md_finishOn_1 : decode c_Md_finishOn 1 = .ok (.iconst 3, 1) := by decide +kernel
theorem d_Md_finishOn_2 : decode c_Md_finishOn 2 = .ok (.iload_n 1, 1) := by decide +kernel
theorem d_Md_finishOn_3 : decode c_Md_finishOn 3 = .ok (.bipush (-6), 2) := by decide +kernel
theorem d_Md_finishOn_5 : decode c_Md_finishOn 5 = .ok (.bipush (-6), 2) := by decide +kernel
theorem d_Md_finishOn_7 : decode c_Md_finishOn 7 = .ok (.bipush (-6), 2) := by decide +kernel
theorem d_Md_finishOn_9 : decode c_Md_finishOn 9 = .ok (.bipush (-6), 2) := by decide +kernel
theorem d_Md_finishOn_11 : decode c_Md_finishOn 11 = .ok (.invokestatic 57, 3) := by decide +kernel
theorem d_Md_finishOn_14 : decode c_Md_finishOn 14 = .ok (.istore_n 2, 1) := by decide +kernel
theorem d_Md_finishOn_15 : decode c_Md_finishOn 15 = .ok (.aload_n 0, 1) := by decide +kernel
theorem d_Md_finishOn_16 : decode c_Md_finishOn 16 = .ok (.bipush 40, 2) := by decide +kernel
theorem d_Md_finishOn_18 : decode c_Md_finishOn 18 = .ok (.iload_n 1, 1) := by decide +kernel
theorem d_Md_finishOn_19 : decode c_Md_finishOn 19 = .ok (.iadd, 1) := by decide +kernel
theorem d_Md_finishOn_20 : decode c_Md_finishOn 20 = .ok (.iconst 1, 1) := by decide +kernel
theorem d_Md_finishOn_21 : decode c_Md_finishOn 21 = .ok (.iastore, 1) := by decide +kernel
theorem d_Md_finishOn_22 : decode c_Md_finishOn 22 = .ok (.aload_n 0, 1) := by decide +kernel
theorem d_Md_finishOn_23 : decode c_Md_finishOn 23 = .ok (.iload_n 2, 1) := by decide +kernel
theorem d_Md_finishOn_24 : decode c_Md_finishOn 24 = .ok (.invokestatic 122, 3) := by decide +kernel
theorem d_Md_finishOn_27 : decode c_Md_finishOn 27 = .ok (.iload_n 2, 1) := by decide +kernel
theorem d_Md_finishOn_28 : decode c_Md_finishOn 28 = .ok (.ireturn, 1) := by decide +kernel
theorem d_Md_whyNotTear_0 : decode c_Md_whyNotTear 0 = .ok (.aload_n 0, 1) := by decide +kernel
theorem d_Md_whyNotTear_1 : decode c_Md_whyNotTear 1 = .ok (.iload_n 1, 1) := by decide +kernel
theorem d_Md_whyNotTear_2 : decode c_Md_whyNotTear 2 = .ok (.invokestatic 99, 3) := by decide +kernel
theorem d_Md_whyNotTear_5 : decode c_Md_whyNotTear 5 = .ok (.ifCond .ne 7, 3) := by decide +kernel
theorem d_Md_whyNotTear_8 : decode c_Md_whyNotTear 8 = .ok (.iconst (-1), 1) := by decide +kernel
theorem d_Md_whyNotTear_9 : decode c_Md_whyNotTear 9 = .ok (.goto 38, 3) := by decide +kernel
theorem d_Md_whyNotTear_12 : decode c_Md_whyNotTear 12 = .ok (.aload_n 0, 1) := by decide +kernel
theorem d_Md_whyNotTear_13 : decode c_Md_whyNotTear 13 = .ok (.iload_n 1, 1) := by decide +kernel
theorem d_Md_whyNotTear_14 : decode c_Md_whyNotTear 14 = .ok (.invokestatic 112, 3) := by decide +kernel
theorem d_Md_whyNotTear_17 : decode c_Md_whyNotTear 17 = .ok (.ifCond .eq 8, 3) := by decide +kernel
theorem d_Md_whyNotTear_20 : decode c_Md_whyNotTear 20 = .ok (.bipush (-5), 2) := by decide +kernel
theorem d_Md_whyNotTear_22 : decode c_Md_whyNotTear 22 = .ok (.goto 25, 3) := by decide +kernel
theorem d_Md_whyNotTear_25 : decode c_Md_whyNotTear 25 = .ok (.aload_n 0, 1) := by decide +kernel
theorem d_Md_whyNotTear_26 : decode c_Md_whyNotTear 26 = .ok (.bipush 57, 2) := by decide +kernel
theorem d_Md_whyNotTear_28 : decode c_Md_whyNotTear 28 = .ok (.iaload, 1) := by decide +kernel
theorem d_Md_whyNotTear_29 : decode c_Md_whyNotTear 29 = .ok (.aload_n 0, 1) := by decide +kernel
theorem d_Md_whyNotTear_30 : decode c_Md_whyNotTear 30 = .ok (.iload_n 1, 1) := by decide +kernel
theorem d_Md_whyNotTear_31 : decode c_Md_whyNotTear 31 = .ok (.invokestatic 131, 3) := by decide +kernel
theorem d_Md_whyNotTear_34 : decode c_Md_whyNotTear 34 = .ok (.iadd, 1) := by decide +kernel
theorem d_Md_whyNotTear_35 : decode c_Md_whyNotTear 35 = .ok (.sipush 150, 3) := by decide +kernel
theorem d_Md_whyNotTear_38 : decode c_Md_whyNotTear 38 = .ok (.if_icmp .le 8, 3) := by decide +kernel
theorem d_Md_whyNotTear_41 : decode c_Md_whyNotTear 41 = .ok (.bipush (-4), 2) := by decide +kernel
theorem d_Md_whyNotTear_43 : decode c_Md_whyNotTear 43 = .ok (.goto 4, 3) := by decide +kernel
theorem d_Md_whyNotTear_46 : decode c_Md_whyNotTear 46 = .ok (.iconst 0, 1) := by decide +kernel
theorem d_Md_whyNotTear_47 : decode c_Md_whyNotTear 47 = .ok (.ireturn, 1) := by decide +kernel
theorem d_Md_whyNotSave_0 : decode c_Md_whyNotSave 0 = .ok (.iload_n 1, 1) := by decide +kernel
theorem d_Md_whyNotSave_1 : decode c_Md_whyNotSave 1 = .ok (.i2l, 1) := by decide +kernel
theorem d_Md_whyNotSave_2 : decode c_Md_whyNotSave 2 = .ok (.lconst 1, 1) := by decide +kernel
theorem d_Md_whyNotSave_3 : decode c_Md_whyNotSave 3 = .ok (.aload_n 0, 1) := by decide +kernel
theorem d_Md_whyNotSave_4 : decode c_Md_whyNotSave 4 = .ok (.bipush 57, 2) := by decide +kernel
theorem d_Md_whyNotSave_6 : decode c_Md_whyNotSave 6 = .ok (.iaload, 1) := by decide +kernel
theorem d_Md_whyNotSave_7 : decode c_Md_whyNotSave 7 = .ok (.i2l, 1) := by decide +kernel
theorem d_Md_whyNotSave_8 : decode c_Md_whyNotSave 8 = .ok (.invokestatic 35, 3) := by decide +kernel
theorem d_Md_whyNotSave_11 : decode c_Md_whyNotSave 11 = .ok (.ifCond .ne 7, 3) := by decide +kernel
theorem d_Md_whyNotSave_14 : decode c_Md_whyNotSave 14 = .ok (.iconst (-1), 1) := by decide +kernel
theorem d_Md_whyNotSave_15 : decode c_Md_whyNotSave 15 = .ok (.goto 17, 3) := by decide +kernel
theorem d_Md_whyNotSave_18 : decode c_Md_whyNotSave 18 = .ok (.aload_n 0, 1) := by decide +kernel
theorem d_Md_whyNotSave_19 : decode c_Md_whyNotSave 19 = .ok (.bipush 59, 2) := by decide +kernel
theorem d_Md_whyNotSave_21 : decode c_Md_whyNotSave 21 = .ok (.iaload, 1) := by decide +kernel
theorem d_Md_whyNotSave_22 : decode c_Md_whyNotSave 22 = .ok (.iconst 1, 1) := by decide +kernel
theorem d_Md_whyNotSave_23 : decode c_Md_whyNotSave 23 = .ok (.if_icmp .ne 8, 3) := by decide +kernel
theorem d_Md_whyNotSave_26 : decode c_Md_whyNotSave 26 = .ok (.bipush (-5), 2) := by decide +kernel
theorem d_Md_whyNotSave_28 : decode c_Md_whyNotSave 28 = .ok (.goto 4, 3) := by decide +kernel
theorem d_Md_whyNotSave_31 : decode c_Md_whyNotSave 31 = .ok (.iconst 0, 1) := by decide +kernel
theorem d_Md_whyNotSave_32 : decode c_Md_whyNotSave 32 = .ok (.ireturn, 1) := by decide +kernel
theorem d_Md_whyNotPutAway_0 : decode c_Md_whyNotPutAway 0 = .ok (.iload_n 1, 1) := by decide +kernel
theorem d_Md_whyNotPutAway_1 : decode c_Md_whyNotPutAway 1 = .ok (.invokestatic 103, 3) := by decide +kernel
theorem d_Md_whyNotPutAway_4 : decode c_Md_whyNotPutAway 4 = .ok (.ifCond .ne 7, 3) := by decide +kernel
theorem d_Md_whyNotPutAway_7 : decode c_Md_whyNotPutAway 7 = .ok (.iconst (-1), 1) := by decide +kernel
theorem d_Md_whyNotPutAway_8 : decode c_Md_whyNotPutAway 8 = .ok (.goto 26, 3) := by decide +kernel
theorem d_Md_whyNotPutAway_11 : decode c_Md_whyNotPutAway 11 = .ok (.aload_n 0, 1) := by decide +kernel
theorem d_Md_whyNotPutAway_12 : decode c_Md_whyNotPutAway 12 = .ok (.bipush 59, 2) := by decide +kernel
theorem d_Md_whyNotPutAway_14 : decode c_Md_whyNotPutAway 14 = .ok (.iaload, 1) := by decide +kernel
theorem d_Md_whyNotPutAway_15 : decode c_Md_whyNotPutAway 15 = .ok (.iconst 1, 1) := by decide +kernel
theorem d_Md_whyNotPutAway_16 : decode c_Md_whyNotPutAway 16 = .ok (.if_icmp .eq 12, 3) := by decide +kernel
theorem d_Md_whyNotPutAway_19 : decode c_Md_whyNotPutAway 19 = .ok (.aload_n 0, 1) := by decide +kernel
theorem d_Md_whyNotPutAway_20 : decode c_Md_whyNotPutAway 20 = .ok (.bipush 16, 2) := by decide +kernel
theorem d_Md_whyNotPutAway_22 : decode c_Md_whyNotPutAway 22 = .ok (.iload_n 1, 1) := by decide +kernel
theorem d_Md_whyNotPutAway_23 : decode c_Md_whyNotPutAway 23 = .ok (.iadd, 1) := by decide +kernel
theorem d_Md_whyNotPutAway_24 : decode c_Md_whyNotPutAway 24 = .ok (.iaload, 1) := by decide +kernel
theorem d_Md_whyNotPutAway_25 : decode c_Md_whyNotPutAway 25 = .ok (.ifCond .ne 8, 3) := by decide +kernel
theorem d_Md_whyNotPutAway_28 : decode c_Md_whyNotPutAway 28 = .ok (.bipush (-5), 2) := by decide +kernel
theorem d_Md_whyNotPutAway_30 : decode c_Md_whyNotPutAway 30 = .ok (.goto 4, 3) := by decide +kernel
theorem d_Md_whyNotPutAway_33 : decode c_Md_whyNotPutAway 33 = .ok (.iconst 0, 1) := by decide +kernel
theorem d_Md_whyNotPutAway_34 : decode c_Md_whyNotPutAway 34 = .ok (.ireturn, 1) := by decide +kernel
theorem d_Md_putAwayOn_0 : decode c_Md_putAwayOn 0 = .ok (.aload_n 0, 1) := by decide +kernel
theorem d_Md_putAwayOn_1 : decode c_Md_putAwayOn 1 = .ok (.aload_n 0, 1) := by decide +kernel
theorem d_Md_putAwayOn_2 : decode c_Md_putAwayOn 2 = .ok (.bipush 32, 2) := by decide +kernel
theorem d_Md_putAwayOn_4 : decode c_Md_putAwayOn 4 = .ok (.iload_n 1, 1) := by decide +kernel
theorem d_Md_putAwayOn_5 : decode c_Md_putAwayOn 5 = .ok (.iadd, 1) := by decide +kernel
theorem d_Md_putAwayOn_6 : decode c_Md_putAwayOn 6 = .ok (.iaload, 1) := by decide +kernel
theorem d_Md_putAwayOn_7 : decode c_Md_putAwayOn 7 = .ok (.invokestatic 122, 3) := by decide +kernel
theorem d_Md_putAwayOn_10 : decode c_Md_putAwayOn 10 = .ok (.aload_n 0, 1) := by decide +kernel
theorem d_Md_putAwayOn_11 : decode c_Md_putAwayOn 11 = .ok (.iconst 0, 1) := by decide +kernel
theorem d_Md_putAwayOn_12 : decode c_Md_putAwayOn 12 = .ok (.iload_n 1, 1) := by decide +kernel
theorem d_Md_putAwayOn_13 : decode c_Md_putAwayOn 13 = .ok (.iadd, 1) := by decide +kernel
theorem d_Md_putAwayOn_14 : decode c_Md_putAwayOn 14 = .ok (.aload_n 0, 1) := by decide +kernel
theorem d_Md_putAwayOn_15 : decode c_Md_putAwayOn 15 = .ok (.bipush 24, 2) := by decide +kernel
theorem d_Md_putAwayOn_17 : decode c_Md_putAwayOn 17 = .ok (.iload_n 1, 1) := by decide +kernel
theorem d_Md_putAwayOn_18 : decode c_Md_putAwayOn 18 = .ok (.iadd, 1) := by decide +kernel
theorem d_Md_putAwayOn_19 : decode c_Md_putAwayOn 19 = .ok (.iaload, 1) := by decide +kernel
theorem d_Md_putAwayOn_20 : decode c_Md_putAwayOn 20 = .ok (.iastore, 1) := by decide +kernel
theorem d_Md_putAwayOn_21 : decode c_Md_putAwayOn 21 = .ok (.aload_n 0, 1) := by decide +kernel
theorem d_Md_putAwayOn_22 : decode c_Md_putAwayOn 22 = .ok (.bipush 8, 2) := by decide +kernel
theorem d_Md_putAwayOn_24 : decode c_Md_putAwayOn 24 = .ok (.iload_n 1, 1) := by decide +kernel
theorem d_Md_putAwayOn_25 : decode c_Md_putAwayOn 25 = .ok (.iadd, 1) := by decide +kernel
theorem d_Md_putAwayOn_26 : decode c_Md_putAwayOn 26 = .ok (.aload_n 0, 1) := by decide +kernel
theorem d_Md_putAwayOn_27 : decode c_Md_putAwayOn 27 = .ok (.bipush 32, 2) := by decide +kernel
theorem d_Md_putAwayOn_29 : decode c_Md_putAwayOn 29 = .ok (.iload_n 1, 1) := by decide +kernel
theorem d_Md_putAwayOn_30 : decode c_Md_putAwayOn 30 = .ok (.iadd, 1) := by decide +kernel
theorem d_Md_putAwayOn_31 : decode c_Md_putAwayOn 31 = .ok (.iaload, 1) := by decide +kernel
theorem d_Md_putAwayOn_32 : decode c_Md_putAwayOn 32 = .ok (.iastore, 1) := by decide +kernel
theorem d_Md_putAwayOn_33 : decode c_Md_putAwayOn 33 = .ok (.aload_n 0, 1) := by decide +kernel
theorem d_Md_putAwayOn_34 : decode c_Md_putAwayOn 34 = .ok (.bipush 58, 2) := by decide +kernel
theorem d_Md_putAwayOn_36 : decode c_Md_putAwayOn 36 = .ok (.iaload, 1) := by decide +kernel
theorem d_Md_putAwayOn_37 : decode c_Md_putAwayOn 37 = .ok (.ireturn, 1) := by decide +kernel
theorem d_Md_valueOf_0 : decode c_Md_valueOf 0 = .ok (.aload_n 0, 1) := by decide +kernel
theorem d_Md_valueOf_1 : decode c_Md_valueOf 1 = .ok (.bipush 16, 2) := by decide +kernel
theorem d_Md_valueOf_3 : decode c_Md_valueOf 3 = .ok (.iload_n 1, 1) := by decide +kernel
theorem d_Md_valueOf_4 : decode c_Md_valueOf 4 = .ok (.iadd, 1) := by decide +kernel
theorem d_Md_valueOf_5 : decode c_Md_valueOf 5 = .ok (.iaload, 1) := by decide +kernel
theorem d_Md_valueOf_6 : decode c_Md_valueOf 6 = .ok (.iconst 1, 1) := by decide +kernel
theorem d_Md_valueOf_7 : decode c_Md_valueOf 7 = .ok (.if_icmp .ne 12, 3) := by decide +kernel
theorem d_Md_valueOf_10 : decode c_Md_valueOf 10 = .ok (.aload_n 0, 1) := by decide +kernel
theorem d_Md_valueOf_11 : decode c_Md_valueOf 11 = .ok (.bipush 24, 2) := by decide +kernel
theorem d_Md_valueOf_13 : decode c_Md_valueOf 13 = .ok (.iload_n 1, 1) := by decide +kernel
theorem d_Md_valueOf_14 : decode c_Md_valueOf 14 = .ok (.iadd, 1) := by decide +kernel
theorem d_Md_valueOf_15 : decode c_Md_valueOf 15 = .ok (.iaload, 1) := by decide +kernel
theorem d_Md_valueOf_16 : decode c_Md_valueOf 16 = .ok (.goto 8, 3) := by decide +kernel
theorem d_Md_valueOf_19 : decode c_Md_valueOf 19 = .ok (.aload_n 0, 1) := by decide +kernel
theorem d_Md_valueOf_20 : decode c_Md_valueOf 20 = .ok (.iconst 0, 1) := by decide +kernel
theorem d_Md_valueOf_21 : decode c_Md_valueOf 21 = .ok (.iload_n 1, 1) := by decide +kernel
theorem d_Md_valueOf_22 : decode c_Md_valueOf 22 = .ok (.iadd, 1) := by decide +kernel
theorem d_Md_valueOf_23 : decode c_Md_valueOf 23 = .ok (.iaload, 1) := by decide +kernel
theorem d_Md_valueOf_24 : decode c_Md_valueOf 24 = .ok (.ireturn, 1) := by decide +kernel

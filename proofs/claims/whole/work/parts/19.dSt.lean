theorem d_St_become_0 : decode c_St_become 0 = .ok (.aload_n 0, 1) := by decide +kernel
theorem d_St_become_1 : decode c_St_become 1 = .ok (.getfield 12, 3) := by decide +kernel
theorem d_St_become_4 : decode c_St_become 4 = .ok (.aload_n 1, 1) := by decide +kernel
theorem d_St_become_5 : decode c_St_become 5 = .ok (.getfield 12, 3) := by decide +kernel
theorem d_St_become_8 : decode c_St_become 8 = .ok (.invokevirtual 52, 3) := by decide +kernel
theorem d_St_become_11 : decode c_St_become 11 = .ok (.aload_n 0, 1) := by decide +kernel
theorem d_St_become_12 : decode c_St_become 12 = .ok (.getfield 21, 3) := by decide +kernel
theorem d_St_become_15 : decode c_St_become 15 = .ok (.aload_n 1, 1) := by decide +kernel
theorem d_St_become_16 : decode c_St_become 16 = .ok (.getfield 21, 3) := by decide +kernel
theorem d_St_become_19 : decode c_St_become 19 = .ok (.invokevirtual 56, 3) := by decide +kernel
theorem d_St_become_22 : decode c_St_become 22 = .ok (.aload_n 0, 1) := by decide +kernel
theorem d_St_become_23 : decode c_St_become 23 = .ok (.getfield 28, 3) := by decide +kernel
theorem d_St_become_26 : decode c_St_become 26 = .ok (.aload_n 1, 1) := by decide +kernel
theorem d_St_become_27 : decode c_St_become 27 = .ok (.getfield 28, 3) := by decide +kernel
theorem d_St_become_30 : decode c_St_become 30 = .ok (.invokevirtual 59, 3) := by decide +kernel
theorem d_St_become_33 : decode c_St_become 33 = .ok (.aload_n 0, 1) := by decide +kernel
theorem d_St_become_34 : decode c_St_become 34 = .ok (.aload_n 1, 1) := by decide +kernel
theorem d_St_become_35 : decode c_St_become 35 = .ok (.getfield 32, 3) := by decide +kernel
theorem d_St_become_38 : decode c_St_become 38 = .ok (.putfield 32, 3) := by decide +kernel
theorem d_St_become_41 : decode c_St_become 41 = .ok (.aload_n 0, 1) := by decide +kernel
theorem d_St_become_42 : decode c_St_become 42 = .ok (.aload_n 1, 1) := by decide +kernel
theorem d_St_become_43 : decode c_St_become 43 = .ok (.getfield 36, 3) := by decide +kernel
theorem d_St_become_46 : decode c_St_become 46 = .ok (.putfield 36, 3) := by decide +kernel
theorem d_St_become_49 : decode c_St_become 49 = .ok (.aload_n 0, 1) := by decide +kernel
theorem d_St_become_50 : decode c_St_become 50 = .ok (.aload_n 1, 1) := by decide +kernel
theorem d_St_become_51 : decode c_St_become 51 = .ok (.getfield 39, 3) := by decide +kernel
theorem d_St_become_54 : decode c_St_become 54 = .ok (.putfield 39, 3) := by decide +kernel
theorem d_St_become_57 : decode c_St_become 57 = .ok (.aload_n 0, 1) := by decide +kernel
theorem d_St_become_58 : decode c_St_become 58 = .ok (.aload_n 1, 1) := by decide +kernel
theorem d_St_become_59 : decode c_St_become 59 = .ok (.getfield 43, 3) := by decide +kernel
theorem d_St_become_62 : decode c_St_become 62 = .ok (.putfield 43, 3) := by decide +kernel
theorem d_St_become_65 : decode c_St_become 65 = .ok (.aload_n 0, 1) := by decide +kernel
theorem d_St_become_66 : decode c_St_become 66 = .ok (.aload_n 1, 1) := by decide +kernel
theorem d_St_become_67 : decode c_St_become 67 = .ok (.getfield 46, 3) := by decide +kernel
theorem d_St_become_70 : decode c_St_become 70 = .ok (.putfield 46, 3) := by decide +kernel
theorem d_St_become_73 : decode c_St_become 73 = .ok (.aload_n 0, 1) := by decide +kernel
theorem d_St_become_74 : decode c_St_become 74 = .ok (.aload_n 1, 1) := by decide +kernel
theorem d_St_become_75 : decode c_St_become 75 = .ok (.getfield 49, 3) := by decide +kernel
theorem d_St_become_78 : decode c_St_become 78 = .ok (.putfield 49, 3) := by decide +kernel
theorem d_St_become_81 : decode c_St_become 81 = .ok (.return_, 1) := by decide +kernel
theorem d_St_enter_0 : decode c_St_enter 0 = .ok (.aload_n 0, 1) := by decide +kernel
theorem d_St_enter_1 : decode c_St_enter 1 = .ok (.getfield 21, 3) := by decide +kernel
theorem d_St_enter_4 : decode c_St_enter 4 = .ok (.iload_n 1, 1) := by decide +kernel
theorem d_St_enter_5 : decode c_St_enter 5 = .ok (.iload_n 2, 1) := by decide +kernel
theorem d_St_enter_6 : decode c_St_enter 6 = .ok (.aload_n 0, 1) := by decide +kernel
theorem d_St_enter_7 : decode c_St_enter 7 = .ok (.getfield 28, 3) := by decide +kernel
theorem d_St_enter_10 : decode c_St_enter 10 = .ok (.iload_n 2, 1) := by decide +kernel
theorem d_St_enter_11 : decode c_St_enter 11 = .ok (.invokevirtual 166, 3) := by decide +kernel
theorem d_St_enter_14 : decode c_St_enter 14 = .ok (.invokevirtual 169, 3) := by decide +kernel
theorem d_St_enter_17 : decode c_St_enter 17 = .ok (.istore_n 3, 1) := by decide +kernel
theorem d_St_enter_18 : decode c_St_enter 18 = .ok (.aload_n 0, 1) := by decide +kernel
theorem d_St_enter_19 : decode c_St_enter 19 = .ok (.getfield 28, 3) := by decide +kernel
theorem d_St_enter_22 : decode c_St_enter 22 = .ok (.iload_n 3, 1) := by decide +kernel
theorem d_St_enter_23 : decode c_St_enter 23 = .ok (.iload_n 1, 1) := by decide +kernel
theorem d_St_enter_24 : decode c_St_enter 24 = .ok (.iload_n 2, 1) := by decide +kernel
theorem d_St_enter_25 : decode c_St_enter 25 = .ok (.bipush (-6), 2) := by decide +kernel
theorem d_St_enter_27 : decode c_St_enter 27 = .ok (.bipush (-6), 2) := by decide +kernel
theorem d_St_enter_29 : decode c_St_enter 29 = .ok (.invokevirtual 173, 3) := by decide +kernel
theorem d_St_enter_32 : decode c_St_enter 32 = .ok (.iload_n 3, 1) := by decide +kernel
theorem d_St_enter_33 : decode c_St_enter 33 = .ok (.ireturn, 1) := by decide +kernel
theorem d_St_enterOnPage_0 : decode c_St_enterOnPage 0 = .ok (.aload_n 0, 1) := by decide +kernel
theorem d_St_enterOnPage_1 : decode c_St_enterOnPage 1 = .ok (.getfield 21, 3) := by decide +kernel
theorem d_St_enterOnPage_4 : decode c_St_enterOnPage 4 = .ok (.iload_n 1, 1) := by decide +kernel
theorem d_St_enterOnPage_5 : decode c_St_enterOnPage 5 = .ok (.iload_n 2, 1) := by decide +kernel
theorem d_St_enterOnPage_6 : decode c_St_enterOnPage 6 = .ok (.aload_n 0, 1) := by decide +kernel
theorem d_St_enterOnPage_7 : decode c_St_enterOnPage 7 = .ok (.getfield 28, 3) := by decide +kernel
theorem d_St_enterOnPage_10 : decode c_St_enterOnPage 10 = .ok (.iload_n 2, 1) := by decide +kernel
theorem d_St_enterOnPage_11 : decode c_St_enterOnPage 11 = .ok (.invokevirtual 166, 3) := by decide +kernel
theorem d_St_enterOnPage_14 : decode c_St_enterOnPage 14 = .ok (.invokevirtual 169, 3) := by decide +kernel
theorem d_St_enterOnPage_17 : decode c_St_enterOnPage 17 = .ok (.istore 7, 2) := by decide +kernel
theorem d_St_enterOnPage_19 : decode c_St_enterOnPage 19 = .ok (.aload_n 0, 1) := by decide +kernel
theorem d_St_enterOnPage_20 : decode c_St_enterOnPage 20 = .ok (.getfield 21, 3) := by decide +kernel
theorem d_St_enterOnPage_23 : decode c_St_enterOnPage 23 = .ok (.iload 7, 2) := by decide +kernel
theorem d_St_enterOnPage_25 : decode c_St_enterOnPage 25 = .ok (.iload_n 3, 1) := by decide +kernel
theorem d_St_enterOnPage_26 : decode c_St_enterOnPage 26 = .ok (.iload 4, 2) := by decide +kernel
theorem d_St_enterOnPage_28 : decode c_St_enterOnPage 28 = .ok (.iload 5, 2) := by decide +kernel
theorem d_St_enterOnPage_30 : decode c_St_enterOnPage 30 = .ok (.iload 6, 2) := by decide +kernel
theorem d_St_enterOnPage_32 : decode c_St_enterOnPage 32 = .ok (.invokevirtual 177, 3) := by decide +kernel
theorem d_St_enterOnPage_35 : decode c_St_enterOnPage 35 = .ok (.aload_n 0, 1) := by decide +kernel
theorem d_St_enterOnPage_36 : decode c_St_enterOnPage 36 = .ok (.getfield 28, 3) := by decide +kernel
theorem d_St_enterOnPage_39 : decode c_St_enterOnPage 39 = .ok (.iload 7, 2) := by decide +kernel
theorem d_St_enterOnPage_41 : decode c_St_enterOnPage 41 = .ok (.iload_n 1, 1) := by decide +kernel
theorem d_St_enterOnPage_42 : decode c_St_enterOnPage 42 = .ok (.iload_n 2, 1) := by decide +kernel
theorem d_St_enterOnPage_43 : decode c_St_enterOnPage 43 = .ok (.iload_n 3, 1) := by decide +kernel
theorem d_St_enterOnPage_44 : decode c_St_enterOnPage 44 = .ok (.iload 6, 2) := by decide +kernel
theorem d_St_enterOnPage_46 : decode c_St_enterOnPage 46 = .ok (.invokevirtual 173, 3) := by decide +kernel
theorem d_St_enterOnPage_49 : decode c_St_enterOnPage 49 = .ok (.aload_n 0, 1) := by decide +kernel
theorem d_St_enterOnPage_50 : decode c_St_enterOnPage 50 = .ok (.getfield 12, 3) := by decide +kernel
theorem d_St_enterOnPage_53 : decode c_St_enterOnPage 53 = .ok (.iload_n 3, 1) := by decide +kernel
theorem d_St_enterOnPage_54 : decode c_St_enterOnPage 54 = .ok (.iload 5, 2) := by decide +kernel
theorem d_St_enterOnPage_56 : decode c_St_enterOnPage 56 = .ok (.iload 7, 2) := by decide +kernel
theorem d_St_enterOnPage_58 : decode c_St_enterOnPage 58 = .ok (.invokevirtual 180, 3) := by decide +kernel
theorem d_St_enterOnPage_61 : decode c_St_enterOnPage 61 = .ok (.return_, 1) := by decide +kernel
theorem d_St_stepBack_0 : decode c_St_stepBack 0 = .ok (.aload_n 0, 1) := by decide +kernel
theorem d_St_stepBack_1 : decode c_St_stepBack 1 = .ok (.getfield 28, 3) := by decide +kernel
theorem d_St_stepBack_4 : decode c_St_stepBack 4 = .ok (.iload_n 1, 1) := by decide +kernel
theorem d_St_stepBack_5 : decode c_St_stepBack 5 = .ok (.invokevirtual 184, 3) := by decide +kernel
theorem d_St_stepBack_8 : decode c_St_stepBack 8 = .ok (.istore_n 2, 1) := by decide +kernel
theorem d_St_stepBack_9 : decode c_St_stepBack 9 = .ok (.aload_n 0, 1) := by decide +kernel
theorem d_St_stepBack_10 : decode c_St_stepBack 10 = .ok (.getfield 21, 3) := by decide +kernel
theorem d_St_stepBack_13 : decode c_St_stepBack 13 = .ok (.iload_n 2, 1) := by decide +kernel
theorem d_St_stepBack_14 : decode c_St_stepBack 14 = .ok (.invokevirtual 187, 3) := by decide +kernel
theorem d_St_stepBack_17 : decode c_St_stepBack 17 = .ok (.iconst 1, 1) := by decide +kernel
theorem d_St_stepBack_18 : decode c_St_stepBack 18 = .ok (.if_icmp .ne 38, 3) := by decide +kernel
theorem d_St_stepBack_21 : decode c_St_stepBack 21 = .ok (.aload_n 0, 1) := by decide +kernel
theorem d_St_stepBack_22 : decode c_St_stepBack 22 = .ok (.iconst 2, 1) := by decide +kernel
theorem d_St_stepBack_23 : decode c_St_stepBack 23 = .ok (.iload_n 1, 1) := by decide +kernel
theorem d_St_stepBack_24 : decode c_St_stepBack 24 = .ok (.aload_n 0, 1) := by decide +kernel
theorem d_St_stepBack_25 : decode c_St_stepBack 25 = .ok (.getfield 21, 3) := by decide +kernel
theorem d_St_stepBack_28 : decode c_St_stepBack 28 = .ok (.iload_n 2, 1) := by decide +kernel
theorem d_St_stepBack_29 : decode c_St_stepBack 29 = .ok (.invokevirtual 190, 3) := by decide +kernel
theorem d_St_stepBack_32 : decode c_St_stepBack 32 = .ok (.bipush (-6), 2) := by decide +kernel
theorem d_St_stepBack_34 : decode c_St_stepBack 34 = .ok (.aload_n 0, 1) := by decide +kernel
theorem d_St_stepBack_35 : decode c_St_stepBack 35 = .ok (.getfield 21, 3) := by decide +kernel
theorem d_St_stepBack_38 : decode c_St_stepBack 38 = .ok (.iload_n 2, 1) := by decide +kernel
theorem d_St_stepBack_39 : decode c_St_stepBack 39 = .ok (.invokevirtual 193, 3) := by decide +kernel
theorem d_St_stepBack_42 : decode c_St_stepBack 42 = .ok (.aload_n 0, 1) := by decide +kernel
theorem d_St_stepBack_43 : decode c_St_stepBack 43 = .ok (.getfield 21, 3) := by decide +kernel
theorem d_St_stepBack_46 : decode c_St_stepBack 46 = .ok (.iload_n 2, 1) := by decide +kernel
theorem d_St_stepBack_47 : decode c_St_stepBack 47 = .ok (.invokevirtual 196, 3) := by decide +kernel
theorem d_St_stepBack_50 : decode c_St_stepBack 50 = .ok (.invokevirtual 95, 3) := by decide +kernel
theorem d_St_stepBack_53 : decode c_St_stepBack 53 = .ok (.goto 10, 3) := by decide +kernel
theorem d_St_stepBack_56 : decode c_St_stepBack 56 = .ok (.aload_n 0, 1) := by decide +kernel
theorem d_St_stepBack_57 : decode c_St_stepBack 57 = .ok (.iconst 4, 1) := by decide +kernel
theorem d_St_stepBack_58 : decode c_St_stepBack 58 = .ok (.iload_n 1, 1) := by decide +kernel
theorem d_St_stepBack_59 : decode c_St_stepBack 59 = .ok (.invokevirtual 70, 3) := by decide +kernel
theorem d_St_stepBack_62 : decode c_St_stepBack 62 = .ok (.pop, 1) := by decide +kernel
theorem d_St_stepBack_63 : decode c_St_stepBack 63 = .ok (.return_, 1) := by decide +kernel
theorem d_St_stepsToTear_0 : decode c_St_stepsToTear 0 = .ok (.aload_n 0, 1) := by decide +kernel
theorem d_St_stepsToTear_1 : decode c_St_stepsToTear 1 = .ok (.getfield 28, 3) := by decide +kernel
theorem d_St_stepsToTear_4 : decode c_St_stepsToTear 4 = .ok (.iload_n 1, 1) := by decide +kernel
theorem d_St_stepsToTear_5 : decode c_St_stepsToTear 5 = .ok (.invokevirtual 184, 3) := by decide +kernel
theorem d_St_stepsToTear_8 : decode c_St_stepsToTear 8 = .ok (.istore_n 2, 1) := by decide +kernel
theorem d_St_stepsToTear_9 : decode c_St_stepsToTear 9 = .ok (.iconst 1, 1) := by decide +kernel
theorem d_St_stepsToTear_10 : decode c_St_stepsToTear 10 = .ok (.istore_n 3, 1) := by decide +kernel
theorem d_St_stepsToTear_11 : decode c_St_stepsToTear 11 = .ok (.iload_n 3, 1) := by decide +kernel
theorem d_St_stepsToTear_12 : decode c_St_stepsToTear 12 = .ok (.sipush 300, 3) := by decide +kernel
theorem d_St_stepsToTear_15 : decode c_St_stepsToTear 15 = .ok (.if_icmp .gt 30, 3) := by decide +kernel
theorem d_St_stepsToTear_18 : decode c_St_stepsToTear 18 = .ok (.aload_n 0, 1) := by decide +kernel
theorem d_St_stepsToTear_19 : decode c_St_stepsToTear 19 = .ok (.getfield 21, 3) := by decide +kernel
theorem d_St_stepsToTear_22 : decode c_St_stepsToTear 22 = .ok (.iload_n 2, 1) := by decide +kernel
theorem d_St_stepsToTear_23 : decode c_St_stepsToTear 23 = .ok (.invokevirtual 187, 3) := by decide +kernel
theorem d_St_stepsToTear_26 : decode c_St_stepsToTear 26 = .ok (.iconst 1, 1) := by decide +kernel
theorem d_St_stepsToTear_27 : decode c_St_stepsToTear 27 = .ok (.if_icmp .ne 18, 3) := by decide +kernel
theorem d_St_stepsToTear_30 : decode c_St_stepsToTear 30 = .ok (.aload_n 0, 1) := by decide +kernel
theorem d_St_stepsToTear_31 : decode c_St_stepsToTear 31 = .ok (.getfield 21, 3) := by decide +kernel
theorem d_St_stepsToTear_34 : decode c_St_stepsToTear 34 = .ok (.iload_n 2, 1) := by decide +kernel
theorem d_St_stepsToTear_35 : decode c_St_stepsToTear 35 = .ok (.invokevirtual 196, 3) := by decide +kernel
theorem d_St_stepsToTear_38 : decode c_St_stepsToTear 38 = .ok (.istore_n 2, 1) := by decide +kernel
theorem d_St_stepsToTear_39 : decode c_St_stepsToTear 39 = .ok (.iinc 3 1, 3) := by decide +kernel
theorem d_St_stepsToTear_42 : decode c_St_stepsToTear 42 = .ok (.goto (-31), 3) := by decide +kernel
theorem d_St_stepsToTear_45 : decode c_St_stepsToTear 45 = .ok (.iload_n 3, 1) := by decide +kernel
theorem d_St_stepsToTear_46 : decode c_St_stepsToTear 46 = .ok (.ireturn, 1) := by decide +kernel
theorem d_St_loseEntries_0 : decode c_St_loseEntries 0 = .ok (.aload_n 0, 1) := by decide +kernel
theorem d_St_loseEntries_1 : decode c_St_loseEntries 1 = .ok (.getfield 21, 3) := by decide +kernel
theorem d_St_loseEntries_4 : decode c_St_loseEntries 4 = .ok (.iload_n 1, 1) := by decide +kernel
theorem d_St_loseEntries_5 : decode c_St_loseEntries 5 = .ok (.invokevirtual 199, 3) := by decide +kernel
theorem d_St_loseEntries_8 : decode c_St_loseEntries 8 = .ok (.aload_n 0, 1) := by decide +kernel
theorem d_St_loseEntries_9 : decode c_St_loseEntries 9 = .ok (.dup, 1) := by decide +kernel
theorem d_St_loseEntries_10 : decode c_St_loseEntries 10 = .ok (.getfield 49, 3) := by decide +kernel
theorem d_St_loseEntries_13 : decode c_St_loseEntries 13 = .ok (.iload_n 1, 1) := by decide +kernel
theorem d_St_loseEntries_14 : decode c_St_loseEntries 14 = .ok (.iadd, 1) := by decide +kernel
theorem d_St_loseEntries_15 : decode c_St_loseEntries 15 = .ok (.putfield 49, 3) := by decide +kernel
theorem d_St_loseEntries_18 : decode c_St_loseEntries 18 = .ok (.aload_n 0, 1) := by decide +kernel
theorem d_St_loseEntries_19 : decode c_St_loseEntries 19 = .ok (.getfield 28, 3) := by decide +kernel
theorem d_St_loseEntries_22 : decode c_St_loseEntries 22 = .ok (.aload_n 0, 1) := by decide +kernel
theorem d_St_loseEntries_23 : decode c_St_loseEntries 23 = .ok (.getfield 21, 3) := by decide +kernel
theorem d_St_loseEntries_26 : decode c_St_loseEntries 26 = .ok (.invokevirtual 202, 3) := by decide +kernel
theorem d_St_loseEntries_29 : decode c_St_loseEntries 29 = .ok (.return_, 1) := by decide +kernel
theorem d_St_findAgain_0 : decode c_St_findAgain 0 = .ok (.aload_n 0, 1) := by decide +kernel
theorem d_St_findAgain_1 : decode c_St_findAgain 1 = .ok (.getfield 39, 3) := by decide +kernel
theorem d_St_findAgain_4 : decode c_St_findAgain 4 = .ok (.aload_n 0, 1) := by decide +kernel
theorem d_St_findAgain_5 : decode c_St_findAgain 5 = .ok (.getfield 21, 3) := by decide +kernel
theorem d_St_findAgain_8 : decode c_St_findAgain 8 = .ok (.getfield 110, 3) := by decide +kernel
theorem d_St_findAgain_11 : decode c_St_findAgain 11 = .ok (.if_icmp .gt 33, 3) := by decide +kernel
theorem d_St_findAgain_14 : decode c_St_findAgain 14 = .ok (.aload_n 0, 1) := by decide +kernel
theorem d_St_findAgain_15 : decode c_St_findAgain 15 = .ok (.getfield 21, 3) := by decide +kernel
theorem d_St_findAgain_18 : decode c_St_findAgain 18 = .ok (.aload_n 0, 1) := by decide +kernel
theorem d_St_findAgain_19 : decode c_St_findAgain 19 = .ok (.getfield 39, 3) := by decide +kernel
theorem d_St_findAgain_22 : decode c_St_findAgain 22 = .ok (.invokevirtual 187, 3) := by decide +kernel
theorem d_St_findAgain_25 : decode c_St_findAgain 25 = .ok (.invokestatic 205, 3) := by decide +kernel
theorem d_St_findAgain_28 : decode c_St_findAgain 28 = .ok (.ifCond .ne 16, 3) := by decide +kernel
theorem d_St_findAgain_31 : decode c_St_findAgain 31 = .ok (.aload_n 0, 1) := by decide +kernel
theorem d_St_findAgain_32 : decode c_St_findAgain 32 = .ok (.dup, 1) := by decide +kernel
theorem d_St_findAgain_33 : decode c_St_findAgain 33 = .ok (.getfield 39, 3) := by decide +kernel
theorem d_St_findAgain_36 : decode c_St_findAgain 36 = .ok (.iconst 1, 1) := by decide +kernel
theorem d_St_findAgain_37 : decode c_St_findAgain 37 = .ok (.iadd, 1) := by decide +kernel
theorem d_St_findAgain_38 : decode c_St_findAgain 38 = .ok (.putfield 39, 3) := by decide +kernel
theorem d_St_findAgain_41 : decode c_St_findAgain 41 = .ok (.goto (-41), 3) := by decide +kernel
theorem d_St_findAgain_44 : decode c_St_findAgain 44 = .ok (.aload_n 0, 1) := by decide +kernel
theorem d_St_findAgain_45 : decode c_St_findAgain 45 = .ok (.getfield 39, 3) := by decide +kernel
theorem d_St_findAgain_48 : decode c_St_findAgain 48 = .ok (.aload_n 0, 1) := by decide +kernel
theorem d_St_findAgain_49 : decode c_St_findAgain 49 = .ok (.getfield 21, 3) := by decide +kernel
theorem d_St_findAgain_52 : decode c_St_findAgain 52 = .ok (.getfield 110, 3) := by decide +kernel
theorem d_St_findAgain_55 : decode c_St_findAgain 55 = .ok (.if_icmp .gt 7, 3) := by decide +kernel
theorem d_St_findAgain_58 : decode c_St_findAgain 58 = .ok (.iconst 1, 1) := by decide +kernel
theorem d_St_findAgain_59 : decode c_St_findAgain 59 = .ok (.goto 4, 3) := by decide +kernel
theorem d_St_findAgain_62 : decode c_St_findAgain 62 = .ok (.iconst 0, 1) := by decide +kernel
theorem d_St_findAgain_63 : decode c_St_findAgain 63 = .ok (.ireturn, 1) := by decide +kernel
theorem d_St_isAnythingLeft_0 : decode c_St_isAnythingLeft 0 = .ok (.aload_n 0, 1) := by decide +kernel
theorem d_St_isAnythingLeft_1 : decode c_St_isAnythingLeft 1 = .ok (.invokevirtual 135, 3) := by decide +kernel
theorem d_St_isAnythingLeft_4 : decode c_St_isAnythingLeft 4 = .ok (.ifCond .ne 15, 3) := by decide +kernel
theorem d_St_isAnythingLeft_7 : decode c_St_isAnythingLeft 7 = .ok (.aload_n 0, 1) := by decide +kernel
theorem d_St_isAnythingLeft_8 : decode c_St_isAnythingLeft 8 = .ok (.getfield 28, 3) := by decide +kernel
theorem d_St_isAnythingLeft_11 : decode c_St_isAnythingLeft 11 = .ok (.invokevirtual 141, 3) := by decide +kernel
theorem d_St_isAnythingLeft_14 : decode c_St_isAnythingLeft 14 = .ok (.bipush (-6), 2) := by decide +kernel
theorem d_St_isAnythingLeft_16 : decode c_St_isAnythingLeft 16 = .ok (.if_icmp .eq 7, 3) := by decide +kernel
theorem d_St_isAnythingLeft_19 : decode c_St_isAnythingLeft 19 = .ok (.iconst 1, 1) := by decide +kernel
theorem d_St_isAnythingLeft_20 : decode c_St_isAnythingLeft 20 = .ok (.goto 4, 3) := by decide +kernel
theorem d_St_isAnythingLeft_23 : decode c_St_isAnythingLeft 23 = .ok (.iconst 0, 1) := by decide +kernel
theorem d_St_isAnythingLeft_24 : decode c_St_isAnythingLeft 24 = .ok (.ireturn, 1) := by decide +kernel
theorem d_St_doAgain_0 : decode c_St_doAgain 0 = .ok (.aload_n 0, 1) := by decide +kernel
theorem d_St_doAgain_1 : decode c_St_doAgain 1 = .ok (.getfield 21, 3) := by decide +kernel
theorem d_St_doAgain_4 : decode c_St_doAgain 4 = .ok (.iload_n 1, 1) := by decide +kernel
theorem d_St_doAgain_5 : decode c_St_doAgain 5 = .ok (.invokevirtual 190, 3) := by decide +kernel
theorem d_St_doAgain_8 : decode c_St_doAgain 8 = .ok (.istore_n 2, 1) := by decide +kernel
theorem d_St_doAgain_9 : decode c_St_doAgain 9 = .ok (.aload_n 0, 1) := by decide +kernel
theorem d_St_doAgain_10 : decode c_St_doAgain 10 = .ok (.getfield 12, 3) := by decide +kernel
theorem d_St_doAgain_13 : decode c_St_doAgain 13 = .ok (.iload_n 2, 1) := by decide +kernel
theorem d_St_doAgain_14 : decode c_St_doAgain 14 = .ok (.invokevirtual 88, 3) := by decide +kernel
theorem d_St_doAgain_17 : decode c_St_doAgain 17 = .ok (.aload_n 0, 1) := by decide +kernel
theorem d_St_doAgain_18 : decode c_St_doAgain 18 = .ok (.getfield 12, 3) := by decide +kernel
theorem d_St_doAgain_21 : decode c_St_doAgain 21 = .ok (.iload_n 2, 1) := by decide +kernel
theorem d_St_doAgain_22 : decode c_St_doAgain 22 = .ok (.invokevirtual 116, 3) := by decide +kernel
theorem d_St_doAgain_25 : decode c_St_doAgain 25 = .ok (.iload_n 1, 1) := by decide +kernel
theorem d_St_doAgain_26 : decode c_St_doAgain 26 = .ok (.if_icmp .ge 20, 3) := by decide +kernel
theorem d_St_doAgain_29 : decode c_St_doAgain 29 = .ok (.aload_n 0, 1) := by decide +kernel
theorem d_St_doAgain_30 : decode c_St_doAgain 30 = .ok (.getfield 12, 3) := by decide +kernel
theorem d_St_doAgain_33 : decode c_St_doAgain 33 = .ok (.iload_n 2, 1) := by decide +kernel
theorem d_St_doAgain_34 : decode c_St_doAgain 34 = .ok (.aload_n 0, 1) := by decide +kernel
theorem d_St_doAgain_35 : decode c_St_doAgain 35 = .ok (.getfield 21, 3) := by decide +kernel
theorem d_St_doAgain_38 : decode c_St_doAgain 38 = .ok (.iload_n 1, 1) := by decide +kernel
theorem d_St_doAgain_39 : decode c_St_doAgain 39 = .ok (.invokevirtual 208, 3) := by decide +kernel
theorem d_St_doAgain_42 : decode c_St_doAgain 42 = .ok (.iload_n 1, 1) := by decide +kernel
theorem d_St_doAgain_43 : decode c_St_doAgain 43 = .ok (.invokevirtual 180, 3) := by decide +kernel
theorem d_St_doAgain_46 : decode c_St_doAgain 46 = .ok (.return_, 1) := by decide +kernel
theorem d_St_isEndSaved_0 : decode c_St_isEndSaved 0 = .ok (.aload_n 0, 1) := by decide +kernel
theorem d_St_isEndSaved_1 : decode c_St_isEndSaved 1 = .ok (.getfield 28, 3) := by decide +kernel
theorem d_St_isEndSaved_4 : decode c_St_isEndSaved 4 = .ok (.iload_n 1, 1) := by decide +kernel
theorem d_St_isEndSaved_5 : decode c_St_isEndSaved 5 = .ok (.invokevirtual 85, 3) := by decide +kernel
theorem d_St_isEndSaved_8 : decode c_St_isEndSaved 8 = .ok (.ifCond .ne 25, 3) := by decide +kernel
theorem d_St_isEndSaved_11 : decode c_St_isEndSaved 11 = .ok (.aload_n 0, 1) := by decide +kernel
theorem d_St_isEndSaved_12 : decode c_St_isEndSaved 12 = .ok (.getfield 28, 3) := by decide +kernel
theorem d_St_isEndSaved_15 : decode c_St_isEndSaved 15 = .ok (.iload_n 1, 1) := by decide +kernel
theorem d_St_isEndSaved_16 : decode c_St_isEndSaved 16 = .ok (.invokevirtual 166, 3) := by decide +kernel
theorem d_St_isEndSaved_19 : decode c_St_isEndSaved 19 = .ok (.aload_n 0, 1) := by decide +kernel
theorem d_St_isEndSaved_20 : decode c_St_isEndSaved 20 = .ok (.getfield 21, 3) := by decide +kernel
theorem d_St_isEndSaved_23 : decode c_St_isEndSaved 23 = .ok (.getfield 110, 3) := by decide +kernel
theorem d_St_isEndSaved_26 : decode c_St_isEndSaved 26 = .ok (.if_icmp .gt 7, 3) := by decide +kernel
theorem d_St_isEndSaved_29 : decode c_St_isEndSaved 29 = .ok (.iconst 1, 1) := by decide +kernel
theorem d_St_isEndSaved_30 : decode c_St_isEndSaved 30 = .ok (.goto 4, 3) := by decide +kernel
theorem d_St_isEndSaved_33 : decode c_St_isEndSaved 33 = .ok (.iconst 0, 1) := by decide +kernel
theorem d_St_isEndSaved_34 : decode c_St_isEndSaved 34 = .ok (.ireturn, 1) := by decide +kernel
theorem d_St_isNeeded_0 : decode c_St_isNeeded 0 = .ok (.aload_n 0, 1) := by decide +kernel
theorem d_St_isNeeded_1 : decode c_St_isNeeded 1 = .ok (.getfield 21, 3) := by decide +kernel
theorem d_St_isNeeded_4 : decode c_St_isNeeded 4 = .ok (.iload_n 1, 1) := by decide +kernel
theorem d_St_isNeeded_5 : decode c_St_isNeeded 5 = .ok (.invokevirtual 187, 3) := by decide +kernel
theorem d_St_isNeeded_8 : decode c_St_isNeeded 8 = .ok (.istore_n 2, 1) := by decide +kernel
theorem d_St_isNeeded_9 : decode c_St_isNeeded 9 = .ok (.iload_n 2, 1) := by decide +kernel
theorem d_St_isNeeded_10 : decode c_St_isNeeded 10 = .ok (.invokestatic 205, 3) := by decide +kernel
theorem d_St_isNeeded_13 : decode c_St_isNeeded 13 = .ok (.ifCond .eq 28, 3) := by decide +kernel
theorem d_St_isNeeded_16 : decode c_St_isNeeded 16 = .ok (.iload_n 1, 1) := by decide +kernel
theorem d_St_isNeeded_17 : decode c_St_isNeeded 17 = .ok (.aload_n 0, 1) := by decide +kernel
theorem d_St_isNeeded_18 : decode c_St_isNeeded 18 = .ok (.getfield 12, 3) := by decide +kernel
theorem d_St_isNeeded_21 : decode c_St_isNeeded 21 = .ok (.aload_n 0, 1) := by decide +kernel
theorem d_St_isNeeded_22 : decode c_St_isNeeded 22 = .ok (.getfield 21, 3) := by decide +kernel
theorem d_St_isNeeded_25 : decode c_St_isNeeded 25 = .ok (.iload_n 1, 1) := by decide +kernel
theorem d_St_isNeeded_26 : decode c_St_isNeeded 26 = .ok (.invokevirtual 190, 3) := by decide +kernel
theorem d_St_isNeeded_29 : decode c_St_isNeeded 29 = .ok (.invokevirtual 150, 3) := by decide +kernel
theorem d_St_isNeeded_32 : decode c_St_isNeeded 32 = .ok (.if_icmp .le 7, 3) := by decide +kernel
theorem d_St_isNeeded_35 : decode c_St_isNeeded 35 = .ok (.iconst 1, 1) := by decide +kernel
theorem d_St_isNeeded_36 : decode c_St_isNeeded 36 = .ok (.goto 4, 3) := by decide +kernel
theorem d_St_isNeeded_39 : decode c_St_isNeeded 39 = .ok (.iconst 0, 1) := by decide +kernel
theorem d_St_isNeeded_40 : decode c_St_isNeeded 40 = .ok (.ireturn, 1) := by decide +kernel
theorem d_St_isNeeded_41 : decode c_St_isNeeded 41 = .ok (.iload_n 2, 1) := by decide +kernel
theorem d_St_isNeeded_42 : decode c_St_isNeeded 42 = .ok (.ifCond .ne 22, 3) := by decide +kernel
theorem d_St_isNeeded_45 : decode c_St_isNeeded 45 = .ok (.aload_n 0, 1) := by decide +kernel
theorem d_St_isNeeded_46 : decode c_St_isNeeded 46 = .ok (.aload_n 0, 1) := by decide +kernel
theorem d_St_isNeeded_47 : decode c_St_isNeeded 47 = .ok (.getfield 21, 3) := by decide +kernel
theorem d_St_isNeeded_50 : decode c_St_isNeeded 50 = .ok (.iload_n 1, 1) := by decide +kernel
theorem d_St_isNeeded_51 : decode c_St_isNeeded 51 = .ok (.invokevirtual 211, 3) := by decide +kernel
theorem d_St_isNeeded_54 : decode c_St_isNeeded 54 = .ok (.invokevirtual 214, 3) := by decide +kernel
theorem d_St_isNeeded_57 : decode c_St_isNeeded 57 = .ok (.ifCond .ne 7, 3) := by decide +kernel
theorem d_St_isNeeded_60 : decode c_St_isNeeded 60 = .ok (.iconst 1, 1) := by decide +kernel
theorem d_St_isNeeded_61 : decode c_St_isNeeded 61 = .ok (.goto 4, 3) := by decide +kernel
theorem d_St_isNeeded_64 : decode c_St_isNeeded 64 = .ok (.iconst 0, 1) := by decide +kernel
theorem d_St_isNeeded_65 : decode c_St_isNeeded 65 = .ok (.ireturn, 1) := by decide +kernel
theorem d_St_beginWork_0 : decode c_St_beginWork 0 = .ok (.aload_n 0, 1) := by decide +kernel
theorem d_St_beginWork_1 : decode c_St_beginWork 1 = .ok (.getfield 28, 3) := by decide +kernel
theorem d_St_beginWork_4 : decode c_St_beginWork 4 = .ok (.invokevirtual 62, 3) := by decide +kernel
theorem d_St_beginWork_7 : decode c_St_beginWork 7 = .ok (.ifCond .ne 13, 3) := by decide +kernel
theorem d_St_beginWork_10 : decode c_St_beginWork 10 = .ok (.aload_n 0, 1) := by decide +kernel
theorem d_St_beginWork_11 : decode c_St_beginWork 11 = .ok (.getfield 21, 3) := by decide +kernel
theorem d_St_beginWork_14 : decode c_St_beginWork 14 = .ok (.invokevirtual 66, 3) := by decide +kernel
theorem d_St_beginWork_17 : decode c_St_beginWork 17 = .ok (.ifCond .eq 6, 3) := by decide +kernel
theorem d_St_beginWork_20 : decode c_St_beginWork 20 = .ok (.bipush (-4), 2) := by decide +kernel
theorem d_St_beginWork_22 : decode c_St_beginWork 22 = .ok (.ireturn, 1) := by decide +kernel
theorem d_St_beginWork_23 : decode c_St_beginWork 23 = .ok (.aload_n 0, 1) := by decide +kernel
theorem d_St_beginWork_24 : decode c_St_beginWork 24 = .ok (.getfield 32, 3) := by decide +kernel
theorem d_St_beginWork_27 : decode c_St_beginWork 27 = .ok (.ifCond .eq 6, 3) := by decide +kernel
theorem d_St_beginWork_30 : decode c_St_beginWork 30 = .ok (.bipush (-5), 2) := by decide +kernel
theorem d_St_beginWork_32 : decode c_St_beginWork 32 = .ok (.ireturn, 1) := by decide +kernel
theorem d_St_beginWork_33 : decode c_St_beginWork 33 = .ok (.aload_n 0, 1) := by decide +kernel
theorem d_St_beginWork_34 : decode c_St_beginWork 34 = .ok (.getfield 28, 3) := by decide +kernel
theorem d_St_beginWork_37 : decode c_St_beginWork 37 = .ok (.getfield 67, 3) := by decide +kernel
theorem d_St_beginWork_40 : decode c_St_beginWork 40 = .ok (.istore_n 1, 1) := by decide +kernel
theorem d_St_beginWork_41 : decode c_St_beginWork 41 = .ok (.aload_n 0, 1) := by decide +kernel
theorem d_St_beginWork_42 : decode c_St_beginWork 42 = .ok (.iconst 0, 1) := by decide +kernel
theorem d_St_beginWork_43 : decode c_St_beginWork 43 = .ok (.iload_n 1, 1) := by decide +kernel
theorem d_St_beginWork_44 : decode c_St_beginWork 44 = .ok (.invokevirtual 70, 3) := by decide +kernel
theorem d_St_beginWork_47 : decode c_St_beginWork 47 = .ok (.pop, 1) := by decide +kernel
theorem d_St_beginWork_48 : decode c_St_beginWork 48 = .ok (.iload_n 1, 1) := by decide +kernel
theorem d_St_beginWork_49 : decode c_St_beginWork 49 = .ok (.ireturn, 1) := by decide +kernel
theorem d_St_writePage_0 : decode c_St_writePage 0 = .ok (.aload_n 0, 1) := by decide +kernel
theorem d_St_writePage_1 : decode c_St_writePage 1 = .ok (.getfield 28, 3) := by decide +kernel
theorem d_St_writePage_4 : decode c_St_writePage 4 = .ok (.iload_n 1, 1) := by decide +kernel
theorem d_St_writePage_5 : decode c_St_writePage 5 = .ok (.invokevirtual 74, 3) := by decide +kernel
theorem d_St_writePage_8 : decode c_St_writePage 8 = .ok (.ifCond .eq 10, 3) := by decide +kernel
theorem d_St_writePage_11 : decode c_St_writePage 11 = .ok (.iload_n 2, 1) := by decide +kernel
theorem d_St_writePage_12 : decode c_St_writePage 12 = .ok (.invokestatic 78, 3) := by decide +kernel
theorem d_St_writePage_15 : decode c_St_writePage 15 = .ok (.ifCond .ne 5, 3) := by decide +kernel
theorem d_St_writePage_18 : decode c_St_writePage 18 = .ok (.iconst (-1), 1) := by decide +kernel
theorem d_St_writePage_19 : decode c_St_writePage 19 = .ok (.ireturn, 1) := by decide +kernel
theorem d_St_writePage_20 : decode c_St_writePage 20 = .ok (.iload_n 3, 1) := by decide +kernel
theorem d_St_writePage_21 : decode c_St_writePage 21 = .ok (.ifCond .lt 10, 3) := by decide +kernel
theorem d_St_writePage_24 : decode c_St_writePage 24 = .ok (.iload_n 3, 1) := by decide +kernel
theorem d_St_writePage_25 : decode c_St_writePage 25 = .ok (.sipush 999, 3) := by decide +kernel
theorem d_St_writePage_28 : decode c_St_writePage 28 = .ok (.if_icmp .le 6, 3) := by decide +kernel
theorem d_St_writePage_31 : decode c_St_writePage 31 = .ok (.bipush (-2), 2) := by decide +kernel
theorem d_St_writePage_33 : decode c_St_writePage 33 = .ok (.ireturn, 1) := by decide +kernel
theorem d_St_writePage_34 : decode c_St_writePage 34 = .ok (.aload_n 0, 1) := by decide +kernel
theorem d_St_writePage_35 : decode c_St_writePage 35 = .ok (.getfield 21, 3) := by decide +kernel
theorem d_St_writePage_38 : decode c_St_writePage 38 = .ok (.invokevirtual 66, 3) := by decide +kernel
theorem d_St_writePage_41 : decode c_St_writePage 41 = .ok (.ifCond .eq 6, 3) := by decide +kernel
theorem d_St_writePage_44 : decode c_St_writePage 44 = .ok (.bipush (-4), 2) := by decide +kernel
theorem d_St_writePage_46 : decode c_St_writePage 46 = .ok (.ireturn, 1) := by decide +kernel
theorem d_St_writePage_47 : decode c_St_writePage 47 = .ok (.aload_n 0, 1) := by decide +kernel
theorem d_St_writePage_48 : decode c_St_writePage 48 = .ok (.getfield 28, 3) := by decide +kernel
theorem d_St_writePage_51 : decode c_St_writePage 51 = .ok (.iload_n 2, 1) := by decide +kernel
theorem d_St_writePage_52 : decode c_St_writePage 52 = .ok (.invokevirtual 81, 3) := by decide +kernel
theorem d_St_writePage_55 : decode c_St_writePage 55 = .ok (.istore 4, 2) := by decide +kernel
theorem d_St_writePage_57 : decode c_St_writePage 57 = .ok (.aload_n 0, 1) := by decide +kernel
theorem d_St_writePage_58 : decode c_St_writePage 58 = .ok (.getfield 32, 3) := by decide +kernel
theorem d_St_writePage_61 : decode c_St_writePage 61 = .ok (.ifCond .ne 27, 3) := by decide +kernel
theorem d_St_writePage_64 : decode c_St_writePage 64 = .ok (.aload_n 0, 1) := by decide +kernel
theorem d_St_writePage_65 : decode c_St_writePage 65 = .ok (.getfield 28, 3) := by decide +kernel
theorem d_St_writePage_68 : decode c_St_writePage 68 = .ok (.iload_n 1, 1) := by decide +kernel
theorem d_St_writePage_69 : decode c_St_writePage 69 = .ok (.invokevirtual 85, 3) := by decide +kernel
theorem d_St_writePage_72 : decode c_St_writePage 72 = .ok (.ifCond .eq 16, 3) := by decide +kernel
theorem d_St_writePage_75 : decode c_St_writePage 75 = .ok (.iload 4, 2) := by decide +kernel
theorem d_St_writePage_77 : decode c_St_writePage 77 = .ok (.bipush (-6), 2) := by decide +kernel
theorem d_St_writePage_79 : decode c_St_writePage 79 = .ok (.if_icmp .eq 12, 3) := by decide +kernel
theorem d_St_writePage_82 : decode c_St_writePage 82 = .ok (.iload 4, 2) := by decide +kernel
theorem d_St_writePage_84 : decode c_St_writePage 84 = .ok (.iload_n 1, 1) := by decide +kernel
theorem d_St_writePage_85 : decode c_St_writePage 85 = .ok (.if_icmp .eq 6, 3) := by decide +kernel
theorem d_St_writePage_88 : decode c_St_writePage 88 = .ok (.bipush (-5), 2) := by decide +kernel
theorem d_St_writePage_90 : decode c_St_writePage 90 = .ok (.ireturn, 1) := by decide +kernel
theorem d_St_writePage_91 : decode c_St_writePage 91 = .ok (.aload_n 0, 1) := by decide +kernel
theorem d_St_writePage_92 : decode c_St_writePage 92 = .ok (.getfield 12, 3) := by decide +kernel
theorem d_St_writePage_95 : decode c_St_writePage 95 = .ok (.iload_n 2, 1) := by decide +kernel
theorem d_St_writePage_96 : decode c_St_writePage 96 = .ok (.invokevirtual 88, 3) := by decide +kernel
theorem d_St_writePage_99 : decode c_St_writePage 99 = .ok (.aload_n 0, 1) := by decide +kernel
theorem d_St_writePage_100 : decode c_St_writePage 100 = .ok (.getfield 12, 3) := by decide +kernel
theorem d_St_writePage_103 : decode c_St_writePage 103 = .ok (.iload_n 2, 1) := by decide +kernel
theorem d_St_writePage_104 : decode c_St_writePage 104 = .ok (.invokevirtual 92, 3) := by decide +kernel
theorem d_St_writePage_107 : decode c_St_writePage 107 = .ok (.istore 5, 2) := by decide +kernel
theorem d_St_writePage_109 : decode c_St_writePage 109 = .ok (.aload_n 0, 1) := by decide +kernel
theorem d_St_writePage_110 : decode c_St_writePage 110 = .ok (.iconst 1, 1) := by decide +kernel
theorem d_St_writePage_111 : decode c_St_writePage 111 = .ok (.iload_n 1, 1) := by decide +kernel
theorem d_St_writePage_112 : decode c_St_writePage 112 = .ok (.iload_n 2, 1) := by decide +kernel
theorem d_St_writePage_113 : decode c_St_writePage 113 = .ok (.iload 5, 2) := by decide +kernel
theorem d_St_writePage_115 : decode c_St_writePage 115 = .ok (.iload_n 3, 1) := by decide +kernel
theorem d_St_writePage_116 : decode c_St_writePage 116 = .ok (.bipush (-6), 2) := by decide +kernel
theorem d_St_writePage_118 : decode c_St_writePage 118 = .ok (.invokevirtual 95, 3) := by decide +kernel
theorem d_St_writePage_121 : decode c_St_writePage 121 = .ok (.iload 5, 2) := by decide +kernel
theorem d_St_writePage_123 : decode c_St_writePage 123 = .ok (.ireturn, 1) := by decide +kernel
theorem d_St_finishWork_0 : decode c_St_finishWork 0 = .ok (.aload_n 0, 1) := by decide +kernel
theorem d_St_finishWork_1 : decode c_St_finishWork 1 = .ok (.getfield 28, 3) := by decide +kernel
theorem d_St_finishWork_4 : decode c_St_finishWork 4 = .ok (.iload_n 1, 1) := by decide +kernel
theorem d_St_finishWork_5 : decode c_St_finishWork 5 = .ok (.invokevirtual 74, 3) := by decide +kernel
theorem d_St_finishWork_8 : decode c_St_finishWork 8 = .ok (.ifCond .ne 5, 3) := by decide +kernel
theorem d_St_finishWork_11 : decode c_St_finishWork 11 = .ok (.iconst (-1), 1) := by decide +kernel
theorem d_St_finishWork_12 : decode c_St_finishWork 12 = .ok (.ireturn, 1) := by decide +kernel
theorem d_St_finishWork_13 : decode c_St_finishWork 13 = .ok (.aload_n 0, 1) := by decide +kernel
theorem d_St_finishWork_14 : decode c_St_finishWork 14 = .ok (.getfield 21, 3) := by decide +kernel
theorem d_St_finishWork_17 : decode c_St_finishWork 17 = .ok (.invokevirtual 66, 3) := by decide +kernel
theorem d_St_finishWork_20 : decode c_St_finishWork 20 = .ok (.ifCond .eq 6, 3) := by decide +kernel
theorem d_St_finishWork_23 : decode c_St_finishWork 23 = .ok (.bipush (-4), 2) := by decide +kernel
theorem d_St_finishWork_25 : decode c_St_finishWork 25 = .ok (.ireturn, 1) := by decide +kernel
theorem d_St_finishWork_26 : decode c_St_finishWork 26 = .ok (.aload_n 0, 1) := by decide +kernel
theorem d_St_finishWork_27 : decode c_St_finishWork 27 = .ok (.getfield 32, 3) := by decide +kernel
theorem d_St_finishWork_30 : decode c_St_finishWork 30 = .ok (.ifCond .ne 14, 3) := by decide +kernel
theorem d_St_finishWork_33 : decode c_St_finishWork 33 = .ok (.aload_n 0, 1) := by decide +kernel
theorem d_St_finishWork_34 : decode c_St_finishWork 34 = .ok (.getfield 28, 3) := by decide +kernel
theorem d_St_finishWork_37 : decode c_St_finishWork 37 = .ok (.iload_n 1, 1) := by decide +kernel
theorem d_St_finishWork_38 : decode c_St_finishWork 38 = .ok (.invokevirtual 85, 3) := by decide +kernel
theorem d_St_finishWork_41 : decode c_St_finishWork 41 = .ok (.ifCond .ne 6, 3) := by decide +kernel
theorem d_St_finishWork_44 : decode c_St_finishWork 44 = .ok (.bipush (-5), 2) := by decide +kernel
theorem d_St_finishWork_46 : decode c_St_finishWork 46 = .ok (.ireturn, 1) := by decide +kernel
theorem d_St_finishWork_47 : decode c_St_finishWork 47 = .ok (.aload_n 0, 1) := by decide +kernel
theorem d_St_finishWork_48 : decode c_St_finishWork 48 = .ok (.iconst 3, 1) := by decide +kernel
theorem d_St_finishWork_49 : decode c_St_finishWork 49 = .ok (.iload_n 1, 1) := by decide +kernel
theorem d_St_finishWork_50 : decode c_St_finishWork 50 = .ok (.invokevirtual 70, 3) := by decide +kernel
theorem d_St_finishWork_53 : decode c_St_finishWork 53 = .ok (.istore_n 2, 1) := by decide +kernel
theorem d_St_finishWork_54 : decode c_St_finishWork 54 = .ok (.aload_n 0, 1) := by decide +kernel
theorem d_St_finishWork_55 : decode c_St_finishWork 55 = .ok (.getfield 21, 3) := by decide +kernel
theorem d_St_finishWork_58 : decode c_St_finishWork 58 = .ok (.iload_n 2, 1) := by decide +kernel
theorem d_St_finishWork_59 : decode c_St_finishWork 59 = .ok (.invokevirtual 99, 3) := by decide +kernel
theorem d_St_finishWork_62 : decode c_St_finishWork 62 = .ok (.iload_n 2, 1) := by decide +kernel
theorem d_St_finishWork_63 : decode c_St_finishWork 63 = .ok (.ireturn, 1) := by decide +kernel
theorem d_St_tearWork_0 : decode c_St_tearWork 0 = .ok (.aload_n 0, 1) := by decide +kernel
theorem d_St_tearWork_1 : decode c_St_tearWork 1 = .ok (.getfield 28, 3) := by decide +kernel
theorem d_St_tearWork_4 : decode c_St_tearWork 4 = .ok (.iload_n 1, 1) := by decide +kernel
theorem d_St_tearWork_5 : decode c_St_tearWork 5 = .ok (.invokevirtual 74, 3) := by decide +kernel
theorem d_St_tearWork_8 : decode c_St_tearWork 8 = .ok (.ifCond .ne 5, 3) := by decide +kernel
theorem d_St_tearWork_11 : decode c_St_tearWork 11 = .ok (.iconst (-1), 1) := by decide +kernel
theorem d_St_tearWork_12 : decode c_St_tearWork 12 = .ok (.ireturn, 1) := by decide +kernel
theorem d_St_tearWork_13 : decode c_St_tearWork 13 = .ok (.aload_n 0, 1) := by decide +kernel
theorem d_St_tearWork_14 : decode c_St_tearWork 14 = .ok (.getfield 32, 3) := by decide +kernel
theorem d_St_tearWork_17 : decode c_St_tearWork 17 = .ok (.ifCond .ne 14, 3) := by decide +kernel
theorem d_St_tearWork_20 : decode c_St_tearWork 20 = .ok (.aload_n 0, 1) := by decide +kernel
theorem d_St_tearWork_21 : decode c_St_tearWork 21 = .ok (.getfield 28, 3) := by decide +kernel
theorem d_St_tearWork_24 : decode c_St_tearWork 24 = .ok (.iload_n 1, 1) := by decide +kernel
theorem d_St_tearWork_25 : decode c_St_tearWork 25 = .ok (.invokevirtual 85, 3) := by decide +kernel
theorem d_St_tearWork_28 : decode c_St_tearWork 28 = .ok (.ifCond .ne 6, 3) := by decide +kernel
theorem d_St_tearWork_31 : decode c_St_tearWork 31 = .ok (.bipush (-5), 2) := by decide +kernel
theorem d_St_tearWork_33 : decode c_St_tearWork 33 = .ok (.ireturn, 1) := by decide +kernel
theorem d_St_tearWork_34 : decode c_St_tearWork 34 = .ok (.aload_n 0, 1) := by decide +kernel
theorem d_St_tearWork_35 : decode c_St_tearWork 35 = .ok (.iload_n 1, 1) := by decide +kernel
theorem d_St_tearWork_36 : decode c_St_tearWork 36 = .ok (.invokevirtual 102, 3) := by decide +kernel
theorem d_St_tearWork_39 : decode c_St_tearWork 39 = .ok (.istore_n 2, 1) := by decide +kernel
theorem d_St_tearWork_40 : decode c_St_tearWork 40 = .ok (.aload_n 0, 1) := by decide +kernel
theorem d_St_tearWork_41 : decode c_St_tearWork 41 = .ok (.getfield 21, 3) := by decide +kernel
theorem d_St_tearWork_44 : decode c_St_tearWork 44 = .ok (.getfield 105, 3) := by decide +kernel
theorem d_St_tearWork_47 : decode c_St_tearWork 47 = .ok (.iload_n 2, 1) := by decide +kernel
theorem d_St_tearWork_48 : decode c_St_tearWork 48 = .ok (.iadd, 1) := by decide +kernel
theorem d_St_tearWork_49 : decode c_St_tearWork 49 = .ok (.sipush 150, 3) := by decide +kernel
theorem d_St_tearWork_52 : decode c_St_tearWork 52 = .ok (.if_icmp .le 6, 3) := by decide +kernel
theorem d_St_tearWork_55 : decode c_St_tearWork 55 = .ok (.bipush (-4), 2) := by decide +kernel
theorem d_St_tearWork_57 : decode c_St_tearWork 57 = .ok (.ireturn, 1) := by decide +kernel
theorem d_St_tearWork_58 : decode c_St_tearWork 58 = .ok (.iconst 0, 1) := by decide +kernel
theorem d_St_tearWork_59 : decode c_St_tearWork 59 = .ok (.istore_n 3, 1) := by decide +kernel
theorem d_St_tearWork_60 : decode c_St_tearWork 60 = .ok (.iload_n 3, 1) := by decide +kernel
theorem d_St_tearWork_61 : decode c_St_tearWork 61 = .ok (.iload_n 2, 1) := by decide +kernel
theorem d_St_tearWork_62 : decode c_St_tearWork 62 = .ok (.if_icmp .ge 14, 3) := by decide +kernel
theorem d_St_tearWork_65 : decode c_St_tearWork 65 = .ok (.aload_n 0, 1) := by decide +kernel
theorem d_St_tearWork_66 : decode c_St_tearWork 66 = .ok (.iload_n 1, 1) := by decide +kernel
theorem d_St_tearWork_67 : decode c_St_tearWork 67 = .ok (.invokevirtual 106, 3) := by decide +kernel
theorem d_St_tearWork_70 : decode c_St_tearWork 70 = .ok (.iinc 3 1, 3) := by decide +kernel
theorem d_St_tearWork_73 : decode c_St_tearWork 73 = .ok (.goto (-13), 3) := by decide +kernel
theorem d_St_tearWork_76 : decode c_St_tearWork 76 = .ok (.iload_n 2, 1) := by decide +kernel
theorem d_St_tearWork_77 : decode c_St_tearWork 77 = .ok (.ireturn, 1) := by decide +kernel
theorem d_St_saveEntries_0 : decode c_St_saveEntries 0 = .ok (.aload_n 0, 1) := by decide +kernel
theorem d_St_saveEntries_1 : decode c_St_saveEntries 1 = .ok (.getfield 21, 3) := by decide +kernel
theorem d_St_saveEntries_4 : decode c_St_saveEntries 4 = .ok (.iload_n 1, 1) := by decide +kernel
theorem d_St_saveEntries_5 : decode c_St_saveEntries 5 = .ok (.invokevirtual 109, 3) := by decide +kernel
theorem d_St_saveEntries_8 : decode c_St_saveEntries 8 = .ok (.ifCond .ne 5, 3) := by decide +kernel
theorem d_St_saveEntries_11 : decode c_St_saveEntries 11 = .ok (.iconst (-1), 1) := by decide +kernel
theorem d_St_saveEntries_12 : decode c_St_saveEntries 12 = .ok (.ireturn, 1) := by decide +kernel
theorem d_St_saveEntries_13 : decode c_St_saveEntries 13 = .ok (.aload_n 0, 1) := by decide +kernel
theorem d_St_saveEntries_14 : decode c_St_saveEntries 14 = .ok (.getfield 32, 3) := by decide +kernel
theorem d_St_saveEntries_17 : decode c_St_saveEntries 17 = .ok (.ifCond .eq 6, 3) := by decide +kernel
theorem d_St_saveEntries_20 : decode c_St_saveEntries 20 = .ok (.bipush (-5), 2) := by decide +kernel
theorem d_St_saveEntries_22 : decode c_St_saveEntries 22 = .ok (.ireturn, 1) := by decide +kernel
theorem d_St_saveEntries_23 : decode c_St_saveEntries 23 = .ok (.aload_n 0, 1) := by decide +kernel
theorem d_St_saveEntries_24 : decode c_St_saveEntries 24 = .ok (.getfield 21, 3) := by decide +kernel
theorem d_St_saveEntries_27 : decode c_St_saveEntries 27 = .ok (.iload_n 1, 1) := by decide +kernel
theorem d_St_saveEntries_28 : decode c_St_saveEntries 28 = .ok (.invokevirtual 99, 3) := by decide +kernel
theorem d_St_saveEntries_31 : decode c_St_saveEntries 31 = .ok (.aload_n 0, 1) := by decide +kernel
theorem d_St_saveEntries_32 : decode c_St_saveEntries 32 = .ok (.getfield 21, 3) := by decide +kernel
theorem d_St_saveEntries_35 : decode c_St_saveEntries 35 = .ok (.getfield 110, 3) := by decide +kernel
theorem d_St_saveEntries_38 : decode c_St_saveEntries 38 = .ok (.ireturn, 1) := by decide +kernel
theorem d_St_shelvePage_0 : decode c_St_shelvePage 0 = .ok (.iload_n 1, 1) := by decide +kernel
theorem d_St_shelvePage_1 : decode c_St_shelvePage 1 = .ok (.invokestatic 78, 3) := by decide +kernel
theorem d_St_shelvePage_4 : decode c_St_shelvePage 4 = .ok (.ifCond .ne 5, 3) := by decide +kernel
theorem d_St_shelvePage_7 : decode c_St_shelvePage 7 = .ok (.iconst (-1), 1) := by decide +kernel
theorem d_St_shelvePage_8 : decode c_St_shelvePage 8 = .ok (.ireturn, 1) := by decide +kernel
theorem d_St_shelvePage_9 : decode c_St_shelvePage 9 = .ok (.aload_n 0, 1) := by decide +kernel
theorem d_St_shelvePage_10 : decode c_St_shelvePage 10 = .ok (.getfield 32, 3) := by decide +kernel
theorem d_St_shelvePage_13 : decode c_St_shelvePage 13 = .ok (.ifCond .ne 14, 3) := by decide +kernel
theorem d_St_shelvePage_16 : decode c_St_shelvePage 16 = .ok (.aload_n 0, 1) := by decide +kernel
theorem d_St_shelvePage_17 : decode c_St_shelvePage 17 = .ok (.getfield 12, 3) := by decide +kernel
theorem d_St_shelvePage_20 : decode c_St_shelvePage 20 = .ok (.iload_n 1, 1) := by decide +kernel
theorem d_St_shelvePage_21 : decode c_St_shelvePage 21 = .ok (.invokevirtual 113, 3) := by decide +kernel
theorem d_St_shelvePage_24 : decode c_St_shelvePage 24 = .ok (.ifCond .ne 6, 3) := by decide +kernel
theorem d_St_shelvePage_27 : decode c_St_shelvePage 27 = .ok (.bipush (-5), 2) := by decide +kernel
theorem d_St_shelvePage_29 : decode c_St_shelvePage 29 = .ok (.ireturn, 1) := by decide +kernel
theorem d_St_shelvePage_30 : decode c_St_shelvePage 30 = .ok (.aload_n 0, 1) := by decide +kernel
theorem d_St_shelvePage_31 : decode c_St_shelvePage 31 = .ok (.getfield 21, 3) := by decide +kernel
theorem d_St_shelvePage_34 : decode c_St_shelvePage 34 = .ok (.aload_n 0, 1) := by decide +kernel
theorem d_St_shelvePage_35 : decode c_St_shelvePage 35 = .ok (.getfield 12, 3) := by decide +kernel
theorem d_St_shelvePage_38 : decode c_St_shelvePage 38 = .ok (.iload_n 1, 1) := by decide +kernel
theorem d_St_shelvePage_39 : decode c_St_shelvePage 39 = .ok (.invokevirtual 116, 3) := by decide +kernel
theorem d_St_shelvePage_42 : decode c_St_shelvePage 42 = .ok (.invokevirtual 99, 3) := by decide +kernel
theorem d_St_shelvePage_45 : decode c_St_shelvePage 45 = .ok (.aload_n 0, 1) := by decide +kernel
theorem d_St_shelvePage_46 : decode c_St_shelvePage 46 = .ok (.getfield 12, 3) := by decide +kernel
theorem d_St_shelvePage_49 : decode c_St_shelvePage 49 = .ok (.iload_n 1, 1) := by decide +kernel
theorem d_St_shelvePage_50 : decode c_St_shelvePage 50 = .ok (.invokevirtual 119, 3) := by decide +kernel
theorem d_St_shelvePage_53 : decode c_St_shelvePage 53 = .ok (.aload_n 0, 1) := by decide +kernel
theorem d_St_shelvePage_54 : decode c_St_shelvePage 54 = .ok (.getfield 21, 3) := by decide +kernel
theorem d_St_shelvePage_57 : decode c_St_shelvePage 57 = .ok (.getfield 110, 3) := by decide +kernel
theorem d_St_shelvePage_60 : decode c_St_shelvePage 60 = .ok (.ireturn, 1) := by decide +kernel
theorem d_St_takeFlood_0 : decode c_St_takeFlood 0 = .ok (.aload_n 0, 1) := by decide +kernel
theorem d_St_takeFlood_1 : decode c_St_takeFlood 1 = .ok (.getfield 21, 3) := by decide +kernel
theorem d_St_takeFlood_4 : decode c_St_takeFlood 4 = .ok (.getfield 105, 3) := by decide +kernel
theorem d_St_takeFlood_7 : decode c_St_takeFlood 7 = .ok (.aload_n 0, 1) := by decide +kernel
theorem d_St_takeFlood_8 : decode c_St_takeFlood 8 = .ok (.getfield 21, 3) := by decide +kernel
theorem d_St_takeFlood_11 : decode c_St_takeFlood 11 = .ok (.getfield 110, 3) := by decide +kernel
theorem d_St_takeFlood_14 : decode c_St_takeFlood 14 = .ok (.isub, 1) := by decide +kernel
theorem d_St_takeFlood_15 : decode c_St_takeFlood 15 = .ok (.istore_n 1, 1) := by decide +kernel
theorem d_St_takeFlood_16 : decode c_St_takeFlood 16 = .ok (.aload_n 0, 1) := by decide +kernel
theorem d_St_takeFlood_17 : decode c_St_takeFlood 17 = .ok (.dup, 1) := by decide +kernel
theorem d_St_takeFlood_18 : decode c_St_takeFlood 18 = .ok (.getfield 43, 3) := by decide +kernel
theorem d_St_takeFlood_21 : decode c_St_takeFlood 21 = .ok (.iconst 1, 1) := by decide +kernel
theorem d_St_takeFlood_22 : decode c_St_takeFlood 22 = .ok (.iadd, 1) := by decide +kernel
theorem d_St_takeFlood_23 : decode c_St_takeFlood 23 = .ok (.putfield 43, 3) := by decide +kernel
theorem d_St_takeFlood_26 : decode c_St_takeFlood 26 = .ok (.aload_n 0, 1) := by decide +kernel
theorem d_St_takeFlood_27 : decode c_St_takeFlood 27 = .ok (.getfield 12, 3) := by decide +kernel
theorem d_St_takeFlood_30 : decode c_St_takeFlood 30 = .ok (.invokevirtual 122, 3) := by decide +kernel
theorem d_St_takeFlood_33 : decode c_St_takeFlood 33 = .ok (.aload_n 0, 1) := by decide +kernel
theorem d_St_takeFlood_34 : decode c_St_takeFlood 34 = .ok (.iconst 1, 1) := by decide +kernel
theorem d_St_takeFlood_35 : decode c_St_takeFlood 35 = .ok (.putfield 32, 3) := by decide +kernel
theorem d_St_takeFlood_38 : decode c_St_takeFlood 38 = .ok (.aload_n 0, 1) := by decide +kernel
theorem d_St_takeFlood_39 : decode c_St_takeFlood 39 = .ok (.iconst 0, 1) := by decide +kernel
theorem d_St_takeFlood_40 : decode c_St_takeFlood 40 = .ok (.putfield 36, 3) := by decide +kernel
theorem d_St_takeFlood_43 : decode c_St_takeFlood 43 = .ok (.aload_n 0, 1) := by decide +kernel
theorem d_St_takeFlood_44 : decode c_St_takeFlood 44 = .ok (.iconst 1, 1) := by decide +kernel
theorem d_St_takeFlood_45 : decode c_St_takeFlood 45 = .ok (.putfield 39, 3) := by decide +kernel
theorem d_St_takeFlood_48 : decode c_St_takeFlood 48 = .ok (.aload_n 0, 1) := by decide +kernel
theorem d_St_takeFlood_49 : decode c_St_takeFlood 49 = .ok (.iload_n 1, 1) := by decide +kernel
theorem d_St_takeFlood_50 : decode c_St_takeFlood 50 = .ok (.invokevirtual 125, 3) := by decide +kernel
theorem d_St_takeFlood_53 : decode c_St_takeFlood 53 = .ok (.iload_n 1, 1) := by decide +kernel
theorem d_St_takeFlood_54 : decode c_St_takeFlood 54 = .ok (.ireturn, 1) := by decide +kernel
theorem d_St_blurEntries_0 : decode c_St_blurEntries 0 = .ok (.iload_n 1, 1) := by decide +kernel
theorem d_St_blurEntries_1 : decode c_St_blurEntries 1 = .ok (.iconst 1, 1) := by decide +kernel
theorem d_St_blurEntries_2 : decode c_St_blurEntries 2 = .ok (.if_icmp .lt 8, 3) := by decide +kernel
theorem d_St_blurEntries_5 : decode c_St_blurEntries 5 = .ok (.iload_n 1, 1) := by decide +kernel
theorem d_St_blurEntries_6 : decode c_St_blurEntries 6 = .ok (.iconst 5, 1) := by decide +kernel
theorem d_St_blurEntries_7 : decode c_St_blurEntries 7 = .ok (.if_icmp .le 6, 3) := by decide +kernel
theorem d_St_blurEntries_10 : decode c_St_blurEntries 10 = .ok (.bipush (-2), 2) := by decide +kernel
theorem d_St_blurEntries_12 : decode c_St_blurEntries 12 = .ok (.ireturn, 1) := by decide +kernel
theorem d_St_blurEntries_13 : decode c_St_blurEntries 13 = .ok (.aload_n 0, 1) := by decide +kernel
theorem d_St_blurEntries_14 : decode c_St_blurEntries 14 = .ok (.getfield 32, 3) := by decide +kernel
theorem d_St_blurEntries_17 : decode c_St_blurEntries 17 = .ok (.ifCond .eq 10, 3) := by decide +kernel
theorem d_St_blurEntries_20 : decode c_St_blurEntries 20 = .ok (.aload_n 0, 1) := by decide +kernel
theorem d_St_blurEntries_21 : decode c_St_blurEntries 21 = .ok (.getfield 36, 3) := by decide +kernel
theorem d_St_blurEntries_24 : decode c_St_blurEntries 24 = .ok (.ifCond .eq 6, 3) := by decide +kernel
theorem d_St_blurEntries_27 : decode c_St_blurEntries 27 = .ok (.bipush (-5), 2) := by decide +kernel
theorem d_St_blurEntries_29 : decode c_St_blurEntries 29 = .ok (.ireturn, 1) := by decide +kernel
theorem d_St_blurEntries_30 : decode c_St_blurEntries 30 = .ok (.aload_n 0, 1) := by decide +kernel
theorem d_St_blurEntries_31 : decode c_St_blurEntries 31 = .ok (.getfield 21, 3) := by decide +kernel
theorem d_St_blurEntries_34 : decode c_St_blurEntries 34 = .ok (.getfield 105, 3) := by decide +kernel
theorem d_St_blurEntries_37 : decode c_St_blurEntries 37 = .ok (.iload_n 1, 1) := by decide +kernel
theorem d_St_blurEntries_38 : decode c_St_blurEntries 38 = .ok (.isub, 1) := by decide +kernel
theorem d_St_blurEntries_39 : decode c_St_blurEntries 39 = .ok (.istore_n 2, 1) := by decide +kernel
theorem d_St_blurEntries_40 : decode c_St_blurEntries 40 = .ok (.iload_n 2, 1) := by decide +kernel
theorem d_St_blurEntries_41 : decode c_St_blurEntries 41 = .ok (.ifCond .lt 14, 3) := by decide +kernel
theorem d_St_blurEntries_44 : decode c_St_blurEntries 44 = .ok (.aload_n 0, 1) := by decide +kernel
theorem d_St_blurEntries_45 : decode c_St_blurEntries 45 = .ok (.getfield 12, 3) := by decide +kernel
theorem d_St_blurEntries_48 : decode c_St_blurEntries 48 = .ok (.invokevirtual 128, 3) := by decide +kernel
theorem d_St_blurEntries_51 : decode c_St_blurEntries 51 = .ok (.iload_n 2, 1) := by decide +kernel
theorem d_St_blurEntries_52 : decode c_St_blurEntries 52 = .ok (.if_icmp .le 6, 3) := by decide +kernel
theorem d_St_blurEntries_55 : decode c_St_blurEntries 55 = .ok (.bipush (-5), 2) := by decide +kernel
theorem d_St_blurEntries_57 : decode c_St_blurEntries 57 = .ok (.ireturn, 1) := by decide +kernel
theorem d_St_blurEntries_58 : decode c_St_blurEntries 58 = .ok (.aload_n 0, 1) := by decide +kernel
theorem d_St_blurEntries_59 : decode c_St_blurEntries 59 = .ok (.iload_n 1, 1) := by decide +kernel
theorem d_St_blurEntries_60 : decode c_St_blurEntries 60 = .ok (.invokevirtual 125, 3) := by decide +kernel
theorem d_St_blurEntries_63 : decode c_St_blurEntries 63 = .ok (.iload_n 2, 1) := by decide +kernel
theorem d_St_blurEntries_64 : decode c_St_blurEntries 64 = .ok (.ireturn, 1) := by decide +kernel
theorem d_St_mendSteps_0 : decode c_St_mendSteps 0 = .ok (.iload_n 1, 1) := by decide +kernel
theorem d_St_mendSteps_1 : decode c_St_mendSteps 1 = .ok (.iconst 1, 1) := by decide +kernel
theorem d_St_mendSteps_2 : decode c_St_mendSteps 2 = .ok (.if_icmp .lt 10, 3) := by decide +kernel
theorem d_St_mendSteps_5 : decode c_St_mendSteps 5 = .ok (.iload_n 1, 1) := by decide +kernel
theorem d_St_mendSteps_6 : decode c_St_mendSteps 6 = .ok (.sipush 999, 3) := by decide +kernel
theorem d_St_mendSteps_9 : decode c_St_mendSteps 9 = .ok (.if_icmp .le 6, 3) := by decide +kernel
theorem d_St_mendSteps_12 : decode c_St_mendSteps 12 = .ok (.bipush (-2), 2) := by decide +kernel
theorem d_St_mendSteps_14 : decode c_St_mendSteps 14 = .ok (.ireturn, 1) := by decide +kernel
theorem d_St_mendSteps_15 : decode c_St_mendSteps 15 = .ok (.aload_n 0, 1) := by decide +kernel
theorem d_St_mendSteps_16 : decode c_St_mendSteps 16 = .ok (.getfield 32, 3) := by decide +kernel
theorem d_St_mendSteps_19 : decode c_St_mendSteps 19 = .ok (.ifCond .ne 6, 3) := by decide +kernel
theorem d_St_mendSteps_22 : decode c_St_mendSteps 22 = .ok (.bipush (-5), 2) := by decide +kernel
theorem d_St_mendSteps_24 : decode c_St_mendSteps 24 = .ok (.ireturn, 1) := by decide +kernel
theorem d_St_mendSteps_25 : decode c_St_mendSteps 25 = .ok (.aload_n 0, 1) := by decide +kernel
theorem d_St_mendSteps_26 : decode c_St_mendSteps 26 = .ok (.iconst 1, 1) := by decide +kernel
theorem d_St_mendSteps_27 : decode c_St_mendSteps 27 = .ok (.putfield 36, 3) := by decide +kernel
theorem d_St_mendSteps_30 : decode c_St_mendSteps 30 = .ok (.iconst 0, 1) := by decide +kernel
theorem d_St_mendSteps_31 : decode c_St_mendSteps 31 = .ok (.istore_n 2, 1) := by decide +kernel
theorem d_St_mendSteps_32 : decode c_St_mendSteps 32 = .ok (.iload_n 2, 1) := by decide +kernel
theorem d_St_mendSteps_33 : decode c_St_mendSteps 33 = .ok (.iload_n 1, 1) := by decide +kernel
theorem d_St_mendSteps_34 : decode c_St_mendSteps 34 = .ok (.if_icmp .ge 55, 3) := by decide +kernel
theorem d_St_mendSteps_37 : decode c_St_mendSteps 37 = .ok (.aload_n 0, 1) := by decide +kernel
theorem d_St_mendSteps_38 : decode c_St_mendSteps 38 = .ok (.invokevirtual 132, 3) := by decide +kernel
theorem d_St_mendSteps_41 : decode c_St_mendSteps 41 = .ok (.ifCond .eq 48, 3) := by decide +kernel
theorem d_St_mendSteps_44 : decode c_St_mendSteps 44 = .ok (.aload_n 0, 1) := by decide +kernel
theorem d_St_mendSteps_45 : decode c_St_mendSteps 45 = .ok (.invokevirtual 135, 3) := by decide +kernel
theorem d_St_mendSteps_48 : decode c_St_mendSteps 48 = .ok (.ifCond .eq 24, 3) := by decide +kernel
theorem d_St_mendSteps_51 : decode c_St_mendSteps 51 = .ok (.aload_n 0, 1) := by decide +kernel
theorem d_St_mendSteps_52 : decode c_St_mendSteps 52 = .ok (.aload_n 0, 1) := by decide +kernel
theorem d_St_mendSteps_53 : decode c_St_mendSteps 53 = .ok (.getfield 39, 3) := by decide +kernel
theorem d_St_mendSteps_56 : decode c_St_mendSteps 56 = .ok (.invokevirtual 138, 3) := by decide +kernel
theorem d_St_mendSteps_59 : decode c_St_mendSteps 59 = .ok (.aload_n 0, 1) := by decide +kernel
theorem d_St_mendSteps_60 : decode c_St_mendSteps 60 = .ok (.dup, 1) := by decide +kernel
theorem d_St_mendSteps_61 : decode c_St_mendSteps 61 = .ok (.getfield 39, 3) := by decide +kernel
theorem d_St_mendSteps_64 : decode c_St_mendSteps 64 = .ok (.iconst 1, 1) := by decide +kernel
theorem d_St_mendSteps_65 : decode c_St_mendSteps 65 = .ok (.iadd, 1) := by decide +kernel
theorem d_St_mendSteps_66 : decode c_St_mendSteps 66 = .ok (.putfield 39, 3) := by decide +kernel
theorem d_St_mendSteps_69 : decode c_St_mendSteps 69 = .ok (.goto 14, 3) := by decide +kernel
theorem d_St_mendSteps_72 : decode c_St_mendSteps 72 = .ok (.aload_n 0, 1) := by decide +kernel
theorem d_St_mendSteps_73 : decode c_St_mendSteps 73 = .ok (.aload_n 0, 1) := by decide +kernel
theorem d_St_mendSteps_74 : decode c_St_mendSteps 74 = .ok (.getfield 28, 3) := by decide +kernel
theorem d_St_mendSteps_77 : decode c_St_mendSteps 77 = .ok (.invokevirtual 141, 3) := by decide +kernel
theorem d_St_mendSteps_80 : decode c_St_mendSteps 80 = .ok (.invokevirtual 106, 3) := by decide +kernel
theorem d_St_mendSteps_83 : decode c_St_mendSteps 83 = .ok (.iinc 2 1, 3) := by decide +kernel
theorem d_St_mendSteps_86 : decode c_St_mendSteps 86 = .ok (.goto (-54), 3) := by decide +kernel
theorem d_St_mendSteps_89 : decode c_St_mendSteps 89 = .ok (.aload_n 0, 1) := by decide +kernel
theorem d_St_mendSteps_90 : decode c_St_mendSteps 90 = .ok (.dup, 1) := by decide +kernel
theorem d_St_mendSteps_91 : decode c_St_mendSteps 91 = .ok (.getfield 46, 3) := by decide +kernel
theorem d_St_mendSteps_94 : decode c_St_mendSteps 94 = .ok (.iload_n 2, 1) := by decide +kernel
theorem d_St_mendSteps_95 : decode c_St_mendSteps 95 = .ok (.iadd, 1) := by decide +kernel
theorem d_St_mendSteps_96 : decode c_St_mendSteps 96 = .ok (.putfield 46, 3) := by decide +kernel
theorem d_St_mendSteps_99 : decode c_St_mendSteps 99 = .ok (.aload_n 0, 1) := by decide +kernel
theorem d_St_mendSteps_100 : decode c_St_mendSteps 100 = .ok (.invokevirtual 132, 3) := by decide +kernel
theorem d_St_mendSteps_103 : decode c_St_mendSteps 103 = .ok (.ifCond .ne 22, 3) := by decide +kernel
theorem d_St_mendSteps_106 : decode c_St_mendSteps 106 = .ok (.aload_n 0, 1) := by decide +kernel
theorem d_St_mendSteps_107 : decode c_St_mendSteps 107 = .ok (.iconst 0, 1) := by decide +kernel
theorem d_St_mendSteps_108 : decode c_St_mendSteps 108 = .ok (.putfield 32, 3) := by decide +kernel
theorem d_St_mendSteps_111 : decode c_St_mendSteps 111 = .ok (.aload_n 0, 1) := by decide +kernel
theorem d_St_mendSteps_112 : decode c_St_mendSteps 112 = .ok (.getfield 21, 3) := by decide +kernel
theorem d_St_mendSteps_115 : decode c_St_mendSteps 115 = .ok (.aload_n 0, 1) := by decide +kernel
theorem d_St_mendSteps_116 : decode c_St_mendSteps 116 = .ok (.getfield 21, 3) := by decide +kernel
theorem d_St_mendSteps_119 : decode c_St_mendSteps 119 = .ok (.getfield 105, 3) := by decide +kernel
theorem d_St_mendSteps_122 : decode c_St_mendSteps 122 = .ok (.invokevirtual 99, 3) := by decide +kernel
theorem d_St_mendSteps_125 : decode c_St_mendSteps 125 = .ok (.iload_n 2, 1) := by decide +kernel
theorem d_St_mendSteps_126 : decode c_St_mendSteps 126 = .ok (.ireturn, 1) := by decide +kernel
theorem d_St_tearAllOpen_0 : decode c_St_tearAllOpen 0 = .ok (.iconst 0, 1) := by decide +kernel
theorem d_St_tearAllOpen_1 : decode c_St_tearAllOpen 1 = .ok (.istore_n 1, 1) := by decide +kernel
theorem d_St_tearAllOpen_2 : decode c_St_tearAllOpen 2 = .ok (.iload_n 1, 1) := by decide +kernel
theorem d_St_tearAllOpen_3 : decode c_St_tearAllOpen 3 = .ok (.aload_n 0, 1) := by decide +kernel
theorem d_St_tearAllOpen_4 : decode c_St_tearAllOpen 4 = .ok (.getfield 28, 3) := by decide +kernel
theorem d_St_tearAllOpen_7 : decode c_St_tearAllOpen 7 = .ok (.getfield 67, 3) := by decide +kernel
theorem d_St_tearAllOpen_10 : decode c_St_tearAllOpen 10 = .ok (.if_icmp .ge 48, 3) := by decide +kernel
theorem d_St_tearAllOpen_13 : decode c_St_tearAllOpen 13 = .ok (.aload_n 0, 1) := by decide +kernel
theorem d_St_tearAllOpen_14 : decode c_St_tearAllOpen 14 = .ok (.getfield 28, 3) := by decide +kernel
theorem d_St_tearAllOpen_17 : decode c_St_tearAllOpen 17 = .ok (.iload_n 1, 1) := by decide +kernel
theorem d_St_tearAllOpen_18 : decode c_St_tearAllOpen 18 = .ok (.invokevirtual 85, 3) := by decide +kernel
theorem d_St_tearAllOpen_21 : decode c_St_tearAllOpen 21 = .ok (.ifCond .eq 11, 3) := by decide +kernel
theorem d_St_tearAllOpen_24 : decode c_St_tearAllOpen 24 = .ok (.aload_n 0, 1) := by decide +kernel
theorem d_St_tearAllOpen_25 : decode c_St_tearAllOpen 25 = .ok (.iload_n 1, 1) := by decide +kernel
theorem d_St_tearAllOpen_26 : decode c_St_tearAllOpen 26 = .ok (.invokevirtual 102, 3) := by decide +kernel
theorem d_St_tearAllOpen_29 : decode c_St_tearAllOpen 29 = .ok (.goto 4, 3) := by decide +kernel
theorem d_St_tearAllOpen_32 : decode c_St_tearAllOpen 32 = .ok (.iconst 0, 1) := by decide +kernel
theorem d_St_tearAllOpen_33 : decode c_St_tearAllOpen 33 = .ok (.istore_n 2, 1) := by decide +kernel
theorem d_St_tearAllOpen_34 : decode c_St_tearAllOpen 34 = .ok (.iconst 0, 1) := by decide +kernel
theorem d_St_tearAllOpen_35 : decode c_St_tearAllOpen 35 = .ok (.istore_n 3, 1) := by decide +kernel
theorem d_St_tearAllOpen_36 : decode c_St_tearAllOpen 36 = .ok (.iload_n 3, 1) := by decide +kernel
theorem d_St_tearAllOpen_37 : decode c_St_tearAllOpen 37 = .ok (.iload_n 2, 1) := by decide +kernel
theorem d_St_tearAllOpen_38 : decode c_St_tearAllOpen 38 = .ok (.if_icmp .ge 14, 3) := by decide +kernel
theorem d_St_tearAllOpen_41 : decode c_St_tearAllOpen 41 = .ok (.aload_n 0, 1) := by decide +kernel
theorem d_St_tearAllOpen_42 : decode c_St_tearAllOpen 42 = .ok (.iload_n 1, 1) := by decide +kernel
theorem d_St_tearAllOpen_43 : decode c_St_tearAllOpen 43 = .ok (.invokevirtual 106, 3) := by decide +kernel
theorem d_St_tearAllOpen_46 : decode c_St_tearAllOpen 46 = .ok (.iinc 3 1, 3) := by decide +kernel
theorem d_St_tearAllOpen_49 : decode c_St_tearAllOpen 49 = .ok (.goto (-13), 3) := by decide +kernel
theorem d_St_tearAllOpen_52 : decode c_St_tearAllOpen 52 = .ok (.iinc 1 1, 3) := by decide +kernel
theorem d_St_tearAllOpen_55 : decode c_St_tearAllOpen 55 = .ok (.goto (-53), 3) := by decide +kernel
theorem d_St_tearAllOpen_58 : decode c_St_tearAllOpen 58 = .ok (.return_, 1) := by decide +kernel
theorem d_St_lowestNeeded_0 : decode c_St_lowestNeeded 0 = .ok (.iconst 1, 1) := by decide +kernel
theorem d_St_lowestNeeded_1 : decode c_St_lowestNeeded 1 = .ok (.istore_n 1, 1) := by decide +kernel
theorem d_St_lowestNeeded_2 : decode c_St_lowestNeeded 2 = .ok (.iload_n 1, 1) := by decide +kernel
theorem d_St_lowestNeeded_3 : decode c_St_lowestNeeded 3 = .ok (.aload_n 0, 1) := by decide +kernel
theorem d_St_lowestNeeded_4 : decode c_St_lowestNeeded 4 = .ok (.getfield 21, 3) := by decide +kernel
theorem d_St_lowestNeeded_7 : decode c_St_lowestNeeded 7 = .ok (.getfield 110, 3) := by decide +kernel
theorem d_St_lowestNeeded_10 : decode c_St_lowestNeeded 10 = .ok (.if_icmp .gt 19, 3) := by decide +kernel
theorem d_St_lowestNeeded_13 : decode c_St_lowestNeeded 13 = .ok (.aload_n 0, 1) := by decide +kernel
theorem d_St_lowestNeeded_14 : decode c_St_lowestNeeded 14 = .ok (.iload_n 1, 1) := by decide +kernel
theorem d_St_lowestNeeded_15 : decode c_St_lowestNeeded 15 = .ok (.invokevirtual 144, 3) := by decide +kernel
theorem d_St_lowestNeeded_18 : decode c_St_lowestNeeded 18 = .ok (.ifCond .eq 5, 3) := by decide +kernel
theorem d_St_lowestNeeded_21 : decode c_St_lowestNeeded 21 = .ok (.iload_n 1, 1) := by decide +kernel
theorem d_St_lowestNeeded_22 : decode c_St_lowestNeeded 22 = .ok (.ireturn, 1) := by decide +kernel
theorem d_St_lowestNeeded_23 : decode c_St_lowestNeeded 23 = .ok (.iinc 1 1, 3) := by decide +kernel
theorem d_St_lowestNeeded_26 : decode c_St_lowestNeeded 26 = .ok (.goto (-24), 3) := by decide +kernel
theorem d_St_lowestNeeded_29 : decode c_St_lowestNeeded 29 = .ok (.bipush (-6), 2) := by decide +kernel
theorem d_St_lowestNeeded_31 : decode c_St_lowestNeeded 31 = .ok (.ireturn, 1) := by decide +kernel
theorem d_St_aboutPage_0 : decode c_St_aboutPage 0 = .ok (.iload_n 1, 1) := by decide +kernel
theorem d_St_aboutPage_1 : decode c_St_aboutPage 1 = .ok (.invokestatic 78, 3) := by decide +kernel
theorem d_St_aboutPage_4 : decode c_St_aboutPage 4 = .ok (.ifCond .ne 5, 3) := by decide +kernel
theorem d_St_aboutPage_7 : decode c_St_aboutPage 7 = .ok (.iconst (-1), 1) := by decide +kernel
theorem d_St_aboutPage_8 : decode c_St_aboutPage 8 = .ok (.ireturn, 1) := by decide +kernel
theorem d_St_aboutPage_9 : decode c_St_aboutPage 9 = .ok (.iload_n 2, 1) := by decide +kernel
theorem d_St_aboutPage_10 : decode c_St_aboutPage 10 = .ok (.tableswitch 123 0 6 #[42, 51, 60, 72, 81, 90, 102], 42) := by decide +kernel
theorem d_St_aboutPage_52 : decode c_St_aboutPage 52 = .ok (.aload_n 0, 1) := by decide +kernel
theorem d_St_aboutPage_53 : decode c_St_aboutPage 53 = .ok (.getfield 12, 3) := by decide +kernel
theorem d_St_aboutPage_56 : decode c_St_aboutPage 56 = .ok (.iload_n 1, 1) := by decide +kernel
theorem d_St_aboutPage_57 : decode c_St_aboutPage 57 = .ok (.invokevirtual 147, 3) := by decide +kernel
theorem d_St_aboutPage_60 : decode c_St_aboutPage 60 = .ok (.ireturn, 1) := by decide +kernel
theorem d_St_aboutPage_61 : decode c_St_aboutPage 61 = .ok (.aload_n 0, 1) := by decide +kernel
theorem d_St_aboutPage_62 : decode c_St_aboutPage 62 = .ok (.getfield 12, 3) := by decide +kernel
theorem d_St_aboutPage_65 : decode c_St_aboutPage 65 = .ok (.iload_n 1, 1) := by decide +kernel
theorem d_St_aboutPage_66 : decode c_St_aboutPage 66 = .ok (.invokevirtual 150, 3) := by decide +kernel
theorem d_St_aboutPage_69 : decode c_St_aboutPage 69 = .ok (.ireturn, 1) := by decide +kernel
theorem d_St_aboutPage_70 : decode c_St_aboutPage 70 = .ok (.aload_n 0, 1) := by decide +kernel
theorem d_St_aboutPage_71 : decode c_St_aboutPage 71 = .ok (.getfield 12, 3) := by decide +kernel
theorem d_St_aboutPage_74 : decode c_St_aboutPage 74 = .ok (.iload_n 1, 1) := by decide +kernel
theorem d_St_aboutPage_75 : decode c_St_aboutPage 75 = .ok (.invokevirtual 113, 3) := by decide +kernel
theorem d_St_aboutPage_78 : decode c_St_aboutPage 78 = .ok (.invokestatic 153, 3) := by decide +kernel
theorem d_St_aboutPage_81 : decode c_St_aboutPage 81 = .ok (.ireturn, 1) := by decide +kernel
theorem d_St_aboutPage_82 : decode c_St_aboutPage 82 = .ok (.aload_n 0, 1) := by decide +kernel
theorem d_St_aboutPage_83 : decode c_St_aboutPage 83 = .ok (.getfield 12, 3) := by decide +kernel
theorem d_St_aboutPage_86 : decode c_St_aboutPage 86 = .ok (.iload_n 1, 1) := by decide +kernel
theorem d_St_aboutPage_87 : decode c_St_aboutPage 87 = .ok (.invokevirtual 92, 3) := by decide +kernel
theorem d_St_aboutPage_90 : decode c_St_aboutPage 90 = .ok (.ireturn, 1) := by decide +kernel
theorem d_St_aboutPage_91 : decode c_St_aboutPage 91 = .ok (.aload_n 0, 1) := by decide +kernel
theorem d_St_aboutPage_92 : decode c_St_aboutPage 92 = .ok (.getfield 12, 3) := by decide +kernel
theorem d_St_aboutPage_95 : decode c_St_aboutPage 95 = .ok (.iload_n 1, 1) := by decide +kernel
theorem d_St_aboutPage_96 : decode c_St_aboutPage 96 = .ok (.invokevirtual 116, 3) := by decide +kernel
theorem d_St_aboutPage_99 : decode c_St_aboutPage 99 = .ok (.ireturn, 1) := by decide +kernel
theorem d_St_aboutPage_100 : decode c_St_aboutPage 100 = .ok (.aload_n 0, 1) := by decide +kernel
theorem d_St_aboutPage_101 : decode c_St_aboutPage 101 = .ok (.getfield 12, 3) := by decide +kernel
theorem d_St_aboutPage_104 : decode c_St_aboutPage 104 = .ok (.iload_n 1, 1) := by decide +kernel
theorem d_St_aboutPage_105 : decode c_St_aboutPage 105 = .ok (.invokevirtual 157, 3) := by decide +kernel
theorem d_St_aboutPage_108 : decode c_St_aboutPage 108 = .ok (.invokestatic 153, 3) := by decide +kernel
theorem d_St_aboutPage_111 : decode c_St_aboutPage 111 = .ok (.ireturn, 1) := by decide +kernel
theorem d_St_aboutPage_112 : decode c_St_aboutPage 112 = .ok (.aload_n 0, 1) := by decide +kernel
theorem d_St_aboutPage_113 : decode c_St_aboutPage 113 = .ok (.getfield 32, 3) := by decide +kernel
theorem d_St_aboutPage_116 : decode c_St_aboutPage 116 = .ok (.ifCond .eq 8, 3) := by decide +kernel
theorem d_St_aboutPage_119 : decode c_St_aboutPage 119 = .ok (.bipush (-6), 2) := by decide +kernel
theorem d_St_aboutPage_121 : decode c_St_aboutPage 121 = .ok (.goto 11, 3) := by decide +kernel
theorem d_St_aboutPage_124 : decode c_St_aboutPage 124 = .ok (.aload_n 0, 1) := by decide +kernel
theorem d_St_aboutPage_125 : decode c_St_aboutPage 125 = .ok (.getfield 28, 3) := by decide +kernel
theorem d_St_aboutPage_128 : decode c_St_aboutPage 128 = .ok (.iload_n 1, 1) := by decide +kernel
theorem d_St_aboutPage_129 : decode c_St_aboutPage 129 = .ok (.invokevirtual 81, 3) := by decide +kernel
theorem d_St_aboutPage_132 : decode c_St_aboutPage 132 = .ok (.ireturn, 1) := by decide +kernel
theorem d_St_aboutPage_133 : decode c_St_aboutPage 133 = .ok (.bipush (-2), 2) := by decide +kernel
theorem d_St_aboutPage_135 : decode c_St_aboutPage 135 = .ok (.ireturn, 1) := by decide +kernel
theorem d_St_number_0 : decode c_St_number 0 = .ok (.iload_n 1, 1) := by decide +kernel
theorem d_St_number_1 : decode c_St_number 1 = .ok (.tableswitch 114 0 8 #[51, 59, 67, 75, 83, 88, 93, 98, 106], 51) := by decide +kernel
theorem d_St_number_52 : decode c_St_number 52 = .ok (.aload_n 0, 1) := by decide +kernel
theorem d_St_number_53 : decode c_St_number 53 = .ok (.getfield 28, 3) := by decide +kernel
theorem d_St_number_56 : decode c_St_number 56 = .ok (.getfield 67, 3) := by decide +kernel
theorem d_St_number_59 : decode c_St_number 59 = .ok (.ireturn, 1) := by decide +kernel
theorem d_St_number_60 : decode c_St_number 60 = .ok (.aload_n 0, 1) := by decide +kernel
theorem d_St_number_61 : decode c_St_number 61 = .ok (.getfield 21, 3) := by decide +kernel
theorem d_St_number_64 : decode c_St_number 64 = .ok (.getfield 105, 3) := by decide +kernel
theorem d_St_number_67 : decode c_St_number 67 = .ok (.ireturn, 1) := by decide +kernel
theorem d_St_number_68 : decode c_St_number 68 = .ok (.aload_n 0, 1) := by decide +kernel
theorem d_St_number_69 : decode c_St_number 69 = .ok (.getfield 21, 3) := by decide +kernel
theorem d_St_number_72 : decode c_St_number 72 = .ok (.getfield 110, 3) := by decide +kernel
theorem d_St_number_75 : decode c_St_number 75 = .ok (.ireturn, 1) := by decide +kernel
theorem d_St_number_76 : decode c_St_number 76 = .ok (.aload_n 0, 1) := by decide +kernel
theorem d_St_number_77 : decode c_St_number 77 = .ok (.getfield 32, 3) := by decide +kernel
theorem d_St_number_80 : decode c_St_number 80 = .ok (.invokestatic 153, 3) := by decide +kernel
theorem d_St_number_83 : decode c_St_number 83 = .ok (.ireturn, 1) := by decide +kernel
theorem d_St_number_84 : decode c_St_number 84 = .ok (.aload_n 0, 1) := by decide +kernel
theorem d_St_number_85 : decode c_St_number 85 = .ok (.getfield 43, 3) := by decide +kernel
theorem d_St_number_88 : decode c_St_number 88 = .ok (.ireturn, 1) := by decide +kernel
theorem d_St_number_89 : decode c_St_number 89 = .ok (.aload_n 0, 1) := by decide +kernel
theorem d_St_number_90 : decode c_St_number 90 = .ok (.getfield 46, 3) := by decide +kernel
theorem d_St_number_93 : decode c_St_number 93 = .ok (.ireturn, 1) := by decide +kernel
theorem d_St_number_94 : decode c_St_number 94 = .ok (.aload_n 0, 1) := by decide +kernel
theorem d_St_number_95 : decode c_St_number 95 = .ok (.getfield 49, 3) := by decide +kernel
theorem d_St_number_98 : decode c_St_number 98 = .ok (.ireturn, 1) := by decide +kernel
theorem d_St_number_99 : decode c_St_number 99 = .ok (.aload_n 0, 1) := by decide +kernel
theorem d_St_number_100 : decode c_St_number 100 = .ok (.getfield 12, 3) := by decide +kernel
theorem d_St_number_103 : decode c_St_number 103 = .ok (.invokevirtual 160, 3) := by decide +kernel
theorem d_St_number_106 : decode c_St_number 106 = .ok (.ireturn, 1) := by decide +kernel
theorem d_St_number_107 : decode c_St_number 107 = .ok (.aload_n 0, 1) := by decide +kernel
theorem d_St_number_108 : decode c_St_number 108 = .ok (.getfield 28, 3) := by decide +kernel
theorem d_St_number_111 : decode c_St_number 111 = .ok (.invokevirtual 163, 3) := by decide +kernel
theorem d_St_number_114 : decode c_St_number 114 = .ok (.ireturn, 1) := by decide +kernel
theorem d_St_number_115 : decode c_St_number 115 = .ok (.bipush (-2), 2) := by decide +kernel
theorem d_St_number_117 : decode c_St_number 117 = .ok (.ireturn, 1) := by decide +kernel

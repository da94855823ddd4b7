theorem d_Wk_has_0 : decode c_Wk_has 0 = .ok (.iload_n 1, 1) := by decide +kernel
theorem d_Wk_has_1 : decode c_Wk_has 1 = .ok (.ifCond .lt 21, 3) := by decide +kernel
theorem d_Wk_has_4 : decode c_Wk_has 4 = .ok (.iload_n 1, 1) := by decide +kernel
theorem d_Wk_has_5 : decode c_Wk_has 5 = .ok (.aload_n 0, 1) := by decide +kernel
theorem d_Wk_has_6 : decode c_Wk_has 6 = .ok (.getfield 27, 3) := by decide +kernel
theorem d_Wk_has_9 : decode c_Wk_has 9 = .ok (.if_icmp .ge 13, 3) := by decide +kernel
theorem d_Wk_has_12 : decode c_Wk_has 12 = .ok (.iload_n 1, 1) := by decide +kernel
theorem d_Wk_has_13 : decode c_Wk_has 13 = .ok (.bipush 16, 2) := by decide +kernel
theorem d_Wk_has_15 : decode c_Wk_has 15 = .ok (.if_icmp .ge 7, 3) := by decide +kernel
theorem d_Wk_has_18 : decode c_Wk_has 18 = .ok (.iconst 1, 1) := by decide +kernel
theorem d_Wk_has_19 : decode c_Wk_has 19 = .ok (.goto 4, 3) := by decide +kernel
theorem d_Wk_has_22 : decode c_Wk_has 22 = .ok (.iconst 0, 1) := by decide +kernel
theorem d_Wk_has_23 : decode c_Wk_has 23 = .ok (.ireturn, 1) := by decide +kernel
theorem d_Wk_isFull_0 : decode c_Wk_isFull 0 = .ok (.aload_n 0, 1) := by decide +kernel
theorem d_Wk_isFull_1 : decode c_Wk_isFull 1 = .ok (.getfield 27, 3) := by decide +kernel
theorem d_Wk_isFull_4 : decode c_Wk_isFull 4 = .ok (.bipush 16, 2) := by decide +kernel
theorem d_Wk_isFull_6 : decode c_Wk_isFull 6 = .ok (.if_icmp .lt 7, 3) := by decide +kernel
theorem d_Wk_isFull_9 : decode c_Wk_isFull 9 = .ok (.iconst 1, 1) := by decide +kernel
theorem d_Wk_isFull_10 : decode c_Wk_isFull 10 = .ok (.goto 4, 3) := by decide +kernel
theorem d_Wk_isFull_13 : decode c_Wk_isFull 13 = .ok (.iconst 0, 1) := by decide +kernel
theorem d_Wk_isFull_14 : decode c_Wk_isFull 14 = .ok (.ireturn, 1) := by decide +kernel
theorem d_Wk_isOpen_0 : decode c_Wk_isOpen 0 = .ok (.aload_n 0, 1) := by decide +kernel
theorem d_Wk_isOpen_1 : decode c_Wk_isOpen 1 = .ok (.iload_n 1, 1) := by decide +kernel
theorem d_Wk_isOpen_2 : decode c_Wk_isOpen 2 = .ok (.invokevirtual 37, 3) := by decide +kernel
theorem d_Wk_isOpen_5 : decode c_Wk_isOpen 5 = .ok (.ifCond .eq 16, 3) := by decide +kernel
theorem d_Wk_isOpen_8 : decode c_Wk_isOpen 8 = .ok (.aload_n 0, 1) := by decide +kernel
theorem d_Wk_isOpen_9 : decode c_Wk_isOpen 9 = .ok (.getfield 9, 3) := by decide +kernel
theorem d_Wk_isOpen_12 : decode c_Wk_isOpen 12 = .ok (.iload_n 1, 1) := by decide +kernel
theorem d_Wk_isOpen_13 : decode c_Wk_isOpen 13 = .ok (.iaload, 1) := by decide +kernel
theorem d_Wk_isOpen_14 : decode c_Wk_isOpen 14 = .ok (.ifCond .ne 7, 3) := by decide +kernel
theorem d_Wk_isOpen_17 : decode c_Wk_isOpen 17 = .ok (.iconst 1, 1) := by decide +kernel
theorem d_Wk_isOpen_18 : decode c_Wk_isOpen 18 = .ok (.goto 4, 3) := by decide +kernel
theorem d_Wk_isOpen_21 : decode c_Wk_isOpen 21 = .ok (.iconst 0, 1) := by decide +kernel
theorem d_Wk_isOpen_22 : decode c_Wk_isOpen 22 = .ok (.ireturn, 1) := by decide +kernel
theorem d_Wk_lastOf_0 : decode c_Wk_lastOf 0 = .ok (.aload_n 0, 1) := by decide +kernel
theorem d_Wk_lastOf_1 : decode c_Wk_lastOf 1 = .ok (.iload_n 1, 1) := by decide +kernel
theorem d_Wk_lastOf_2 : decode c_Wk_lastOf 2 = .ok (.invokevirtual 37, 3) := by decide +kernel
theorem d_Wk_lastOf_5 : decode c_Wk_lastOf 5 = .ok (.ifCond .eq 12, 3) := by decide +kernel
theorem d_Wk_lastOf_8 : decode c_Wk_lastOf 8 = .ok (.aload_n 0, 1) := by decide +kernel
theorem d_Wk_lastOf_9 : decode c_Wk_lastOf 9 = .ok (.getfield 15, 3) := by decide +kernel
theorem d_Wk_lastOf_12 : decode c_Wk_lastOf 12 = .ok (.iload_n 1, 1) := by decide +kernel
theorem d_Wk_lastOf_13 : decode c_Wk_lastOf 13 = .ok (.iaload, 1) := by decide +kernel
theorem d_Wk_lastOf_14 : decode c_Wk_lastOf 14 = .ok (.goto 4, 3) := by decide +kernel
theorem d_Wk_lastOf_17 : decode c_Wk_lastOf 17 = .ok (.iconst 0, 1) := by decide +kernel
theorem d_Wk_lastOf_18 : decode c_Wk_lastOf 18 = .ok (.ireturn, 1) := by decide +kernel
theorem d_Wk_goOnOf_0 : decode c_Wk_goOnOf 0 = .ok (.aload_n 0, 1) := by decide +kernel
theorem d_Wk_goOnOf_1 : decode c_Wk_goOnOf 1 = .ok (.iload_n 1, 1) := by decide +kernel
theorem d_Wk_goOnOf_2 : decode c_Wk_goOnOf 2 = .ok (.invokevirtual 37, 3) := by decide +kernel
theorem d_Wk_goOnOf_5 : decode c_Wk_goOnOf 5 = .ok (.ifCond .eq 12, 3) := by decide +kernel
theorem d_Wk_goOnOf_8 : decode c_Wk_goOnOf 8 = .ok (.aload_n 0, 1) := by decide +kernel
theorem d_Wk_goOnOf_9 : decode c_Wk_goOnOf 9 = .ok (.getfield 24, 3) := by decide +kernel
theorem d_Wk_goOnOf_12 : decode c_Wk_goOnOf 12 = .ok (.iload_n 1, 1) := by decide +kernel
theorem d_Wk_goOnOf_13 : decode c_Wk_goOnOf 13 = .ok (.iaload, 1) := by decide +kernel
theorem d_Wk_goOnOf_14 : decode c_Wk_goOnOf 14 = .ok (.goto 4, 3) := by decide +kernel
theorem d_Wk_goOnOf_17 : decode c_Wk_goOnOf 17 = .ok (.iconst 0, 1) := by decide +kernel
theorem d_Wk_goOnOf_18 : decode c_Wk_goOnOf 18 = .ok (.ireturn, 1) := by decide +kernel
theorem d_Wk_holds_0 : decode c_Wk_holds 0 = .ok (.aload_n 0, 1) := by decide +kernel
theorem d_Wk_holds_1 : decode c_Wk_holds 1 = .ok (.iload_n 1, 1) := by decide +kernel
theorem d_Wk_holds_2 : decode c_Wk_holds 2 = .ok (.invokevirtual 41, 3) := by decide +kernel
theorem d_Wk_holds_5 : decode c_Wk_holds 5 = .ok (.ifCond .eq 28, 3) := by decide +kernel
theorem d_Wk_holds_8 : decode c_Wk_holds 8 = .ok (.iload_n 2, 1) := by decide +kernel
theorem d_Wk_holds_9 : decode c_Wk_holds 9 = .ok (.invokestatic 44, 3) := by decide +kernel
theorem d_Wk_holds_12 : decode c_Wk_holds 12 = .ok (.ifCond .eq 21, 3) := by decide +kernel
theorem d_Wk_holds_15 : decode c_Wk_holds 15 = .ok (.aload_n 0, 1) := by decide +kernel
theorem d_Wk_holds_16 : decode c_Wk_holds 16 = .ok (.getfield 21, 3) := by decide +kernel
theorem d_Wk_holds_19 : decode c_Wk_holds 19 = .ok (.iload_n 1, 1) := by decide +kernel
theorem d_Wk_holds_20 : decode c_Wk_holds 20 = .ok (.iaload, 1) := by decide +kernel
theorem d_Wk_holds_21 : decode c_Wk_holds 21 = .ok (.iload_n 2, 1) := by decide +kernel
theorem d_Wk_holds_22 : decode c_Wk_holds 22 = .ok (.ishr, 1) := by decide +kernel
theorem d_Wk_holds_23 : decode c_Wk_holds 23 = .ok (.iconst 1, 1) := by decide +kernel
theorem d_Wk_holds_24 : decode c_Wk_holds 24 = .ok (.iand, 1) := by decide +kernel
theorem d_Wk_holds_25 : decode c_Wk_holds 25 = .ok (.iconst 1, 1) := by decide +kernel
theorem d_Wk_holds_26 : decode c_Wk_holds 26 = .ok (.if_icmp .ne 7, 3) := by decide +kernel
theorem d_Wk_holds_29 : decode c_Wk_holds 29 = .ok (.iconst 1, 1) := by decide +kernel
theorem d_Wk_holds_30 : decode c_Wk_holds 30 = .ok (.goto 4, 3) := by decide +kernel
theorem d_Wk_holds_33 : decode c_Wk_holds 33 = .ok (.iconst 0, 1) := by decide +kernel
theorem d_Wk_holds_34 : decode c_Wk_holds 34 = .ok (.ireturn, 1) := by decide +kernel
theorem d_Wk_holderOf_0 : decode c_Wk_holderOf 0 = .ok (.iconst 0, 1) := by decide +kernel
theorem d_Wk_holderOf_1 : decode c_Wk_holderOf 1 = .ok (.istore_n 2, 1) := by decide +kernel
theorem d_Wk_holderOf_2 : decode c_Wk_holderOf 2 = .ok (.iload_n 2, 1) := by decide +kernel
theorem d_Wk_holderOf_3 : decode c_Wk_holderOf 3 = .ok (.aload_n 0, 1) := by decide +kernel
theorem d_Wk_holderOf_4 : decode c_Wk_holderOf 4 = .ok (.getfield 27, 3) := by decide +kernel
theorem d_Wk_holderOf_7 : decode c_Wk_holderOf 7 = .ok (.if_icmp .ge 20, 3) := by decide +kernel
theorem d_Wk_holderOf_10 : decode c_Wk_holderOf 10 = .ok (.aload_n 0, 1) := by decide +kernel
theorem d_Wk_holderOf_11 : decode c_Wk_holderOf 11 = .ok (.iload_n 2, 1) := by decide +kernel
theorem d_Wk_holderOf_12 : decode c_Wk_holderOf 12 = .ok (.iload_n 1, 1) := by decide +kernel
theorem d_Wk_holderOf_13 : decode c_Wk_holderOf 13 = .ok (.invokevirtual 47, 3) := by decide +kernel
theorem d_Wk_holderOf_16 : decode c_Wk_holderOf 16 = .ok (.ifCond .eq 5, 3) := by decide +kernel
theorem d_Wk_holderOf_19 : decode c_Wk_holderOf 19 = .ok (.iload_n 2, 1) := by decide +kernel
theorem d_Wk_holderOf_20 : decode c_Wk_holderOf 20 = .ok (.ireturn, 1) := by decide +kernel
theorem d_Wk_holderOf_21 : decode c_Wk_holderOf 21 = .ok (.iinc 2 1, 3) := by decide +kernel
theorem d_Wk_holderOf_24 : decode c_Wk_holderOf 24 = .ok (.goto (-22), 3) := by decide +kernel
theorem d_Wk_holderOf_27 : decode c_Wk_holderOf 27 = .ok (.bipush (-6), 2) := by decide +kernel
theorem d_Wk_holderOf_29 : decode c_Wk_holderOf 29 = .ok (.ireturn, 1) := by decide +kernel
theorem d_Wk_openSet_0 : decode c_Wk_openSet 0 = .ok (.iconst 0, 1) := by decide +kernel
theorem d_Wk_openSet_1 : decode c_Wk_openSet 1 = .ok (.istore_n 1, 1) := by decide +kernel
theorem d_Wk_openSet_2 : decode c_Wk_openSet 2 = .ok (.iconst 0, 1) := by decide +kernel
theorem d_Wk_openSet_3 : decode c_Wk_openSet 3 = .ok (.istore_n 2, 1) := by decide +kernel
theorem d_Wk_openSet_4 : decode c_Wk_openSet 4 = .ok (.iload_n 2, 1) := by decide +kernel
theorem d_Wk_openSet_5 : decode c_Wk_openSet 5 = .ok (.aload_n 0, 1) := by decide +kernel
theorem d_Wk_openSet_6 : decode c_Wk_openSet 6 = .ok (.getfield 27, 3) := by decide +kernel
theorem d_Wk_openSet_9 : decode c_Wk_openSet 9 = .ok (.if_icmp .ge 23, 3) := by decide +kernel
theorem d_Wk_openSet_12 : decode c_Wk_openSet 12 = .ok (.aload_n 0, 1) := by decide +kernel
theorem d_Wk_openSet_13 : decode c_Wk_openSet 13 = .ok (.iload_n 2, 1) := by decide +kernel
theorem d_Wk_openSet_14 : decode c_Wk_openSet 14 = .ok (.invokevirtual 41, 3) := by decide +kernel
theorem d_Wk_openSet_17 : decode c_Wk_openSet 17 = .ok (.ifCond .eq 9, 3) := by decide +kernel
theorem d_Wk_openSet_20 : decode c_Wk_openSet 20 = .ok (.iload_n 1, 1) := by decide +kernel
theorem d_Wk_openSet_21 : decode c_Wk_openSet 21 = .ok (.iconst 1, 1) := by decide +kernel
theorem d_Wk_openSet_22 : decode c_Wk_openSet 22 = .ok (.iload_n 2, 1) := by decide +kernel
theorem d_Wk_openSet_23 : decode c_Wk_openSet 23 = .ok (.ishl, 1) := by decide +kernel
theorem d_Wk_openSet_24 : decode c_Wk_openSet 24 = .ok (.ior, 1) := by decide +kernel
theorem d_Wk_openSet_25 : decode c_Wk_openSet 25 = .ok (.istore_n 1, 1) := by decide +kernel
theorem d_Wk_openSet_26 : decode c_Wk_openSet 26 = .ok (.iinc 2 1, 3) := by decide +kernel
theorem d_Wk_openSet_29 : decode c_Wk_openSet 29 = .ok (.goto (-25), 3) := by decide +kernel
theorem d_Wk_openSet_32 : decode c_Wk_openSet 32 = .ok (.iload_n 1, 1) := by decide +kernel
theorem d_Wk_openSet_33 : decode c_Wk_openSet 33 = .ok (.ireturn, 1) := by decide +kernel
theorem d_Wk_nextToTakeBack_0 : decode c_Wk_nextToTakeBack 0 = .ok (.bipush (-6), 2) := by decide +kernel
theorem d_Wk_nextToTakeBack_2 : decode c_Wk_nextToTakeBack 2 = .ok (.istore_n 1, 1) := by decide +kernel
theorem d_Wk_nextToTakeBack_3 : decode c_Wk_nextToTakeBack 3 = .ok (.iconst 0, 1) := by decide +kernel
theorem d_Wk_nextToTakeBack_4 : decode c_Wk_nextToTakeBack 4 = .ok (.istore_n 2, 1) := by decide +kernel
theorem d_Wk_nextToTakeBack_5 : decode c_Wk_nextToTakeBack 5 = .ok (.iload_n 2, 1) := by decide +kernel
theorem d_Wk_nextToTakeBack_6 : decode c_Wk_nextToTakeBack 6 = .ok (.aload_n 0, 1) := by decide +kernel
theorem d_Wk_nextToTakeBack_7 : decode c_Wk_nextToTakeBack 7 = .ok (.getfield 27, 3) := by decide +kernel
theorem d_Wk_nextToTakeBack_10 : decode c_Wk_nextToTakeBack 10 = .ok (.if_icmp .ge 32, 3) := by decide +kernel
theorem d_Wk_nextToTakeBack_13 : decode c_Wk_nextToTakeBack 13 = .ok (.aload_n 0, 1) := by decide +kernel
theorem d_Wk_nextToTakeBack_14 : decode c_Wk_nextToTakeBack 14 = .ok (.iload_n 2, 1) := by decide +kernel
theorem d_Wk_nextToTakeBack_15 : decode c_Wk_nextToTakeBack 15 = .ok (.invokevirtual 41, 3) := by decide +kernel
theorem d_Wk_nextToTakeBack_18 : decode c_Wk_nextToTakeBack 18 = .ok (.ifCond .eq 18, 3) := by decide +kernel
theorem d_Wk_nextToTakeBack_21 : decode c_Wk_nextToTakeBack 21 = .ok (.aload_n 0, 1) := by decide +kernel
theorem d_Wk_nextToTakeBack_22 : decode c_Wk_nextToTakeBack 22 = .ok (.iload_n 2, 1) := by decide +kernel
theorem d_Wk_nextToTakeBack_23 : decode c_Wk_nextToTakeBack 23 = .ok (.invokevirtual 51, 3) := by decide +kernel
theorem d_Wk_nextToTakeBack_26 : decode c_Wk_nextToTakeBack 26 = .ok (.aload_n 0, 1) := by decide +kernel
theorem d_Wk_nextToTakeBack_27 : decode c_Wk_nextToTakeBack 27 = .ok (.iload_n 1, 1) := by decide +kernel
theorem d_Wk_nextToTakeBack_28 : decode c_Wk_nextToTakeBack 28 = .ok (.invokevirtual 51, 3) := by decide +kernel
theorem d_Wk_nextToTakeBack_31 : decode c_Wk_nextToTakeBack 31 = .ok (.if_icmp .le 5, 3) := by decide +kernel
theorem d_Wk_nextToTakeBack_34 : decode c_Wk_nextToTakeBack 34 = .ok (.iload_n 2, 1) := by decide +kernel
theorem d_Wk_nextToTakeBack_35 : decode c_Wk_nextToTakeBack 35 = .ok (.istore_n 1, 1) := by decide +kernel
theorem d_Wk_nextToTakeBack_36 : decode c_Wk_nextToTakeBack 36 = .ok (.iinc 2 1, 3) := by decide +kernel
theorem d_Wk_nextToTakeBack_39 : decode c_Wk_nextToTakeBack 39 = .ok (.goto (-34), 3) := by decide +kernel
theorem d_Wk_nextToTakeBack_42 : decode c_Wk_nextToTakeBack 42 = .ok (.iload_n 1, 1) := by decide +kernel
theorem d_Wk_nextToTakeBack_43 : decode c_Wk_nextToTakeBack 43 = .ok (.ireturn, 1) := by decide +kernel
theorem d_Wk_take_0 : decode c_Wk_take 0 = .ok (.iload_n 2, 1) := by decide +kernel
theorem d_Wk_take_1 : decode c_Wk_take 1 = .ok (.ifCond .ne 34, 3) := by decide +kernel
theorem d_Wk_take_4 : decode c_Wk_take 4 = .ok (.iload_n 3, 1) := by decide +kernel
theorem d_Wk_take_5 : decode c_Wk_take 5 = .ok (.ifCond .lt 30, 3) := by decide +kernel
theorem d_Wk_take_8 : decode c_Wk_take 8 = .ok (.iload_n 3, 1) := by decide +kernel
theorem d_Wk_take_9 : decode c_Wk_take 9 = .ok (.bipush 16, 2) := by decide +kernel
theorem d_Wk_take_11 : decode c_Wk_take 11 = .ok (.if_icmp .ge 24, 3) := by decide +kernel
theorem d_Wk_take_14 : decode c_Wk_take 14 = .ok (.aload_n 0, 1) := by decide +kernel
theorem d_Wk_take_15 : decode c_Wk_take 15 = .ok (.iload_n 3, 1) := by decide +kernel
theorem d_Wk_take_16 : decode c_Wk_take 16 = .ok (.iconst 1, 1) := by decide +kernel
theorem d_Wk_take_17 : decode c_Wk_take 17 = .ok (.iadd, 1) := by decide +kernel
theorem d_Wk_take_18 : decode c_Wk_take 18 = .ok (.putfield 27, 3) := by decide +kernel
theorem d_Wk_take_21 : decode c_Wk_take 21 = .ok (.aload_n 0, 1) := by decide +kernel
theorem d_Wk_take_22 : decode c_Wk_take 22 = .ok (.getfield 18, 3) := by decide +kernel
theorem d_Wk_take_25 : decode c_Wk_take 25 = .ok (.iload_n 3, 1) := by decide +kernel
theorem d_Wk_take_26 : decode c_Wk_take 26 = .ok (.iconst 0, 1) := by decide +kernel
theorem d_Wk_take_27 : decode c_Wk_take 27 = .ok (.iastore, 1) := by decide +kernel
theorem d_Wk_take_28 : decode c_Wk_take 28 = .ok (.aload_n 0, 1) := by decide +kernel
theorem d_Wk_take_29 : decode c_Wk_take 29 = .ok (.getfield 21, 3) := by decide +kernel
theorem d_Wk_take_32 : decode c_Wk_take 32 = .ok (.iload_n 3, 1) := by decide +kernel
theorem d_Wk_take_33 : decode c_Wk_take 33 = .ok (.iconst 0, 1) := by decide +kernel
theorem d_Wk_take_34 : decode c_Wk_take 34 = .ok (.iastore, 1) := by decide +kernel
theorem d_Wk_take_35 : decode c_Wk_take 35 = .ok (.aload_n 0, 1) := by decide +kernel
theorem d_Wk_take_36 : decode c_Wk_take 36 = .ok (.iload_n 3, 1) := by decide +kernel
theorem d_Wk_take_37 : decode c_Wk_take 37 = .ok (.invokevirtual 37, 3) := by decide +kernel
theorem d_Wk_take_40 : decode c_Wk_take 40 = .ok (.ifCond .ne 4, 3) := by decide +kernel
theorem d_Wk_take_43 : decode c_Wk_take 43 = .ok (.return_, 1) := by decide +kernel
theorem d_Wk_take_44 : decode c_Wk_take 44 = .ok (.iload_n 2, 1) := by decide +kernel
theorem d_Wk_take_45 : decode c_Wk_take 45 = .ok (.iconst 3, 1) := by decide +kernel
theorem d_Wk_take_46 : decode c_Wk_take 46 = .ok (.if_icmp .eq 8, 3) := by decide +kernel
theorem d_Wk_take_49 : decode c_Wk_take 49 = .ok (.iload_n 2, 1) := by decide +kernel
theorem d_Wk_take_50 : decode c_Wk_take 50 = .ok (.iconst 4, 1) := by decide +kernel
theorem d_Wk_take_51 : decode c_Wk_take 51 = .ok (.if_icmp .ne 7, 3) := by decide +kernel
theorem d_Wk_take_54 : decode c_Wk_take 54 = .ok (.iconst 1, 1) := by decide +kernel
theorem d_Wk_take_55 : decode c_Wk_take 55 = .ok (.goto 4, 3) := by decide +kernel
theorem d_Wk_take_58 : decode c_Wk_take 58 = .ok (.iconst 0, 1) := by decide +kernel
theorem d_Wk_take_59 : decode c_Wk_take 59 = .ok (.istore 6, 2) := by decide +kernel
theorem d_Wk_take_61 : decode c_Wk_take 61 = .ok (.aload_n 0, 1) := by decide +kernel
theorem d_Wk_take_62 : decode c_Wk_take 62 = .ok (.getfield 9, 3) := by decide +kernel
theorem d_Wk_take_65 : decode c_Wk_take 65 = .ok (.iload_n 3, 1) := by decide +kernel
theorem d_Wk_take_66 : decode c_Wk_take 66 = .ok (.iload_n 2, 1) := by decide +kernel
theorem d_Wk_take_67 : decode c_Wk_take 67 = .ok (.iconst 3, 1) := by decide +kernel
theorem d_Wk_take_68 : decode c_Wk_take 68 = .ok (.if_icmp .ne 7, 3) := by decide +kernel
theorem d_Wk_take_71 : decode c_Wk_take 71 = .ok (.iconst 1, 1) := by decide +kernel
theorem d_Wk_take_72 : decode c_Wk_take 72 = .ok (.goto 13, 3) := by decide +kernel
theorem d_Wk_take_75 : decode c_Wk_take 75 = .ok (.iload_n 2, 1) := by decide +kernel
theorem d_Wk_take_76 : decode c_Wk_take 76 = .ok (.iconst 4, 1) := by decide +kernel
theorem d_Wk_take_77 : decode c_Wk_take 77 = .ok (.if_icmp .ne 7, 3) := by decide +kernel
theorem d_Wk_take_80 : decode c_Wk_take 80 = .ok (.iconst 2, 1) := by decide +kernel
theorem d_Wk_take_81 : decode c_Wk_take 81 = .ok (.goto 4, 3) := by decide +kernel
theorem d_Wk_take_84 : decode c_Wk_take 84 = .ok (.iconst 0, 1) := by decide +kernel
theorem d_Wk_take_85 : decode c_Wk_take 85 = .ok (.iastore, 1) := by decide +kernel
theorem d_Wk_take_86 : decode c_Wk_take 86 = .ok (.aload_n 0, 1) := by decide +kernel
theorem d_Wk_take_87 : decode c_Wk_take 87 = .ok (.getfield 15, 3) := by decide +kernel
theorem d_Wk_take_90 : decode c_Wk_take 90 = .ok (.iload_n 3, 1) := by decide +kernel
theorem d_Wk_take_91 : decode c_Wk_take 91 = .ok (.iload_n 1, 1) := by decide +kernel
theorem d_Wk_take_92 : decode c_Wk_take 92 = .ok (.iastore, 1) := by decide +kernel
theorem d_Wk_take_93 : decode c_Wk_take 93 = .ok (.aload_n 0, 1) := by decide +kernel
theorem d_Wk_take_94 : decode c_Wk_take 94 = .ok (.getfield 18, 3) := by decide +kernel
theorem d_Wk_take_97 : decode c_Wk_take 97 = .ok (.iload_n 3, 1) := by decide +kernel
theorem d_Wk_take_98 : decode c_Wk_take 98 = .ok (.dup2, 1) := by decide +kernel
theorem d_Wk_take_99 : decode c_Wk_take 99 = .ok (.iaload, 1) := by decide +kernel
theorem d_Wk_take_100 : decode c_Wk_take 100 = .ok (.iconst 1, 1) := by decide +kernel
theorem d_Wk_take_101 : decode c_Wk_take 101 = .ok (.iadd, 1) := by decide +kernel
theorem d_Wk_take_102 : decode c_Wk_take 102 = .ok (.iastore, 1) := by decide +kernel
theorem d_Wk_take_103 : decode c_Wk_take 103 = .ok (.aload_n 0, 1) := by decide +kernel
theorem d_Wk_take_104 : decode c_Wk_take 104 = .ok (.getfield 24, 3) := by decide +kernel
theorem d_Wk_take_107 : decode c_Wk_take 107 = .ok (.iload_n 3, 1) := by decide +kernel
theorem d_Wk_take_108 : decode c_Wk_take 108 = .ok (.iload 6, 2) := by decide +kernel
theorem d_Wk_take_110 : decode c_Wk_take 110 = .ok (.ifCond .eq 7, 3) := by decide +kernel
theorem d_Wk_take_113 : decode c_Wk_take 113 = .ok (.iconst 0, 1) := by decide +kernel
theorem d_Wk_take_114 : decode c_Wk_take 114 = .ok (.goto 14, 3) := by decide +kernel
theorem d_Wk_take_117 : decode c_Wk_take 117 = .ok (.iload_n 2, 1) := by decide +kernel
theorem d_Wk_take_118 : decode c_Wk_take 118 = .ok (.iconst 2, 1) := by decide +kernel
theorem d_Wk_take_119 : decode c_Wk_take 119 = .ok (.if_icmp .ne 8, 3) := by decide +kernel
theorem d_Wk_take_122 : decode c_Wk_take 122 = .ok (.iload 5, 2) := by decide +kernel
theorem d_Wk_take_124 : decode c_Wk_take 124 = .ok (.goto 4, 3) := by decide +kernel
theorem d_Wk_take_127 : decode c_Wk_take 127 = .ok (.iload_n 1, 1) := by decide +kernel
theorem d_Wk_take_128 : decode c_Wk_take 128 = .ok (.iastore, 1) := by decide +kernel
theorem d_Wk_take_129 : decode c_Wk_take 129 = .ok (.iload 6, 2) := by decide +kernel
theorem d_Wk_take_131 : decode c_Wk_take 131 = .ok (.ifCond .eq 13, 3) := by decide +kernel
theorem d_Wk_take_134 : decode c_Wk_take 134 = .ok (.aload_n 0, 1) := by decide +kernel
theorem d_Wk_take_135 : decode c_Wk_take 135 = .ok (.getfield 21, 3) := by decide +kernel
theorem d_Wk_take_138 : decode c_Wk_take 138 = .ok (.iload_n 3, 1) := by decide +kernel
theorem d_Wk_take_139 : decode c_Wk_take 139 = .ok (.iconst 0, 1) := by decide +kernel
theorem d_Wk_take_140 : decode c_Wk_take 140 = .ok (.iastore, 1) := by decide +kernel
theorem d_Wk_take_141 : decode c_Wk_take 141 = .ok (.goto 21, 3) := by decide +kernel
theorem d_Wk_take_144 : decode c_Wk_take 144 = .ok (.iload_n 2, 1) := by decide +kernel
theorem d_Wk_take_145 : decode c_Wk_take 145 = .ok (.iconst 1, 1) := by decide +kernel
theorem d_Wk_take_146 : decode c_Wk_take 146 = .ok (.if_icmp .ne 16, 3) := by decide +kernel
theorem d_Wk_take_149 : decode c_Wk_take 149 = .ok (.aload_n 0, 1) := by decide +kernel
theorem d_Wk_take_150 : decode c_Wk_take 150 = .ok (.getfield 21, 3) := by decide +kernel
theorem d_Wk_take_153 : decode c_Wk_take 153 = .ok (.iload_n 3, 1) := by decide +kernel
theorem d_Wk_take_154 : decode c_Wk_take 154 = .ok (.dup2, 1) := by decide +kernel
theorem d_Wk_take_155 : decode c_Wk_take 155 = .ok (.iaload, 1) := by decide +kernel
theorem d_Wk_take_156 : decode c_Wk_take 156 = .ok (.iconst 1, 1) := by decide +kernel
theorem d_Wk_take_157 : decode c_Wk_take 157 = .ok (.iload 4, 2) := by decide +kernel
theorem d_Wk_take_159 : decode c_Wk_take 159 = .ok (.ishl, 1) := by decide +kernel
theorem d_Wk_take_160 : decode c_Wk_take 160 = .ok (.ior, 1) := by decide +kernel
theorem d_Wk_take_161 : decode c_Wk_take 161 = .ok (.iastore, 1) := by decide +kernel
theorem d_Wk_take_162 : decode c_Wk_take 162 = .ok (.return_, 1) := by decide +kernel
theorem d_Wk_readAnew_0 : decode c_Wk_readAnew 0 = .ok (.aload_n 0, 1) := by decide +kernel
theorem d_Wk_readAnew_1 : decode c_Wk_readAnew 1 = .ok (.iconst 0, 1) := by decide +kernel
theorem d_Wk_readAnew_2 : decode c_Wk_readAnew 2 = .ok (.putfield 27, 3) := by decide +kernel
theorem d_Wk_readAnew_5 : decode c_Wk_readAnew 5 = .ok (.iconst 1, 1) := by decide +kernel
theorem d_Wk_readAnew_6 : decode c_Wk_readAnew 6 = .ok (.istore_n 2, 1) := by decide +kernel
theorem d_Wk_readAnew_7 : decode c_Wk_readAnew 7 = .ok (.iload_n 2, 1) := by decide +kernel
theorem d_Wk_readAnew_8 : decode c_Wk_readAnew 8 = .ok (.aload_n 1, 1) := by decide +kernel
theorem d_Wk_readAnew_9 : decode c_Wk_readAnew 9 = .ok (.getfield 55, 3) := by decide +kernel
theorem d_Wk_readAnew_12 : decode c_Wk_readAnew 12 = .ok (.if_icmp .gt 34, 3) := by decide +kernel
theorem d_Wk_readAnew_15 : decode c_Wk_readAnew 15 = .ok (.aload_n 0, 1) := by decide +kernel
theorem d_Wk_readAnew_16 : decode c_Wk_readAnew 16 = .ok (.iload_n 2, 1) := by decide +kernel
theorem d_Wk_readAnew_17 : decode c_Wk_readAnew 17 = .ok (.aload_n 1, 1) := by decide +kernel
theorem d_Wk_readAnew_18 : decode c_Wk_readAnew 18 = .ok (.iload_n 2, 1) := by decide +kernel
theorem d_Wk_readAnew_19 : decode c_Wk_readAnew 19 = .ok (.invokevirtual 58, 3) := by decide +kernel
theorem d_Wk_readAnew_22 : decode c_Wk_readAnew 22 = .ok (.aload_n 1, 1) := by decide +kernel
theorem d_Wk_readAnew_23 : decode c_Wk_readAnew 23 = .ok (.iload_n 2, 1) := by decide +kernel
theorem d_Wk_readAnew_24 : decode c_Wk_readAnew 24 = .ok (.invokevirtual 61, 3) := by decide +kernel
theorem d_Wk_readAnew_27 : decode c_Wk_readAnew 27 = .ok (.aload_n 1, 1) := by decide +kernel
theorem d_Wk_readAnew_28 : decode c_Wk_readAnew 28 = .ok (.iload_n 2, 1) := by decide +kernel
theorem d_Wk_readAnew_29 : decode c_Wk_readAnew 29 = .ok (.invokevirtual 64, 3) := by decide +kernel
theorem d_Wk_readAnew_32 : decode c_Wk_readAnew 32 = .ok (.aload_n 1, 1) := by decide +kernel
theorem d_Wk_readAnew_33 : decode c_Wk_readAnew 33 = .ok (.iload_n 2, 1) := by decide +kernel
theorem d_Wk_readAnew_34 : decode c_Wk_readAnew 34 = .ok (.invokevirtual 67, 3) := by decide +kernel
theorem d_Wk_readAnew_37 : decode c_Wk_readAnew 37 = .ok (.invokevirtual 70, 3) := by decide +kernel
theorem d_Wk_readAnew_40 : decode c_Wk_readAnew 40 = .ok (.iinc 2 1, 3) := by decide +kernel
theorem d_Wk_readAnew_43 : decode c_Wk_readAnew 43 = .ok (.goto (-36), 3) := by decide +kernel
theorem d_Wk_readAnew_46 : decode c_Wk_readAnew 46 = .ok (.return_, 1) := by decide +kernel
theorem d_Wk_about_0 : decode c_Wk_about 0 = .ok (.aload_n 0, 1) := by decide +kernel
theorem d_Wk_about_1 : decode c_Wk_about 1 = .ok (.iload_n 1, 1) := by decide +kernel
theorem d_Wk_about_2 : decode c_Wk_about 2 = .ok (.invokevirtual 37, 3) := by decide +kernel
theorem d_Wk_about_5 : decode c_Wk_about 5 = .ok (.ifCond .ne 5, 3) := by decide +kernel
theorem d_Wk_about_8 : decode c_Wk_about 8 = .ok (.iconst (-1), 1) := by decide +kernel
theorem d_Wk_about_9 : decode c_Wk_about 9 = .ok (.ireturn, 1) := by decide +kernel
theorem d_Wk_about_10 : decode c_Wk_about 10 = .ok (.iload_n 2, 1) := by decide +kernel
theorem d_Wk_about_11 : decode c_Wk_about 11 = .ok (.tableswitch 68 0 4 #[33, 40, 47, 54, 61], 33) := by decide +kernel
theorem d_Wk_about_44 : decode c_Wk_about 44 = .ok (.aload_n 0, 1) := by decide +kernel
theorem d_Wk_about_45 : decode c_Wk_about 45 = .ok (.getfield 9, 3) := by decide +kernel
theorem d_Wk_about_48 : decode c_Wk_about 48 = .ok (.iload_n 1, 1) := by decide +kernel
theorem d_Wk_about_49 : decode c_Wk_about 49 = .ok (.iaload, 1) := by decide +kernel
theorem d_Wk_about_50 : decode c_Wk_about 50 = .ok (.ireturn, 1) := by decide +kernel
theorem d_Wk_about_51 : decode c_Wk_about 51 = .ok (.aload_n 0, 1) := by decide +kernel
theorem d_Wk_about_52 : decode c_Wk_about 52 = .ok (.getfield 15, 3) := by decide +kernel
theorem d_Wk_about_55 : decode c_Wk_about 55 = .ok (.iload_n 1, 1) := by decide +kernel
theorem d_Wk_about_56 : decode c_Wk_about 56 = .ok (.iaload, 1) := by decide +kernel
theorem d_Wk_about_57 : decode c_Wk_about 57 = .ok (.ireturn, 1) := by decide +kernel
theorem d_Wk_about_58 : decode c_Wk_about 58 = .ok (.aload_n 0, 1) := by decide +kernel
theorem d_Wk_about_59 : decode c_Wk_about 59 = .ok (.getfield 18, 3) := by decide +kernel
theorem d_Wk_about_62 : decode c_Wk_about 62 = .ok (.iload_n 1, 1) := by decide +kernel
theorem d_Wk_about_63 : decode c_Wk_about 63 = .ok (.iaload, 1) := by decide +kernel
theorem d_Wk_about_64 : decode c_Wk_about 64 = .ok (.ireturn, 1) := by decide +kernel
theorem d_Wk_about_65 : decode c_Wk_about 65 = .ok (.aload_n 0, 1) := by decide +kernel
theorem d_Wk_about_66 : decode c_Wk_about 66 = .ok (.getfield 21, 3) := by decide +kernel
theorem d_Wk_about_69 : decode c_Wk_about 69 = .ok (.iload_n 1, 1) := by decide +kernel
theorem d_Wk_about_70 : decode c_Wk_about 70 = .ok (.iaload, 1) := by decide +kernel
theorem d_Wk_about_71 : decode c_Wk_about 71 = .ok (.ireturn, 1) := by decide +kernel
theorem d_Wk_about_72 : decode c_Wk_about 72 = .ok (.aload_n 0, 1) := by decide +kernel
theorem d_Wk_about_73 : decode c_Wk_about 73 = .ok (.getfield 24, 3) := by decide +kernel
theorem d_Wk_about_76 : decode c_Wk_about 76 = .ok (.iload_n 1, 1) := by decide +kernel
theorem d_Wk_about_77 : decode c_Wk_about 77 = .ok (.iaload, 1) := by decide +kernel
theorem d_Wk_about_78 : decode c_Wk_about 78 = .ok (.ireturn, 1) := by decide +kernel
theorem d_Wk_about_79 : decode c_Wk_about 79 = .ok (.bipush (-2), 2) := by decide +kernel
theorem d_Wk_about_81 : decode c_Wk_about 81 = .ok (.ireturn, 1) := by decide +kernel
theorem d_Wk_become_0 : decode c_Wk_become 0 = .ok (.aload_n 1, 1) := by decide +kernel
theorem d_Wk_become_1 : decode c_Wk_become 1 = .ok (.getfield 9, 3) := by decide +kernel
theorem d_Wk_become_4 : decode c_Wk_become 4 = .ok (.iconst 0, 1) := by decide +kernel
theorem d_Wk_become_5 : decode c_Wk_become 5 = .ok (.aload_n 0, 1) := by decide +kernel
theorem d_Wk_become_6 : decode c_Wk_become 6 = .ok (.getfield 9, 3) := by decide +kernel
theorem d_Wk_become_9 : decode c_Wk_become 9 = .ok (.iconst 0, 1) := by decide +kernel
theorem d_Wk_become_10 : decode c_Wk_become 10 = .ok (.bipush 16, 2) := by decide +kernel
theorem d_Wk_become_12 : decode c_Wk_become 12 = .ok (.invokestatic 31, 3) := by decide +kernel
theorem d_Wk_become_15 : decode c_Wk_become 15 = .ok (.aload_n 1, 1) := by decide +kernel
theorem d_Wk_become_16 : decode c_Wk_become 16 = .ok (.getfield 15, 3) := by decide +kernel
theorem d_Wk_become_19 : decode c_Wk_become 19 = .ok (.iconst 0, 1) := by decide +kernel
theorem d_Wk_become_20 : decode c_Wk_become 20 = .ok (.aload_n 0, 1) := by decide +kernel
theorem d_Wk_become_21 : decode c_Wk_become 21 = .ok (.getfield 15, 3) := by decide +kernel
theorem d_Wk_become_24 : decode c_Wk_become 24 = .ok (.iconst 0, 1) := by decide +kernel
theorem d_Wk_become_25 : decode c_Wk_become 25 = .ok (.bipush 16, 2) := by decide +kernel
theorem d_Wk_become_27 : decode c_Wk_become 27 = .ok (.invokestatic 31, 3) := by decide +kernel
theorem d_Wk_become_30 : decode c_Wk_become 30 = .ok (.aload_n 1, 1) := by decide +kernel
theorem d_Wk_become_31 : decode c_Wk_become 31 = .ok (.getfield 18, 3) := by decide +kernel
theorem d_Wk_become_34 : decode c_Wk_become 34 = .ok (.iconst 0, 1) := by decide +kernel
theorem d_Wk_become_35 : decode c_Wk_become 35 = .ok (.aload_n 0, 1) := by decide +kernel
theorem d_Wk_become_36 : decode c_Wk_become 36 = .ok (.getfield 18, 3) := by decide +kernel
theorem d_Wk_become_39 : decode c_Wk_become 39 = .ok (.iconst 0, 1) := by decide +kernel
theorem d_Wk_become_40 : decode c_Wk_become 40 = .ok (.bipush 16, 2) := by decide +kernel
theorem d_Wk_become_42 : decode c_Wk_become 42 = .ok (.invokestatic 31, 3) := by decide +kernel
theorem d_Wk_become_45 : decode c_Wk_become 45 = .ok (.aload_n 1, 1) := by decide +kernel
theorem d_Wk_become_46 : decode c_Wk_become 46 = .ok (.getfield 21, 3) := by decide +kernel
theorem d_Wk_become_49 : decode c_Wk_become 49 = .ok (.iconst 0, 1) := by decide +kernel
theorem d_Wk_become_50 : decode c_Wk_become 50 = .ok (.aload_n 0, 1) := by decide +kernel
theorem d_Wk_become_51 : decode c_Wk_become 51 = .ok (.getfield 21, 3) := by decide +kernel
theorem d_Wk_become_54 : decode c_Wk_become 54 = .ok (.iconst 0, 1) := by decide +kernel
theorem d_Wk_become_55 : decode c_Wk_become 55 = .ok (.bipush 16, 2) := by decide +kernel
theorem d_Wk_become_57 : decode c_Wk_become 57 = .ok (.invokestatic 31, 3) := by decide +kernel
theorem d_Wk_become_60 : decode c_Wk_become 60 = .ok (.aload_n 1, 1) := by decide +kernel
theorem d_Wk_become_61 : decode c_Wk_become 61 = .ok (.getfield 24, 3) := by decide +kernel
theorem d_Wk_become_64 : decode c_Wk_become 64 = .ok (.iconst 0, 1) := by decide +kernel
theorem d_Wk_become_65 : decode c_Wk_become 65 = .ok (.aload_n 0, 1) := by decide +kernel
theorem d_Wk_become_66 : decode c_Wk_become 66 = .ok (.getfield 24, 3) := by decide +kernel
theorem d_Wk_become_69 : decode c_Wk_become 69 = .ok (.iconst 0, 1) := by decide +kernel
theorem d_Wk_become_70 : decode c_Wk_become 70 = .ok (.bipush 16, 2) := by decide +kernel
theorem d_Wk_become_72 : decode c_Wk_become 72 = .ok (.invokestatic 31, 3) := by decide +kernel
theorem d_Wk_become_75 : decode c_Wk_become 75 = .ok (.aload_n 0, 1) := by decide +kernel
theorem d_Wk_become_76 : decode c_Wk_become 76 = .ok (.aload_n 1, 1) := by decide +kernel
theorem d_Wk_become_77 : decode c_Wk_become 77 = .ok (.getfield 27, 3) := by decide +kernel
theorem d_Wk_become_80 : decode c_Wk_become 80 = .ok (.putfield 27, 3) := by decide +kernel
theorem d_Wk_become_83 : decode c_Wk_become 83 = .ok (.return_, 1) := by decide +kernel

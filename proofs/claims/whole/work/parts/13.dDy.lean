theorem d_Dy_has_0 : decode c_Dy_has 0 = .ok (.iload_n 1, 1) := by decide +kernel
theorem d_Dy_has_1 : decode c_Dy_has 1 = .ok (.iconst 1, 1) := by decide +kernel
theorem d_Dy_has_2 : decode c_Dy_has 2 = .ok (.if_icmp .lt 22, 3) := by decide +kernel
theorem d_Dy_has_5 : decode c_Dy_has 5 = .ok (.iload_n 1, 1) := by decide +kernel
theorem d_Dy_has_6 : decode c_Dy_has 6 = .ok (.aload_n 0, 1) := by decide +kernel
theorem d_Dy_has_7 : decode c_Dy_has 7 = .ok (.getfield 33, 3) := by decide +kernel
theorem d_Dy_has_10 : decode c_Dy_has 10 = .ok (.if_icmp .gt 14, 3) := by decide +kernel
theorem d_Dy_has_13 : decode c_Dy_has 13 = .ok (.iload_n 1, 1) := by decide +kernel
theorem d_Dy_has_14 : decode c_Dy_has 14 = .ok (.sipush 300, 3) := by decide +kernel
theorem d_Dy_has_17 : decode c_Dy_has 17 = .ok (.if_icmp .gt 7, 3) := by decide +kernel
theorem d_Dy_has_20 : decode c_Dy_has 20 = .ok (.iconst 1, 1) := by decide +kernel
theorem d_Dy_has_21 : decode c_Dy_has 21 = .ok (.goto 4, 3) := by decide +kernel
theorem d_Dy_has_24 : decode c_Dy_has 24 = .ok (.iconst 0, 1) := by decide +kernel
theorem d_Dy_has_25 : decode c_Dy_has 25 = .ok (.ireturn, 1) := by decide +kernel
theorem d_Dy_isFull_0 : decode c_Dy_isFull 0 = .ok (.aload_n 0, 1) := by decide +kernel
theorem d_Dy_isFull_1 : decode c_Dy_isFull 1 = .ok (.getfield 33, 3) := by decide +kernel
theorem d_Dy_isFull_4 : decode c_Dy_isFull 4 = .ok (.sipush 150, 3) := by decide +kernel
theorem d_Dy_isFull_7 : decode c_Dy_isFull 7 = .ok (.if_icmp .lt 7, 3) := by decide +kernel
theorem d_Dy_isFull_10 : decode c_Dy_isFull 10 = .ok (.iconst 1, 1) := by decide +kernel
theorem d_Dy_isFull_11 : decode c_Dy_isFull 11 = .ok (.goto 4, 3) := by decide +kernel
theorem d_Dy_isFull_14 : decode c_Dy_isFull 14 = .ok (.iconst 0, 1) := by decide +kernel
theorem d_Dy_isFull_15 : decode c_Dy_isFull 15 = .ok (.ireturn, 1) := by decide +kernel
theorem d_Dy_add_0 : decode c_Dy_add 0 = .ok (.aload_n 0, 1) := by decide +kernel
theorem d_Dy_add_1 : decode c_Dy_add 1 = .ok (.getfield 33, 3) := by decide +kernel
theorem d_Dy_add_4 : decode c_Dy_add 4 = .ok (.sipush 300, 3) := by decide +kernel
theorem d_Dy_add_7 : decode c_Dy_add 7 = .ok (.if_icmp .lt 5, 3) := by decide +kernel
theorem d_Dy_add_10 : decode c_Dy_add 10 = .ok (.iconst 0, 1) := by decide +kernel
theorem d_Dy_add_11 : decode c_Dy_add 11 = .ok (.ireturn, 1) := by decide +kernel
theorem d_Dy_add_12 : decode c_Dy_add 12 = .ok (.aload_n 0, 1) := by decide +kernel
theorem d_Dy_add_13 : decode c_Dy_add 13 = .ok (.dup, 1) := by decide +kernel
theorem d_Dy_add_14 : decode c_Dy_add 14 = .ok (.getfield 33, 3) := by decide +kernel
theorem d_Dy_add_17 : decode c_Dy_add 17 = .ok (.iconst 1, 1) := by decide +kernel
theorem d_Dy_add_18 : decode c_Dy_add 18 = .ok (.iadd, 1) := by decide +kernel
theorem d_Dy_add_19 : decode c_Dy_add 19 = .ok (.putfield 33, 3) := by decide +kernel
theorem d_Dy_add_22 : decode c_Dy_add 22 = .ok (.aload_n 0, 1) := by decide +kernel
theorem d_Dy_add_23 : decode c_Dy_add 23 = .ok (.getfield 9, 3) := by decide +kernel
theorem d_Dy_add_26 : decode c_Dy_add 26 = .ok (.aload_n 0, 1) := by decide +kernel
theorem d_Dy_add_27 : decode c_Dy_add 27 = .ok (.getfield 33, 3) := by decide +kernel
theorem d_Dy_add_30 : decode c_Dy_add 30 = .ok (.iload_n 1, 1) := by decide +kernel
theorem d_Dy_add_31 : decode c_Dy_add 31 = .ok (.iastore, 1) := by decide +kernel
theorem d_Dy_add_32 : decode c_Dy_add 32 = .ok (.aload_n 0, 1) := by decide +kernel
theorem d_Dy_add_33 : decode c_Dy_add 33 = .ok (.getfield 15, 3) := by decide +kernel
theorem d_Dy_add_36 : decode c_Dy_add 36 = .ok (.aload_n 0, 1) := by decide +kernel
theorem d_Dy_add_37 : decode c_Dy_add 37 = .ok (.getfield 33, 3) := by decide +kernel
theorem d_Dy_add_40 : decode c_Dy_add 40 = .ok (.iload_n 2, 1) := by decide +kernel
theorem d_Dy_add_41 : decode c_Dy_add 41 = .ok (.iastore, 1) := by decide +kernel
theorem d_Dy_add_42 : decode c_Dy_add 42 = .ok (.aload_n 0, 1) := by decide +kernel
theorem d_Dy_add_43 : decode c_Dy_add 43 = .ok (.getfield 18, 3) := by decide +kernel
theorem d_Dy_add_46 : decode c_Dy_add 46 = .ok (.aload_n 0, 1) := by decide +kernel
theorem d_Dy_add_47 : decode c_Dy_add 47 = .ok (.getfield 33, 3) := by decide +kernel
theorem d_Dy_add_50 : decode c_Dy_add 50 = .ok (.iload_n 3, 1) := by decide +kernel
theorem d_Dy_add_51 : decode c_Dy_add 51 = .ok (.iastore, 1) := by decide +kernel
theorem d_Dy_add_52 : decode c_Dy_add 52 = .ok (.aload_n 0, 1) := by decide +kernel
theorem d_Dy_add_53 : decode c_Dy_add 53 = .ok (.getfield 21, 3) := by decide +kernel
theorem d_Dy_add_56 : decode c_Dy_add 56 = .ok (.aload_n 0, 1) := by decide +kernel
theorem d_Dy_add_57 : decode c_Dy_add 57 = .ok (.getfield 33, 3) := by decide +kernel
theorem d_Dy_add_60 : decode c_Dy_add 60 = .ok (.bipush (-6), 2) := by decide +kernel
theorem d_Dy_add_62 : decode c_Dy_add 62 = .ok (.iastore, 1) := by decide +kernel
theorem d_Dy_add_63 : decode c_Dy_add 63 = .ok (.aload_n 0, 1) := by decide +kernel
theorem d_Dy_add_64 : decode c_Dy_add 64 = .ok (.getfield 24, 3) := by decide +kernel
theorem d_Dy_add_67 : decode c_Dy_add 67 = .ok (.aload_n 0, 1) := by decide +kernel
theorem d_Dy_add_68 : decode c_Dy_add 68 = .ok (.getfield 33, 3) := by decide +kernel
theorem d_Dy_add_71 : decode c_Dy_add 71 = .ok (.bipush (-6), 2) := by decide +kernel
theorem d_Dy_add_73 : decode c_Dy_add 73 = .ok (.iastore, 1) := by decide +kernel
theorem d_Dy_add_74 : decode c_Dy_add 74 = .ok (.aload_n 0, 1) := by decide +kernel
theorem d_Dy_add_75 : decode c_Dy_add 75 = .ok (.getfield 27, 3) := by decide +kernel
theorem d_Dy_add_78 : decode c_Dy_add 78 = .ok (.aload_n 0, 1) := by decide +kernel
theorem d_Dy_add_79 : decode c_Dy_add 79 = .ok (.getfield 33, 3) := by decide +kernel
theorem d_Dy_add_82 : decode c_Dy_add 82 = .ok (.bipush (-6), 2) := by decide +kernel
theorem d_Dy_add_84 : decode c_Dy_add 84 = .ok (.iastore, 1) := by decide +kernel
theorem d_Dy_add_85 : decode c_Dy_add 85 = .ok (.aload_n 0, 1) := by decide +kernel
theorem d_Dy_add_86 : decode c_Dy_add 86 = .ok (.getfield 30, 3) := by decide +kernel
theorem d_Dy_add_89 : decode c_Dy_add 89 = .ok (.aload_n 0, 1) := by decide +kernel
theorem d_Dy_add_90 : decode c_Dy_add 90 = .ok (.getfield 33, 3) := by decide +kernel
theorem d_Dy_add_93 : decode c_Dy_add 93 = .ok (.bipush (-6), 2) := by decide +kernel
theorem d_Dy_add_95 : decode c_Dy_add 95 = .ok (.iastore, 1) := by decide +kernel
theorem d_Dy_add_96 : decode c_Dy_add 96 = .ok (.aload_n 0, 1) := by decide +kernel
theorem d_Dy_add_97 : decode c_Dy_add 97 = .ok (.getfield 33, 3) := by decide +kernel
theorem d_Dy_add_100 : decode c_Dy_add 100 = .ok (.ireturn, 1) := by decide +kernel
theorem d_Dy_tellPage_0 : decode c_Dy_tellPage 0 = .ok (.aload_n 0, 1) := by decide +kernel
theorem d_Dy_tellPage_1 : decode c_Dy_tellPage 1 = .ok (.iload_n 1, 1) := by decide +kernel
theorem d_Dy_tellPage_2 : decode c_Dy_tellPage 2 = .ok (.invokevirtual 46, 3) := by decide +kernel
theorem d_Dy_tellPage_5 : decode c_Dy_tellPage 5 = .ok (.ifCond .eq 33, 3) := by decide +kernel
theorem d_Dy_tellPage_8 : decode c_Dy_tellPage 8 = .ok (.aload_n 0, 1) := by decide +kernel
theorem d_Dy_tellPage_9 : decode c_Dy_tellPage 9 = .ok (.getfield 21, 3) := by decide +kernel
theorem d_Dy_tellPage_12 : decode c_Dy_tellPage 12 = .ok (.iload_n 1, 1) := by decide +kernel
theorem d_Dy_tellPage_13 : decode c_Dy_tellPage 13 = .ok (.iload_n 2, 1) := by decide +kernel
theorem d_Dy_tellPage_14 : decode c_Dy_tellPage 14 = .ok (.iastore, 1) := by decide +kernel
theorem d_Dy_tellPage_15 : decode c_Dy_tellPage 15 = .ok (.aload_n 0, 1) := by decide +kernel
theorem d_Dy_tellPage_16 : decode c_Dy_tellPage 16 = .ok (.getfield 24, 3) := by decide +kernel
theorem d_Dy_tellPage_19 : decode c_Dy_tellPage 19 = .ok (.iload_n 1, 1) := by decide +kernel
theorem d_Dy_tellPage_20 : decode c_Dy_tellPage 20 = .ok (.iload_n 3, 1) := by decide +kernel
theorem d_Dy_tellPage_21 : decode c_Dy_tellPage 21 = .ok (.iastore, 1) := by decide +kernel
theorem d_Dy_tellPage_22 : decode c_Dy_tellPage 22 = .ok (.aload_n 0, 1) := by decide +kernel
theorem d_Dy_tellPage_23 : decode c_Dy_tellPage 23 = .ok (.getfield 27, 3) := by decide +kernel
theorem d_Dy_tellPage_26 : decode c_Dy_tellPage 26 = .ok (.iload_n 1, 1) := by decide +kernel
theorem d_Dy_tellPage_27 : decode c_Dy_tellPage 27 = .ok (.iload 4, 2) := by decide +kernel
theorem d_Dy_tellPage_29 : decode c_Dy_tellPage 29 = .ok (.iastore, 1) := by decide +kernel
theorem d_Dy_tellPage_30 : decode c_Dy_tellPage 30 = .ok (.aload_n 0, 1) := by decide +kernel
theorem d_Dy_tellPage_31 : decode c_Dy_tellPage 31 = .ok (.getfield 30, 3) := by decide +kernel
theorem d_Dy_tellPage_34 : decode c_Dy_tellPage 34 = .ok (.iload_n 1, 1) := by decide +kernel
theorem d_Dy_tellPage_35 : decode c_Dy_tellPage 35 = .ok (.iload 5, 2) := by decide +kernel
theorem d_Dy_tellPage_37 : decode c_Dy_tellPage 37 = .ok (.iastore, 1) := by decide +kernel
theorem d_Dy_tellPage_38 : decode c_Dy_tellPage 38 = .ok (.return_, 1) := by decide +kernel
theorem d_Dy_saveUpTo_0 : decode c_Dy_saveUpTo 0 = .ok (.aload_n 0, 1) := by decide +kernel
theorem d_Dy_saveUpTo_1 : decode c_Dy_saveUpTo 1 = .ok (.aload_n 0, 1) := by decide +kernel
theorem d_Dy_saveUpTo_2 : decode c_Dy_saveUpTo 2 = .ok (.getfield 37, 3) := by decide +kernel
theorem d_Dy_saveUpTo_5 : decode c_Dy_saveUpTo 5 = .ok (.iload_n 1, 1) := by decide +kernel
theorem d_Dy_saveUpTo_6 : decode c_Dy_saveUpTo 6 = .ok (.invokestatic 50, 3) := by decide +kernel
theorem d_Dy_saveUpTo_9 : decode c_Dy_saveUpTo 9 = .ok (.putfield 37, 3) := by decide +kernel
theorem d_Dy_saveUpTo_12 : decode c_Dy_saveUpTo 12 = .ok (.return_, 1) := by decide +kernel
theorem d_Dy_lose_0 : decode c_Dy_lose 0 = .ok (.aload_n 0, 1) := by decide +kernel
theorem d_Dy_lose_1 : decode c_Dy_lose 1 = .ok (.iconst 0, 1) := by decide +kernel
theorem d_Dy_lose_2 : decode c_Dy_lose 2 = .ok (.aload_n 0, 1) := by decide +kernel
theorem d_Dy_lose_3 : decode c_Dy_lose 3 = .ok (.getfield 33, 3) := by decide +kernel
theorem d_Dy_lose_6 : decode c_Dy_lose 6 = .ok (.iload_n 1, 1) := by decide +kernel
theorem d_Dy_lose_7 : decode c_Dy_lose 7 = .ok (.isub, 1) := by decide +kernel
theorem d_Dy_lose_8 : decode c_Dy_lose 8 = .ok (.invokestatic 50, 3) := by decide +kernel
theorem d_Dy_lose_11 : decode c_Dy_lose 11 = .ok (.putfield 33, 3) := by decide +kernel
theorem d_Dy_lose_14 : decode c_Dy_lose 14 = .ok (.aload_n 0, 1) := by decide +kernel
theorem d_Dy_lose_15 : decode c_Dy_lose 15 = .ok (.aload_n 0, 1) := by decide +kernel
theorem d_Dy_lose_16 : decode c_Dy_lose 16 = .ok (.getfield 37, 3) := by decide +kernel
theorem d_Dy_lose_19 : decode c_Dy_lose 19 = .ok (.aload_n 0, 1) := by decide +kernel
theorem d_Dy_lose_20 : decode c_Dy_lose 20 = .ok (.getfield 33, 3) := by decide +kernel
theorem d_Dy_lose_23 : decode c_Dy_lose 23 = .ok (.invokestatic 56, 3) := by decide +kernel
theorem d_Dy_lose_26 : decode c_Dy_lose 26 = .ok (.putfield 37, 3) := by decide +kernel
theorem d_Dy_lose_29 : decode c_Dy_lose 29 = .ok (.return_, 1) := by decide +kernel
theorem d_Dy_kindOf_0 : decode c_Dy_kindOf 0 = .ok (.aload_n 0, 1) := by decide +kernel
theorem d_Dy_kindOf_1 : decode c_Dy_kindOf 1 = .ok (.iload_n 1, 1) := by decide +kernel
theorem d_Dy_kindOf_2 : decode c_Dy_kindOf 2 = .ok (.invokevirtual 46, 3) := by decide +kernel
theorem d_Dy_kindOf_5 : decode c_Dy_kindOf 5 = .ok (.ifCond .eq 12, 3) := by decide +kernel
theorem d_Dy_kindOf_8 : decode c_Dy_kindOf 8 = .ok (.aload_n 0, 1) := by decide +kernel
theorem d_Dy_kindOf_9 : decode c_Dy_kindOf 9 = .ok (.getfield 9, 3) := by decide +kernel
theorem d_Dy_kindOf_12 : decode c_Dy_kindOf 12 = .ok (.iload_n 1, 1) := by decide +kernel
theorem d_Dy_kindOf_13 : decode c_Dy_kindOf 13 = .ok (.iaload, 1) := by decide +kernel
theorem d_Dy_kindOf_14 : decode c_Dy_kindOf 14 = .ok (.goto 5, 3) := by decide +kernel
theorem d_Dy_kindOf_17 : decode c_Dy_kindOf 17 = .ok (.bipush (-6), 2) := by decide +kernel
theorem d_Dy_kindOf_19 : decode c_Dy_kindOf 19 = .ok (.ireturn, 1) := by decide +kernel
theorem d_Dy_workOf_0 : decode c_Dy_workOf 0 = .ok (.aload_n 0, 1) := by decide +kernel
theorem d_Dy_workOf_1 : decode c_Dy_workOf 1 = .ok (.iload_n 1, 1) := by decide +kernel
theorem d_Dy_workOf_2 : decode c_Dy_workOf 2 = .ok (.invokevirtual 46, 3) := by decide +kernel
theorem d_Dy_workOf_5 : decode c_Dy_workOf 5 = .ok (.ifCond .eq 12, 3) := by decide +kernel
theorem d_Dy_workOf_8 : decode c_Dy_workOf 8 = .ok (.aload_n 0, 1) := by decide +kernel
theorem d_Dy_workOf_9 : decode c_Dy_workOf 9 = .ok (.getfield 15, 3) := by decide +kernel
theorem d_Dy_workOf_12 : decode c_Dy_workOf 12 = .ok (.iload_n 1, 1) := by decide +kernel
theorem d_Dy_workOf_13 : decode c_Dy_workOf 13 = .ok (.iaload, 1) := by decide +kernel
theorem d_Dy_workOf_14 : decode c_Dy_workOf 14 = .ok (.goto 5, 3) := by decide +kernel
theorem d_Dy_workOf_17 : decode c_Dy_workOf 17 = .ok (.bipush (-6), 2) := by decide +kernel
theorem d_Dy_workOf_19 : decode c_Dy_workOf 19 = .ok (.ireturn, 1) := by decide +kernel
theorem d_Dy_earlierOf_0 : decode c_Dy_earlierOf 0 = .ok (.aload_n 0, 1) := by decide +kernel
theorem d_Dy_earlierOf_1 : decode c_Dy_earlierOf 1 = .ok (.iload_n 1, 1) := by decide +kernel
theorem d_Dy_earlierOf_2 : decode c_Dy_earlierOf 2 = .ok (.invokevirtual 46, 3) := by decide +kernel
theorem d_Dy_earlierOf_5 : decode c_Dy_earlierOf 5 = .ok (.ifCond .eq 12, 3) := by decide +kernel
theorem d_Dy_earlierOf_8 : decode c_Dy_earlierOf 8 = .ok (.aload_n 0, 1) := by decide +kernel
theorem d_Dy_earlierOf_9 : decode c_Dy_earlierOf 9 = .ok (.getfield 18, 3) := by decide +kernel
theorem d_Dy_earlierOf_12 : decode c_Dy_earlierOf 12 = .ok (.iload_n 1, 1) := by decide +kernel
theorem d_Dy_earlierOf_13 : decode c_Dy_earlierOf 13 = .ok (.iaload, 1) := by decide +kernel
theorem d_Dy_earlierOf_14 : decode c_Dy_earlierOf 14 = .ok (.goto 4, 3) := by decide +kernel
theorem d_Dy_earlierOf_17 : decode c_Dy_earlierOf 17 = .ok (.iconst 0, 1) := by decide +kernel
theorem d_Dy_earlierOf_18 : decode c_Dy_earlierOf 18 = .ok (.ireturn, 1) := by decide +kernel
theorem d_Dy_pageOf_0 : decode c_Dy_pageOf 0 = .ok (.aload_n 0, 1) := by decide +kernel
theorem d_Dy_pageOf_1 : decode c_Dy_pageOf 1 = .ok (.iload_n 1, 1) := by decide +kernel
theorem d_Dy_pageOf_2 : decode c_Dy_pageOf 2 = .ok (.invokevirtual 46, 3) := by decide +kernel
theorem d_Dy_pageOf_5 : decode c_Dy_pageOf 5 = .ok (.ifCond .eq 12, 3) := by decide +kernel
theorem d_Dy_pageOf_8 : decode c_Dy_pageOf 8 = .ok (.aload_n 0, 1) := by decide +kernel
theorem d_Dy_pageOf_9 : decode c_Dy_pageOf 9 = .ok (.getfield 21, 3) := by decide +kernel
theorem d_Dy_pageOf_12 : decode c_Dy_pageOf 12 = .ok (.iload_n 1, 1) := by decide +kernel
theorem d_Dy_pageOf_13 : decode c_Dy_pageOf 13 = .ok (.iaload, 1) := by decide +kernel
theorem d_Dy_pageOf_14 : decode c_Dy_pageOf 14 = .ok (.goto 5, 3) := by decide +kernel
theorem d_Dy_pageOf_17 : decode c_Dy_pageOf 17 = .ok (.bipush (-6), 2) := by decide +kernel
theorem d_Dy_pageOf_19 : decode c_Dy_pageOf 19 = .ok (.ireturn, 1) := by decide +kernel
theorem d_Dy_beforeOf_0 : decode c_Dy_beforeOf 0 = .ok (.aload_n 0, 1) := by decide +kernel
theorem d_Dy_beforeOf_1 : decode c_Dy_beforeOf 1 = .ok (.iload_n 1, 1) := by decide +kernel
theorem d_Dy_beforeOf_2 : decode c_Dy_beforeOf 2 = .ok (.invokevirtual 46, 3) := by decide +kernel
theorem d_Dy_beforeOf_5 : decode c_Dy_beforeOf 5 = .ok (.ifCond .eq 12, 3) := by decide +kernel
theorem d_Dy_beforeOf_8 : decode c_Dy_beforeOf 8 = .ok (.aload_n 0, 1) := by decide +kernel
theorem d_Dy_beforeOf_9 : decode c_Dy_beforeOf 9 = .ok (.getfield 24, 3) := by decide +kernel
theorem d_Dy_beforeOf_12 : decode c_Dy_beforeOf 12 = .ok (.iload_n 1, 1) := by decide +kernel
theorem d_Dy_beforeOf_13 : decode c_Dy_beforeOf 13 = .ok (.iaload, 1) := by decide +kernel
theorem d_Dy_beforeOf_14 : decode c_Dy_beforeOf 14 = .ok (.goto 5, 3) := by decide +kernel
theorem d_Dy_beforeOf_17 : decode c_Dy_beforeOf 17 = .ok (.bipush (-6), 2) := by decide +kernel
theorem d_Dy_beforeOf_19 : decode c_Dy_beforeOf 19 = .ok (.ireturn, 1) := by decide +kernel
theorem d_Dy_thenOf_0 : decode c_Dy_thenOf 0 = .ok (.aload_n 0, 1) := by decide +kernel
theorem d_Dy_thenOf_1 : decode c_Dy_thenOf 1 = .ok (.iload_n 1, 1) := by decide +kernel
theorem d_Dy_thenOf_2 : decode c_Dy_thenOf 2 = .ok (.invokevirtual 46, 3) := by decide +kernel
theorem d_Dy_thenOf_5 : decode c_Dy_thenOf 5 = .ok (.ifCond .eq 12, 3) := by decide +kernel
theorem d_Dy_thenOf_8 : decode c_Dy_thenOf 8 = .ok (.aload_n 0, 1) := by decide +kernel
theorem d_Dy_thenOf_9 : decode c_Dy_thenOf 9 = .ok (.getfield 27, 3) := by decide +kernel
theorem d_Dy_thenOf_12 : decode c_Dy_thenOf 12 = .ok (.iload_n 1, 1) := by decide +kernel
theorem d_Dy_thenOf_13 : decode c_Dy_thenOf 13 = .ok (.iaload, 1) := by decide +kernel
theorem d_Dy_thenOf_14 : decode c_Dy_thenOf 14 = .ok (.goto 5, 3) := by decide +kernel
theorem d_Dy_thenOf_17 : decode c_Dy_thenOf 17 = .ok (.bipush (-6), 2) := by decide +kernel
theorem d_Dy_thenOf_19 : decode c_Dy_thenOf 19 = .ok (.ireturn, 1) := by decide +kernel
theorem d_Dy_nextOf_0 : decode c_Dy_nextOf 0 = .ok (.aload_n 0, 1) := by decide +kernel
theorem d_Dy_nextOf_1 : decode c_Dy_nextOf 1 = .ok (.iload_n 1, 1) := by decide +kernel
theorem d_Dy_nextOf_2 : decode c_Dy_nextOf 2 = .ok (.invokevirtual 46, 3) := by decide +kernel
theorem d_Dy_nextOf_5 : decode c_Dy_nextOf 5 = .ok (.ifCond .eq 12, 3) := by decide +kernel
theorem d_Dy_nextOf_8 : decode c_Dy_nextOf 8 = .ok (.aload_n 0, 1) := by decide +kernel
theorem d_Dy_nextOf_9 : decode c_Dy_nextOf 9 = .ok (.getfield 30, 3) := by decide +kernel
theorem d_Dy_nextOf_12 : decode c_Dy_nextOf 12 = .ok (.iload_n 1, 1) := by decide +kernel
theorem d_Dy_nextOf_13 : decode c_Dy_nextOf 13 = .ok (.iaload, 1) := by decide +kernel
theorem d_Dy_nextOf_14 : decode c_Dy_nextOf 14 = .ok (.goto 5, 3) := by decide +kernel
theorem d_Dy_nextOf_17 : decode c_Dy_nextOf 17 = .ok (.bipush (-6), 2) := by decide +kernel
theorem d_Dy_nextOf_19 : decode c_Dy_nextOf 19 = .ok (.ireturn, 1) := by decide +kernel
theorem d_Dy_about_0 : decode c_Dy_about 0 = .ok (.aload_n 0, 1) := by decide +kernel
theorem d_Dy_about_1 : decode c_Dy_about 1 = .ok (.iload_n 1, 1) := by decide +kernel
theorem d_Dy_about_2 : decode c_Dy_about 2 = .ok (.invokevirtual 46, 3) := by decide +kernel
theorem d_Dy_about_5 : decode c_Dy_about 5 = .ok (.ifCond .ne 5, 3) := by decide +kernel
theorem d_Dy_about_8 : decode c_Dy_about 8 = .ok (.iconst (-1), 1) := by decide +kernel
theorem d_Dy_about_9 : decode c_Dy_about 9 = .ok (.ireturn, 1) := by decide +kernel
theorem d_Dy_about_10 : decode c_Dy_about 10 = .ok (.iload_n 2, 1) := by decide +kernel
theorem d_Dy_about_11 : decode c_Dy_about 11 = .ok (.tableswitch 104 0 7 #[45, 51, 57, 63, 69, 75, 81, 87], 45) := by decide +kernel
theorem d_Dy_about_56 : decode c_Dy_about 56 = .ok (.aload_n 0, 1) := by decide +kernel
theorem d_Dy_about_57 : decode c_Dy_about 57 = .ok (.iload_n 1, 1) := by decide +kernel
theorem d_Dy_about_58 : decode c_Dy_about 58 = .ok (.invokevirtual 59, 3) := by decide +kernel
theorem d_Dy_about_61 : decode c_Dy_about 61 = .ok (.ireturn, 1) := by decide +kernel
theorem d_Dy_about_62 : decode c_Dy_about 62 = .ok (.aload_n 0, 1) := by decide +kernel
theorem d_Dy_about_63 : decode c_Dy_about 63 = .ok (.iload_n 1, 1) := by decide +kernel
theorem d_Dy_about_64 : decode c_Dy_about 64 = .ok (.invokevirtual 63, 3) := by decide +kernel
theorem d_Dy_about_67 : decode c_Dy_about 67 = .ok (.ireturn, 1) := by decide +kernel
theorem d_Dy_about_68 : decode c_Dy_about 68 = .ok (.aload_n 0, 1) := by decide +kernel
theorem d_Dy_about_69 : decode c_Dy_about 69 = .ok (.iload_n 1, 1) := by decide +kernel
theorem d_Dy_about_70 : decode c_Dy_about 70 = .ok (.invokevirtual 66, 3) := by decide +kernel
theorem d_Dy_about_73 : decode c_Dy_about 73 = .ok (.ireturn, 1) := by decide +kernel
theorem d_Dy_about_74 : decode c_Dy_about 74 = .ok (.aload_n 0, 1) := by decide +kernel
theorem d_Dy_about_75 : decode c_Dy_about 75 = .ok (.iload_n 1, 1) := by decide +kernel
theorem d_Dy_about_76 : decode c_Dy_about 76 = .ok (.invokevirtual 69, 3) := by decide +kernel
theorem d_Dy_about_79 : decode c_Dy_about 79 = .ok (.ireturn, 1) := by decide +kernel
theorem d_Dy_about_80 : decode c_Dy_about 80 = .ok (.aload_n 0, 1) := by decide +kernel
theorem d_Dy_about_81 : decode c_Dy_about 81 = .ok (.iload_n 1, 1) := by decide +kernel
theorem d_Dy_about_82 : decode c_Dy_about 82 = .ok (.invokevirtual 72, 3) := by decide +kernel
theorem d_Dy_about_85 : decode c_Dy_about 85 = .ok (.ireturn, 1) := by decide +kernel
theorem d_Dy_about_86 : decode c_Dy_about 86 = .ok (.aload_n 0, 1) := by decide +kernel
theorem d_Dy_about_87 : decode c_Dy_about 87 = .ok (.iload_n 1, 1) := by decide +kernel
theorem d_Dy_about_88 : decode c_Dy_about 88 = .ok (.invokevirtual 75, 3) := by decide +kernel
theorem d_Dy_about_91 : decode c_Dy_about 91 = .ok (.ireturn, 1) := by decide +kernel
theorem d_Dy_about_92 : decode c_Dy_about 92 = .ok (.aload_n 0, 1) := by decide +kernel
theorem d_Dy_about_93 : decode c_Dy_about 93 = .ok (.iload_n 1, 1) := by decide +kernel
theorem d_Dy_about_94 : decode c_Dy_about 94 = .ok (.invokevirtual 78, 3) := by decide +kernel
theorem d_Dy_about_97 : decode c_Dy_about 97 = .ok (.ireturn, 1) := by decide +kernel
theorem d_Dy_about_98 : decode c_Dy_about 98 = .ok (.iload_n 1, 1) := by decide +kernel
theorem d_Dy_about_99 : decode c_Dy_about 99 = .ok (.aload_n 0, 1) := by decide +kernel
theorem d_Dy_about_100 : decode c_Dy_about 100 = .ok (.getfield 37, 3) := by decide +kernel
theorem d_Dy_about_103 : decode c_Dy_about 103 = .ok (.if_icmp .gt 7, 3) := by decide +kernel
theorem d_Dy_about_106 : decode c_Dy_about 106 = .ok (.iconst 1, 1) := by decide +kernel
theorem d_Dy_about_107 : decode c_Dy_about 107 = .ok (.goto 4, 3) := by decide +kernel
theorem d_Dy_about_110 : decode c_Dy_about 110 = .ok (.iconst 0, 1) := by decide +kernel
theorem d_Dy_about_111 : decode c_Dy_about 111 = .ok (.invokestatic 81, 3) := by decide +kernel
theorem d_Dy_about_114 : decode c_Dy_about 114 = .ok (.ireturn, 1) := by decide +kernel
theorem d_Dy_about_115 : decode c_Dy_about 115 = .ok (.bipush (-2), 2) := by decide +kernel
theorem d_Dy_about_117 : decode c_Dy_about 117 = .ok (.ireturn, 1) := by decide +kernel
theorem d_Dy_become_0 : decode c_Dy_become 0 = .ok (.aload_n 1, 1) := by decide +kernel
theorem d_Dy_become_1 : decode c_Dy_become 1 = .ok (.getfield 33, 3) := by decide +kernel
theorem d_Dy_become_4 : decode c_Dy_become 4 = .ok (.iconst 1, 1) := by decide +kernel
theorem d_Dy_become_5 : decode c_Dy_become 5 = .ok (.iadd, 1) := by decide +kernel
theorem d_Dy_become_6 : decode c_Dy_become 6 = .ok (.istore_n 2, 1) := by decide +kernel
theorem d_Dy_become_7 : decode c_Dy_become 7 = .ok (.aload_n 1, 1) := by decide +kernel
theorem d_Dy_become_8 : decode c_Dy_become 8 = .ok (.getfield 9, 3) := by decide +kernel
theorem d_Dy_become_11 : decode c_Dy_become 11 = .ok (.iconst 0, 1) := by decide +kernel
theorem d_Dy_become_12 : decode c_Dy_become 12 = .ok (.aload_n 0, 1) := by decide +kernel
theorem d_Dy_become_13 : decode c_Dy_become 13 = .ok (.getfield 9, 3) := by decide +kernel
theorem d_Dy_become_16 : decode c_Dy_become 16 = .ok (.iconst 0, 1) := by decide +kernel
theorem d_Dy_become_17 : decode c_Dy_become 17 = .ok (.iload_n 2, 1) := by decide +kernel
theorem d_Dy_become_18 : decode c_Dy_become 18 = .ok (.invokestatic 40, 3) := by decide +kernel
theorem d_Dy_become_21 : decode c_Dy_become 21 = .ok (.aload_n 1, 1) := by decide +kernel
theorem d_Dy_become_22 : decode c_Dy_become 22 = .ok (.getfield 15, 3) := by decide +kernel
theorem d_Dy_become_25 : decode c_Dy_become 25 = .ok (.iconst 0, 1) := by decide +kernel
theorem d_Dy_become_26 : decode c_Dy_become 26 = .ok (.aload_n 0, 1) := by decide +kernel
theorem d_Dy_become_27 : decode c_Dy_become 27 = .ok (.getfield 15, 3) := by decide +kernel
theorem d_Dy_become_30 : decode c_Dy_become 30 = .ok (.iconst 0, 1) := by decide +kernel
theorem d_Dy_become_31 : decode c_Dy_become 31 = .ok (.iload_n 2, 1) := by decide +kernel
theorem d_Dy_become_32 : decode c_Dy_become 32 = .ok (.invokestatic 40, 3) := by decide +kernel
theorem d_Dy_become_35 : decode c_Dy_become 35 = .ok (.aload_n 1, 1) := by decide +kernel
theorem d_Dy_become_36 : decode c_Dy_become 36 = .ok (.getfield 18, 3) := by decide +kernel
theorem d_Dy_become_39 : decode c_Dy_become 39 = .ok (.iconst 0, 1) := by decide +kernel
theorem d_Dy_become_40 : decode c_Dy_become 40 = .ok (.aload_n 0, 1) := by decide +kernel
theorem d_Dy_become_41 : decode c_Dy_become 41 = .ok (.getfield 18, 3) := by decide +kernel
theorem d_Dy_become_44 : decode c_Dy_become 44 = .ok (.iconst 0, 1) := by decide +kernel
theorem d_Dy_become_45 : decode c_Dy_become 45 = .ok (.iload_n 2, 1) := by decide +kernel
theorem d_Dy_become_46 : decode c_Dy_become 46 = .ok (.invokestatic 40, 3) := by decide +kernel
theorem d_Dy_become_49 : decode c_Dy_become 49 = .ok (.aload_n 1, 1) := by decide +kernel
theorem d_Dy_become_50 : decode c_Dy_become 50 = .ok (.getfield 21, 3) := by decide +kernel
theorem d_Dy_become_53 : decode c_Dy_become 53 = .ok (.iconst 0, 1) := by decide +kernel
theorem d_Dy_become_54 : decode c_Dy_become 54 = .ok (.aload_n 0, 1) := by decide +kernel
theorem d_Dy_become_55 : decode c_Dy_become 55 = .ok (.getfield 21, 3) := by decide +kernel
theorem d_Dy_become_58 : decode c_Dy_become 58 = .ok (.iconst 0, 1) := by decide +kernel
theorem d_Dy_become_59 : decode c_Dy_become 59 = .ok (.iload_n 2, 1) := by decide +kernel
theorem d_Dy_become_60 : decode c_Dy_become 60 = .ok (.invokestatic 40, 3) := by decide +kernel
theorem d_Dy_become_63 : decode c_Dy_become 63 = .ok (.aload_n 1, 1) := by decide +kernel
theorem d_Dy_become_64 : decode c_Dy_become 64 = .ok (.getfield 24, 3) := by decide +kernel
theorem d_Dy_become_67 : decode c_Dy_become 67 = .ok (.iconst 0, 1) := by decide +kernel
theorem d_Dy_become_68 : decode c_Dy_become 68 = .ok (.aload_n 0, 1) := by decide +kernel
theorem d_Dy_become_69 : decode c_Dy_become 69 = .ok (.getfield 24, 3) := by decide +kernel
theorem d_Dy_become_72 : decode c_Dy_become 72 = .ok (.iconst 0, 1) := by decide +kernel
theorem d_Dy_become_73 : decode c_Dy_become 73 = .ok (.iload_n 2, 1) := by decide +kernel
theorem d_Dy_become_74 : decode c_Dy_become 74 = .ok (.invokestatic 40, 3) := by decide +kernel
theorem d_Dy_become_77 : decode c_Dy_become 77 = .ok (.aload_n 1, 1) := by decide +kernel
theorem d_Dy_become_78 : decode c_Dy_become 78 = .ok (.getfield 27, 3) := by decide +kernel
theorem d_Dy_become_81 : decode c_Dy_become 81 = .ok (.iconst 0, 1) := by decide +kernel
theorem d_Dy_become_82 : decode c_Dy_become 82 = .ok (.aload_n 0, 1) := by decide +kernel
theorem d_Dy_become_83 : decode c_Dy_become 83 = .ok (.getfield 27, 3) := by decide +kernel
theorem d_Dy_become_86 : decode c_Dy_become 86 = .ok (.iconst 0, 1) := by decide +kernel
theorem d_Dy_become_87 : decode c_Dy_become 87 = .ok (.iload_n 2, 1) := by decide +kernel
theorem d_Dy_become_88 : decode c_Dy_become 88 = .ok (.invokestatic 40, 3) := by decide +kernel
theorem d_Dy_become_91 : decode c_Dy_become 91 = .ok (.aload_n 1, 1) := by decide +kernel
theorem d_Dy_become_92 : decode c_Dy_become 92 = .ok (.getfield 30, 3) := by decide +kernel
theorem d_Dy_become_95 : decode c_Dy_become 95 = .ok (.iconst 0, 1) := by decide +kernel
theorem d_Dy_become_96 : decode c_Dy_become 96 = .ok (.aload_n 0, 1) := by decide +kernel
theorem d_Dy_become_97 : decode c_Dy_become 97 = .ok (.getfield 30, 3) := by decide +kernel
theorem d_Dy_become_100 : decode c_Dy_become 100 = .ok (.iconst 0, 1) := by decide +kernel
theorem d_Dy_become_101 : decode c_Dy_become 101 = .ok (.iload_n 2, 1) := by decide +kernel
theorem d_Dy_become_102 : decode c_Dy_become 102 = .ok (.invokestatic 40, 3) := by decide +kernel
theorem d_Dy_become_105 : decode c_Dy_become 105 = .ok (.aload_n 0, 1) := by decide +kernel
theorem d_Dy_become_106 : decode c_Dy_become 106 = .ok (.aload_n 1, 1) := by decide +kernel
theorem d_Dy_become_107 : decode c_Dy_become 107 = .ok (.getfield 33, 3) := by decide +kernel
theorem d_Dy_become_110 : decode c_Dy_become 110 = .ok (.putfield 33, 3) := by decide +kernel
theorem d_Dy_become_113 : decode c_Dy_become 113 = .ok (.aload_n 0, 1) := by decide +kernel
theorem d_Dy_become_114 : decode c_Dy_become 114 = .ok (.aload_n 1, 1) := by decide +kernel
theorem d_Dy_become_115 : decode c_Dy_become 115 = .ok (.getfield 37, 3) := by decide +kernel
theorem d_Dy_become_118 : decode c_Dy_become 118 = .ok (.putfield 37, 3) := by decide +kernel
theorem d_Dy_become_121 : decode c_Dy_become 121 = .ok (.return_, 1) := by decide +kernel

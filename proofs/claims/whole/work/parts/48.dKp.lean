theorem d_Sl_store_0 : decode c_Sl_store 0 = .ok (.iload_n 1, 1) := by decide +kernel
theorem d_Sl_store_1 : decode c_Sl_store 1 = .ok (.invokestatic 17, 3) := by decide +kernel
theorem d_Sl_store_4 : decode c_Sl_store 4 = .ok (.ifCond .eq 34, 3) := by decide +kernel
theorem d_Sl_store_7 : decode c_Sl_store 7 = .ok (.aload_n 0, 1) := by decide +kernel
theorem d_Sl_store_8 : decode c_Sl_store 8 = .ok (.getfield 11, 3) := by decide +kernel
theorem d_Sl_store_11 : decode c_Sl_store 11 = .ok (.iload_n 1, 1) := by decide +kernel
theorem d_Sl_store_12 : decode c_Sl_store 12 = .ok (.aaload, 1) := by decide +kernel
theorem d_Sl_store_13 : decode c_Sl_store 13 = .ok (.astore_n 3, 1) := by decide +kernel
theorem d_Sl_store_14 : decode c_Sl_store 14 = .ok (.aload_n 3, 1) := by decide +kernel
theorem d_Sl_store_15 : decode c_Sl_store 15 = .ok (.ifnonnull 18, 3) := by decide +kernel
theorem d_Sl_store_18 : decode c_Sl_store 18 = .ok (.new 9, 3) := by decide +kernel
theorem d_Sl_store_21 : decode c_Sl_store 21 = .ok (.dup, 1) := by decide +kernel
theorem d_Sl_store_22 : decode c_Sl_store 22 = .ok (.invokespecial 21, 3) := by decide +kernel
theorem d_Sl_store_25 : decode c_Sl_store 25 = .ok (.astore_n 3, 1) := by decide +kernel
theorem d_Sl_store_26 : decode c_Sl_store 26 = .ok (.aload_n 0, 1) := by decide +kernel
theorem d_Sl_store_27 : decode c_Sl_store 27 = .ok (.getfield 11, 3) := by decide +kernel
theorem d_Sl_store_30 : decode c_Sl_store 30 = .ok (.iload_n 1, 1) := by decide +kernel
theorem d_Sl_store_31 : decode c_Sl_store 31 = .ok (.aload_n 3, 1) := by decide +kernel
theorem d_Sl_store_32 : decode c_Sl_store 32 = .ok (.aastore, 1) := by decide +kernel
theorem d_Sl_store_33 : decode c_Sl_store 33 = .ok (.aload_n 3, 1) := by decide +kernel
theorem d_Sl_store_34 : decode c_Sl_store 34 = .ok (.aload_n 2, 1) := by decide +kernel
theorem d_Sl_store_35 : decode c_Sl_store 35 = .ok (.invokevirtual 22, 3) := by decide +kernel
theorem d_Sl_store_38 : decode c_Sl_store 38 = .ok (.return_, 1) := by decide +kernel
theorem d_Fd_keep_0 : decode c_Fd_keep 0 = .ok (.iload_n 1, 1) := by decide +kernel
theorem d_Fd_keep_1 : decode c_Fd_keep 1 = .ok (.invokestatic 173, 3) := by decide +kernel
theorem d_Fd_keep_4 : decode c_Fd_keep 4 = .ok (.ifCond .ne 6, 3) := by decide +kernel
theorem d_Fd_keep_7 : decode c_Fd_keep 7 = .ok (.bipush (-2), 2) := by decide +kernel
theorem d_Fd_keep_9 : decode c_Fd_keep 9 = .ok (.ireturn, 1) := by decide +kernel
theorem d_Fd_keep_10 : decode c_Fd_keep 10 = .ok (.aload_n 0, 1) := by decide +kernel
theorem d_Fd_keep_11 : decode c_Fd_keep 11 = .ok (.getfield 29, 3) := by decide +kernel
theorem d_Fd_keep_14 : decode c_Fd_keep 14 = .ok (.iload_n 1, 1) := by decide +kernel
theorem d_Fd_keep_15 : decode c_Fd_keep 15 = .ok (.aload_n 0, 1) := by decide +kernel
theorem d_Fd_keep_16 : decode c_Fd_keep 16 = .ok (.getfield 12, 3) := by decide +kernel
theorem d_Fd_keep_19 : decode c_Fd_keep 19 = .ok (.invokevirtual 176, 3) := by decide +kernel
theorem d_Fd_keep_22 : decode c_Fd_keep 22 = .ok (.aload_n 0, 1) := by decide +kernel
theorem d_Fd_keep_23 : decode c_Fd_keep 23 = .ok (.getfield 12, 3) := by decide +kernel
theorem d_Fd_keep_26 : decode c_Fd_keep 26 = .ok (.getfield 97, 3) := by decide +kernel
theorem d_Fd_keep_29 : decode c_Fd_keep 29 = .ok (.getfield 180, 3) := by decide +kernel
theorem d_Fd_keep_32 : decode c_Fd_keep 32 = .ok (.ireturn, 1) := by decide +kernel

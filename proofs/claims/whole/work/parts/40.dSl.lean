theorem d_Sl_isFilled_0 : decode c_Sl_isFilled 0 = .ok (.iload_n 1, 1) := by decide +kernel
theorem d_Sl_isFilled_1 : decode c_Sl_isFilled 1 = .ok (.invokestatic 17, 3) := by decide +kernel
theorem d_Sl_isFilled_4 : decode c_Sl_isFilled 4 = .ok (.ifCond .eq 16, 3) := by decide +kernel
theorem d_Sl_isFilled_7 : decode c_Sl_isFilled 7 = .ok (.aload_n 0, 1) := by decide +kernel
theorem d_Sl_isFilled_8 : decode c_Sl_isFilled 8 = .ok (.getfield 11, 3) := by decide +kernel
theorem d_Sl_isFilled_11 : decode c_Sl_isFilled 11 = .ok (.iload_n 1, 1) := by decide +kernel
theorem d_Sl_isFilled_12 : decode c_Sl_isFilled 12 = .ok (.aaload, 1) := by decide +kernel
theorem d_Sl_isFilled_13 : decode c_Sl_isFilled 13 = .ok (.ifnull 7, 3) := by decide +kernel
theorem d_Sl_isFilled_16 : decode c_Sl_isFilled 16 = .ok (.iconst 1, 1) := by decide +kernel
theorem d_Sl_isFilled_17 : decode c_Sl_isFilled 17 = .ok (.goto 4, 3) := by decide +kernel
theorem d_Sl_isFilled_20 : decode c_Sl_isFilled 20 = .ok (.iconst 0, 1) := by decide +kernel
theorem d_Sl_isFilled_21 : decode c_Sl_isFilled 21 = .ok (.ireturn, 1) := by decide +kernel
theorem d_Sl_fetch_0 : decode c_Sl_fetch 0 = .ok (.iload_n 1, 1) := by decide +kernel
theorem d_Sl_fetch_1 : decode c_Sl_fetch 1 = .ok (.invokestatic 17, 3) := by decide +kernel
theorem d_Sl_fetch_4 : decode c_Sl_fetch 4 = .ok (.ifCond .eq 19, 3) := by decide +kernel
theorem d_Sl_fetch_7 : decode c_Sl_fetch 7 = .ok (.aload_n 0, 1) := by decide +kernel
theorem d_Sl_fetch_8 : decode c_Sl_fetch 8 = .ok (.getfield 11, 3) := by decide +kernel
theorem d_Sl_fetch_11 : decode c_Sl_fetch 11 = .ok (.iload_n 1, 1) := by decide +kernel
theorem d_Sl_fetch_12 : decode c_Sl_fetch 12 = .ok (.aaload, 1) := by decide +kernel
theorem d_Sl_fetch_13 : decode c_Sl_fetch 13 = .ok (.astore_n 3, 1) := by decide +kernel
theorem d_Sl_fetch_14 : decode c_Sl_fetch 14 = .ok (.aload_n 3, 1) := by decide +kernel
theorem d_Sl_fetch_15 : decode c_Sl_fetch 15 = .ok (.ifnull 8, 3) := by decide +kernel
theorem d_Sl_fetch_18 : decode c_Sl_fetch 18 = .ok (.aload_n 2, 1) := by decide +kernel
theorem d_Sl_fetch_19 : decode c_Sl_fetch 19 = .ok (.aload_n 3, 1) := by decide +kernel
theorem d_Sl_fetch_20 : decode c_Sl_fetch 20 = .ok (.invokevirtual 22, 3) := by decide +kernel
theorem d_Sl_fetch_23 : decode c_Sl_fetch 23 = .ok (.return_, 1) := by decide +kernel

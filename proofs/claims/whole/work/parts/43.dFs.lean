theorem d_Fd_bring_0 : decode c_Fd_bring 0 = .ok (.iload_n 1, 1) := by decide +kernel
theorem d_Fd_bring_1 : decode c_Fd_bring 1 = .ok (.invokestatic 173, 3) := by decide +kernel
theorem d_Fd_bring_4 : decode c_Fd_bring 4 = .ok (.ifCond .ne 6, 3) := by decide +kernel
theorem d_Fd_bring_7 : decode c_Fd_bring 7 = .ok (.bipush (-2), 2) := by decide +kernel
theorem d_Fd_bring_9 : decode c_Fd_bring 9 = .ok (.ireturn, 1) := by decide +kernel
theorem d_Fd_bring_10 : decode c_Fd_bring 10 = .ok (.aload_n 0, 1) := by decide +kernel
theorem d_Fd_bring_11 : decode c_Fd_bring 11 = .ok (.getfield 29, 3) := by decide +kernel
theorem d_Fd_bring_14 : decode c_Fd_bring 14 = .ok (.iload_n 1, 1) := by decide +kernel
theorem d_Fd_bring_15 : decode c_Fd_bring 15 = .ok (.invokevirtual 184, 3) := by decide +kernel
theorem d_Fd_bring_18 : decode c_Fd_bring 18 = .ok (.ifCond .ne 6, 3) := by decide +kernel
theorem d_Fd_bring_21 : decode c_Fd_bring 21 = .ok (.bipush (-5), 2) := by decide +kernel
theorem d_Fd_bring_23 : decode c_Fd_bring 23 = .ok (.ireturn, 1) := by decide +kernel
theorem d_Fd_bring_24 : decode c_Fd_bring 24 = .ok (.aload_n 0, 1) := by decide +kernel
theorem d_Fd_bring_25 : decode c_Fd_bring 25 = .ok (.getfield 22, 3) := by decide +kernel
theorem d_Fd_bring_28 : decode c_Fd_bring 28 = .ok (.aload_n 0, 1) := by decide +kernel
theorem d_Fd_bring_29 : decode c_Fd_bring 29 = .ok (.getfield 12, 3) := by decide +kernel
theorem d_Fd_bring_32 : decode c_Fd_bring 32 = .ok (.invokevirtual 47, 3) := by decide +kernel
theorem d_Fd_bring_35 : decode c_Fd_bring 35 = .ok (.aload_n 0, 1) := by decide +kernel
theorem d_Fd_bring_36 : decode c_Fd_bring 36 = .ok (.getfield 29, 3) := by decide +kernel
theorem d_Fd_bring_39 : decode c_Fd_bring 39 = .ok (.iload_n 1, 1) := by decide +kernel
theorem d_Fd_bring_40 : decode c_Fd_bring 40 = .ok (.aload_n 0, 1) := by decide +kernel
theorem d_Fd_bring_41 : decode c_Fd_bring 41 = .ok (.getfield 12, 3) := by decide +kernel
theorem d_Fd_bring_44 : decode c_Fd_bring 44 = .ok (.invokevirtual 187, 3) := by decide +kernel
theorem d_Fd_bring_47 : decode c_Fd_bring 47 = .ok (.aload_n 0, 1) := by decide +kernel
theorem d_Fd_bring_48 : decode c_Fd_bring 48 = .ok (.getfield 22, 3) := by decide +kernel
theorem d_Fd_bring_51 : decode c_Fd_bring 51 = .ok (.aload_n 0, 1) := by decide +kernel
theorem d_Fd_bring_52 : decode c_Fd_bring 52 = .ok (.getfield 12, 3) := by decide +kernel
theorem d_Fd_bring_55 : decode c_Fd_bring 55 = .ok (.getfield 97, 3) := by decide +kernel
theorem d_Fd_bring_58 : decode c_Fd_bring 58 = .ok (.getfield 180, 3) := by decide +kernel
theorem d_Fd_bring_61 : decode c_Fd_bring 61 = .ok (.invokevirtual 55, 3) := by decide +kernel
theorem d_Fd_bring_64 : decode c_Fd_bring 64 = .ok (.ireturn, 1) := by decide +kernel

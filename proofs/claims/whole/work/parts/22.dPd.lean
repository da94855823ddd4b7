theorem d_Pd_length_0 : decode c_Pd_length 0 = .ok (.aload_n 0, 1) := by decide +kernel
theorem d_Pd_length_1 : decode c_Pd_length 1 = .ok (.getfield 15, 3) := by decide +kernel
theorem d_Pd_length_4 : decode c_Pd_length 4 = .ok (.ireturn, 1) := by decide +kernel
theorem d_Pd_hasRoomFor_0 : decode c_Pd_hasRoomFor 0 = .ok (.aload_n 0, 1) := by decide +kernel
theorem d_Pd_hasRoomFor_1 : decode c_Pd_hasRoomFor 1 = .ok (.getfield 15, 3) := by decide +kernel
theorem d_Pd_hasRoomFor_4 : decode c_Pd_hasRoomFor 4 = .ok (.iload_n 1, 1) := by decide +kernel
theorem d_Pd_hasRoomFor_5 : decode c_Pd_hasRoomFor 5 = .ok (.iadd, 1) := by decide +kernel
theorem d_Pd_hasRoomFor_6 : decode c_Pd_hasRoomFor 6 = .ok (.bipush 80, 2) := by decide +kernel
theorem d_Pd_hasRoomFor_8 : decode c_Pd_hasRoomFor 8 = .ok (.if_icmp .gt 7, 3) := by decide +kernel
theorem d_Pd_hasRoomFor_11 : decode c_Pd_hasRoomFor 11 = .ok (.iconst 1, 1) := by decide +kernel
theorem d_Pd_hasRoomFor_12 : decode c_Pd_hasRoomFor 12 = .ok (.goto 4, 3) := by decide +kernel
theorem d_Pd_hasRoomFor_15 : decode c_Pd_hasRoomFor 15 = .ok (.iconst 0, 1) := by decide +kernel
theorem d_Pd_hasRoomFor_16 : decode c_Pd_hasRoomFor 16 = .ok (.ireturn, 1) := by decide +kernel
theorem d_Pd_append_0 : decode c_Pd_append 0 = .ok (.iload_n 3, 1) := by decide +kernel
theorem d_Pd_append_1 : decode c_Pd_append 1 = .ok (.iconst 1, 1) := by decide +kernel
theorem d_Pd_append_2 : decode c_Pd_append 2 = .ok (.isub, 1) := by decide +kernel
theorem d_Pd_append_3 : decode c_Pd_append 3 = .ok (.istore 4, 2) := by decide +kernel
theorem d_Pd_append_5 : decode c_Pd_append 5 = .ok (.iload 4, 2) := by decide +kernel
theorem d_Pd_append_7 : decode c_Pd_append 7 = .ok (.ifCond .lt 50, 3) := by decide +kernel
theorem d_Pd_append_10 : decode c_Pd_append 10 = .ok (.aload_n 0, 1) := by decide +kernel
theorem d_Pd_append_11 : decode c_Pd_append 11 = .ok (.getfield 15, 3) := by decide +kernel
theorem d_Pd_append_14 : decode c_Pd_append 14 = .ok (.bipush 80, 2) := by decide +kernel
theorem d_Pd_append_16 : decode c_Pd_append 16 = .ok (.if_icmp .ge 41, 3) := by decide +kernel
theorem d_Pd_append_19 : decode c_Pd_append 19 = .ok (.aload_n 0, 1) := by decide +kernel
theorem d_Pd_append_20 : decode c_Pd_append 20 = .ok (.getfield 9, 3) := by decide +kernel
theorem d_Pd_append_23 : decode c_Pd_append 23 = .ok (.aload_n 0, 1) := by decide +kernel
theorem d_Pd_append_24 : decode c_Pd_append 24 = .ok (.getfield 15, 3) := by decide +kernel
theorem d_Pd_append_27 : decode c_Pd_append 27 = .ok (.lload_n 1, 1) := by decide +kernel
theorem d_Pd_append_28 : decode c_Pd_append 28 = .ok (.bipush 8, 2) := by decide +kernel
theorem d_Pd_append_30 : decode c_Pd_append 30 = .ok (.iload 4, 2) := by decide +kernel
theorem d_Pd_append_32 : decode c_Pd_append 32 = .ok (.imul, 1) := by decide +kernel
theorem d_Pd_append_33 : decode c_Pd_append 33 = .ok (.lushr, 1) := by decide +kernel
theorem d_Pd_append_34 : decode c_Pd_append 34 = .ok (.ldc2_w 19, 3) := by decide +kernel
theorem d_Pd_append_37 : decode c_Pd_append 37 = .ok (.land, 1) := by decide +kernel
theorem d_Pd_append_38 : decode c_Pd_append 38 = .ok (.l2i, 1) := by decide +kernel
theorem d_Pd_append_39 : decode c_Pd_append 39 = .ok (.i2c, 1) := by decide +kernel
theorem d_Pd_append_40 : decode c_Pd_append 40 = .ok (.castore, 1) := by decide +kernel
theorem d_Pd_append_41 : decode c_Pd_append 41 = .ok (.aload_n 0, 1) := by decide +kernel
theorem d_Pd_append_42 : decode c_Pd_append 42 = .ok (.dup, 1) := by decide +kernel
theorem d_Pd_append_43 : decode c_Pd_append 43 = .ok (.getfield 15, 3) := by decide +kernel
theorem d_Pd_append_46 : decode c_Pd_append 46 = .ok (.iconst 1, 1) := by decide +kernel
theorem d_Pd_append_47 : decode c_Pd_append 47 = .ok (.iadd, 1) := by decide +kernel
theorem d_Pd_append_48 : decode c_Pd_append 48 = .ok (.putfield 15, 3) := by decide +kernel
theorem d_Pd_append_51 : decode c_Pd_append 51 = .ok (.iinc 4 (-1), 3) := by decide +kernel
theorem d_Pd_append_54 : decode c_Pd_append 54 = .ok (.goto (-49), 3) := by decide +kernel
theorem d_Pd_append_57 : decode c_Pd_append 57 = .ok (.return_, 1) := by decide +kernel
theorem d_Pd_empty_0 : decode c_Pd_empty 0 = .ok (.aload_n 0, 1) := by decide +kernel
theorem d_Pd_empty_1 : decode c_Pd_empty 1 = .ok (.iconst 0, 1) := by decide +kernel
theorem d_Pd_empty_2 : decode c_Pd_empty 2 = .ok (.putfield 15, 3) := by decide +kernel
theorem d_Pd_empty_5 : decode c_Pd_empty 5 = .ok (.return_, 1) := by decide +kernel
theorem d_Pd_at_0 : decode c_Pd_at 0 = .ok (.iload_n 1, 1) := by decide +kernel
theorem d_Pd_at_1 : decode c_Pd_at 1 = .ok (.ifCond .lt 20, 3) := by decide +kernel
theorem d_Pd_at_4 : decode c_Pd_at 4 = .ok (.iload_n 1, 1) := by decide +kernel
theorem d_Pd_at_5 : decode c_Pd_at 5 = .ok (.aload_n 0, 1) := by decide +kernel
theorem d_Pd_at_6 : decode c_Pd_at 6 = .ok (.getfield 15, 3) := by decide +kernel
theorem d_Pd_at_9 : decode c_Pd_at 9 = .ok (.if_icmp .ge 12, 3) := by decide +kernel
theorem d_Pd_at_12 : decode c_Pd_at 12 = .ok (.aload_n 0, 1) := by decide +kernel
theorem d_Pd_at_13 : decode c_Pd_at 13 = .ok (.getfield 9, 3) := by decide +kernel
theorem d_Pd_at_16 : decode c_Pd_at 16 = .ok (.iload_n 1, 1) := by decide +kernel
theorem d_Pd_at_17 : decode c_Pd_at 17 = .ok (.caload, 1) := by decide +kernel
theorem d_Pd_at_18 : decode c_Pd_at 18 = .ok (.goto 4, 3) := by decide +kernel
theorem d_Pd_at_21 : decode c_Pd_at 21 = .ok (.iconst 0, 1) := by decide +kernel
theorem d_Pd_at_22 : decode c_Pd_at 22 = .ok (.ireturn, 1) := by decide +kernel

theorem d_Hi_length_0 : decode c_Hi_length 0 = .ok (.aload_n 0, 1) := by decide +kernel
theorem d_Hi_length_1 : decode c_Hi_length 1 = .ok (.getfield 21, 3) := by decide +kernel
theorem d_Hi_length_4 : decode c_Hi_length 4 = .ok (.ireturn, 1) := by decide +kernel
theorem d_Hi_record_0 : decode c_Hi_record 0 = .ok (.iload_n 1, 1) := by decide +kernel
theorem d_Hi_record_1 : decode c_Hi_record 1 = .ok (.ifCond .lt 25, 3) := by decide +kernel
theorem d_Hi_record_4 : decode c_Hi_record 4 = .ok (.aload_n 0, 1) := by decide +kernel
theorem d_Hi_record_5 : decode c_Hi_record 5 = .ok (.getfield 21, 3) := by decide +kernel
theorem d_Hi_record_8 : decode c_Hi_record 8 = .ok (.bipush 6, 2) := by decide +kernel
theorem d_Hi_record_10 : decode c_Hi_record 10 = .ok (.if_icmp .ge 16, 3) := by decide +kernel
theorem d_Hi_record_13 : decode c_Hi_record 13 = .ok (.aload_n 0, 1) := by decide +kernel
theorem d_Hi_record_14 : decode c_Hi_record 14 = .ok (.dup, 1) := by decide +kernel
theorem d_Hi_record_15 : decode c_Hi_record 15 = .ok (.getfield 21, 3) := by decide +kernel
theorem d_Hi_record_18 : decode c_Hi_record 18 = .ok (.iconst 1, 1) := by decide +kernel
theorem d_Hi_record_19 : decode c_Hi_record 19 = .ok (.iadd, 1) := by decide +kernel
theorem d_Hi_record_20 : decode c_Hi_record 20 = .ok (.putfield 21, 3) := by decide +kernel
theorem d_Hi_record_23 : decode c_Hi_record 23 = .ok (.goto 20, 3) := by decide +kernel
theorem d_Hi_record_26 : decode c_Hi_record 26 = .ok (.iload_n 1, 1) := by decide +kernel
theorem d_Hi_record_27 : decode c_Hi_record 27 = .ok (.ifCond .lt 16, 3) := by decide +kernel
theorem d_Hi_record_30 : decode c_Hi_record 30 = .ok (.aload_n 0, 1) := by decide +kernel
theorem d_Hi_record_31 : decode c_Hi_record 31 = .ok (.aload_n 0, 1) := by decide +kernel
theorem d_Hi_record_32 : decode c_Hi_record 32 = .ok (.getfield 17, 3) := by decide +kernel
theorem d_Hi_record_35 : decode c_Hi_record 35 = .ok (.iconst 1, 1) := by decide +kernel
theorem d_Hi_record_36 : decode c_Hi_record 36 = .ok (.iadd, 1) := by decide +kernel
theorem d_Hi_record_37 : decode c_Hi_record 37 = .ok (.bipush 7, 2) := by decide +kernel
theorem d_Hi_record_39 : decode c_Hi_record 39 = .ok (.irem, 1) := by decide +kernel
theorem d_Hi_record_40 : decode c_Hi_record 40 = .ok (.putfield 17, 3) := by decide +kernel
theorem d_Hi_record_43 : decode c_Hi_record 43 = .ok (.iload_n 1, 1) := by decide +kernel
theorem d_Hi_record_44 : decode c_Hi_record 44 = .ok (.ireturn, 1) := by decide +kernel
theorem d_Hi_prepare_0 : decode c_Hi_prepare 0 = .ok (.aload_n 0, 1) := by decide +kernel
theorem d_Hi_prepare_1 : decode c_Hi_prepare 1 = .ok (.getfield 13, 3) := by decide +kernel
theorem d_Hi_prepare_4 : decode c_Hi_prepare 4 = .ok (.aload_n 0, 1) := by decide +kernel
theorem d_Hi_prepare_5 : decode c_Hi_prepare 5 = .ok (.getfield 17, 3) := by decide +kernel
theorem d_Hi_prepare_8 : decode c_Hi_prepare 8 = .ok (.aload_n 0, 1) := by decide +kernel
theorem d_Hi_prepare_9 : decode c_Hi_prepare 9 = .ok (.getfield 21, 3) := by decide +kernel
theorem d_Hi_prepare_12 : decode c_Hi_prepare 12 = .ok (.iadd, 1) := by decide +kernel
theorem d_Hi_prepare_13 : decode c_Hi_prepare 13 = .ok (.bipush 7, 2) := by decide +kernel
theorem d_Hi_prepare_15 : decode c_Hi_prepare 15 = .ok (.irem, 1) := by decide +kernel
theorem d_Hi_prepare_16 : decode c_Hi_prepare 16 = .ok (.aaload, 1) := by decide +kernel
theorem d_Hi_prepare_17 : decode c_Hi_prepare 17 = .ok (.astore_n 2, 1) := by decide +kernel
theorem d_Hi_prepare_18 : decode c_Hi_prepare 18 = .ok (.aload_n 2, 1) := by decide +kernel
theorem d_Hi_prepare_19 : decode c_Hi_prepare 19 = .ok (.ifnull 8, 3) := by decide +kernel
theorem d_Hi_prepare_22 : decode c_Hi_prepare 22 = .ok (.aload_n 2, 1) := by decide +kernel
theorem d_Hi_prepare_23 : decode c_Hi_prepare 23 = .ok (.aload_n 1, 1) := by decide +kernel
theorem d_Hi_prepare_24 : decode c_Hi_prepare 24 = .ok (.invokevirtual 25, 3) := by decide +kernel
theorem d_Hi_prepare_27 : decode c_Hi_prepare 27 = .ok (.return_, 1) := by decide +kernel
theorem d_Hi_takeBack_0 : decode c_Hi_takeBack 0 = .ok (.aload_n 0, 1) := by decide +kernel
theorem d_Hi_takeBack_1 : decode c_Hi_takeBack 1 = .ok (.getfield 21, 3) := by decide +kernel
theorem d_Hi_takeBack_4 : decode c_Hi_takeBack 4 = .ok (.ifCond .le 40, 3) := by decide +kernel
theorem d_Hi_takeBack_7 : decode c_Hi_takeBack 7 = .ok (.aload_n 0, 1) := by decide +kernel
theorem d_Hi_takeBack_8 : decode c_Hi_takeBack 8 = .ok (.dup, 1) := by decide +kernel
theorem d_Hi_takeBack_9 : decode c_Hi_takeBack 9 = .ok (.getfield 21, 3) := by decide +kernel
theorem d_Hi_takeBack_12 : decode c_Hi_takeBack 12 = .ok (.iconst 1, 1) := by decide +kernel
theorem d_Hi_takeBack_13 : decode c_Hi_takeBack 13 = .ok (.isub, 1) := by decide +kernel
theorem d_Hi_takeBack_14 : decode c_Hi_takeBack 14 = .ok (.putfield 21, 3) := by decide +kernel
theorem d_Hi_takeBack_17 : decode c_Hi_takeBack 17 = .ok (.aload_n 0, 1) := by decide +kernel
theorem d_Hi_takeBack_18 : decode c_Hi_takeBack 18 = .ok (.getfield 13, 3) := by decide +kernel
theorem d_Hi_takeBack_21 : decode c_Hi_takeBack 21 = .ok (.aload_n 0, 1) := by decide +kernel
theorem d_Hi_takeBack_22 : decode c_Hi_takeBack 22 = .ok (.getfield 17, 3) := by decide +kernel
theorem d_Hi_takeBack_25 : decode c_Hi_takeBack 25 = .ok (.aload_n 0, 1) := by decide +kernel
theorem d_Hi_takeBack_26 : decode c_Hi_takeBack 26 = .ok (.getfield 21, 3) := by decide +kernel
theorem d_Hi_takeBack_29 : decode c_Hi_takeBack 29 = .ok (.iadd, 1) := by decide +kernel
theorem d_Hi_takeBack_30 : decode c_Hi_takeBack 30 = .ok (.bipush 7, 2) := by decide +kernel
theorem d_Hi_takeBack_32 : decode c_Hi_takeBack 32 = .ok (.irem, 1) := by decide +kernel
theorem d_Hi_takeBack_33 : decode c_Hi_takeBack 33 = .ok (.aaload, 1) := by decide +kernel
theorem d_Hi_takeBack_34 : decode c_Hi_takeBack 34 = .ok (.astore_n 2, 1) := by decide +kernel
theorem d_Hi_takeBack_35 : decode c_Hi_takeBack 35 = .ok (.aload_n 2, 1) := by decide +kernel
theorem d_Hi_takeBack_36 : decode c_Hi_takeBack 36 = .ok (.ifnull 8, 3) := by decide +kernel
theorem d_Hi_takeBack_39 : decode c_Hi_takeBack 39 = .ok (.aload_n 1, 1) := by decide +kernel
theorem d_Hi_takeBack_40 : decode c_Hi_takeBack 40 = .ok (.aload_n 2, 1) := by decide +kernel
theorem d_Hi_takeBack_41 : decode c_Hi_takeBack 41 = .ok (.invokevirtual 25, 3) := by decide +kernel
theorem d_Hi_takeBack_44 : decode c_Hi_takeBack 44 = .ok (.return_, 1) := by decide +kernel

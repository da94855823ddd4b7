theorem d_Fd_tryFlood_0 : decode c_Fd_tryFlood 0 = .ok (.aload_n 0, 1) := by decide +kernel
theorem d_Fd_tryFlood_1 : decode c_Fd_tryFlood 1 = .ok (.getfield 16, 3) := by decide +kernel
theorem d_Fd_tryFlood_4 : decode c_Fd_tryFlood 4 = .ok (.aload_n 0, 1) := by decide +kernel
theorem d_Fd_tryFlood_5 : decode c_Fd_tryFlood 5 = .ok (.getfield 12, 3) := by decide +kernel
theorem d_Fd_tryFlood_8 : decode c_Fd_tryFlood 8 = .ok (.invokevirtual 138, 3) := by decide +kernel
theorem d_Fd_tryFlood_11 : decode c_Fd_tryFlood 11 = .ok (.aload_n 0, 1) := by decide +kernel
theorem d_Fd_tryFlood_12 : decode c_Fd_tryFlood 12 = .ok (.getfield 16, 3) := by decide +kernel
theorem d_Fd_tryFlood_15 : decode c_Fd_tryFlood 15 = .ok (.getfield 134, 3) := by decide +kernel
theorem d_Fd_tryFlood_18 : decode c_Fd_tryFlood 18 = .ok (.ifCond .ne 11, 3) := by decide +kernel
theorem d_Fd_tryFlood_21 : decode c_Fd_tryFlood 21 = .ok (.aload_n 0, 1) := by decide +kernel
theorem d_Fd_tryFlood_22 : decode c_Fd_tryFlood 22 = .ok (.getfield 16, 3) := by decide +kernel
theorem d_Fd_tryFlood_25 : decode c_Fd_tryFlood 25 = .ok (.invokevirtual 75, 3) := by decide +kernel
theorem d_Fd_tryFlood_28 : decode c_Fd_tryFlood 28 = .ok (.pop, 1) := by decide +kernel
theorem d_Fd_tryFlood_29 : decode c_Fd_tryFlood 29 = .ok (.return_, 1) := by decide +kernel
theorem d_Fd_begin_0 : decode c_Fd_begin 0 = .ok (.aload_n 0, 1) := by decide +kernel
theorem d_Fd_begin_1 : decode c_Fd_begin 1 = .ok (.getfield 22, 3) := by decide +kernel
theorem d_Fd_begin_4 : decode c_Fd_begin 4 = .ok (.aload_n 0, 1) := by decide +kernel
theorem d_Fd_begin_5 : decode c_Fd_begin 5 = .ok (.getfield 12, 3) := by decide +kernel
theorem d_Fd_begin_8 : decode c_Fd_begin 8 = .ok (.invokevirtual 47, 3) := by decide +kernel
theorem d_Fd_begin_11 : decode c_Fd_begin 11 = .ok (.aload_n 0, 1) := by decide +kernel
theorem d_Fd_begin_12 : decode c_Fd_begin 12 = .ok (.getfield 22, 3) := by decide +kernel
theorem d_Fd_begin_15 : decode c_Fd_begin 15 = .ok (.aload_n 0, 1) := by decide +kernel
theorem d_Fd_begin_16 : decode c_Fd_begin 16 = .ok (.getfield 12, 3) := by decide +kernel
theorem d_Fd_begin_19 : decode c_Fd_begin 19 = .ok (.invokevirtual 51, 3) := by decide +kernel
theorem d_Fd_begin_22 : decode c_Fd_begin 22 = .ok (.invokevirtual 55, 3) := by decide +kernel
theorem d_Fd_begin_25 : decode c_Fd_begin 25 = .ok (.ireturn, 1) := by decide +kernel
theorem d_Fd_write_0 : decode c_Fd_write 0 = .ok (.aload_n 0, 1) := by decide +kernel
theorem d_Fd_write_1 : decode c_Fd_write 1 = .ok (.getfield 22, 3) := by decide +kernel
theorem d_Fd_write_4 : decode c_Fd_write 4 = .ok (.aload_n 0, 1) := by decide +kernel
theorem d_Fd_write_5 : decode c_Fd_write 5 = .ok (.getfield 12, 3) := by decide +kernel
theorem d_Fd_write_8 : decode c_Fd_write 8 = .ok (.invokevirtual 47, 3) := by decide +kernel
theorem d_Fd_write_11 : decode c_Fd_write 11 = .ok (.aload_n 0, 1) := by decide +kernel
theorem d_Fd_write_12 : decode c_Fd_write 12 = .ok (.getfield 22, 3) := by decide +kernel
theorem d_Fd_write_15 : decode c_Fd_write 15 = .ok (.aload_n 0, 1) := by decide +kernel
theorem d_Fd_write_16 : decode c_Fd_write 16 = .ok (.getfield 12, 3) := by decide +kernel
theorem d_Fd_write_19 : decode c_Fd_write 19 = .ok (.iload_n 1, 1) := by decide +kernel
theorem d_Fd_write_20 : decode c_Fd_write 20 = .ok (.iload_n 2, 1) := by decide +kernel
theorem d_Fd_write_21 : decode c_Fd_write 21 = .ok (.iload_n 3, 1) := by decide +kernel
theorem d_Fd_write_22 : decode c_Fd_write 22 = .ok (.invokevirtual 59, 3) := by decide +kernel
theorem d_Fd_write_25 : decode c_Fd_write 25 = .ok (.invokevirtual 55, 3) := by decide +kernel
theorem d_Fd_write_28 : decode c_Fd_write 28 = .ok (.ireturn, 1) := by decide +kernel
theorem d_Fd_finish_0 : decode c_Fd_finish 0 = .ok (.aload_n 0, 1) := by decide +kernel
theorem d_Fd_finish_1 : decode c_Fd_finish 1 = .ok (.getfield 22, 3) := by decide +kernel
theorem d_Fd_finish_4 : decode c_Fd_finish 4 = .ok (.aload_n 0, 1) := by decide +kernel
theorem d_Fd_finish_5 : decode c_Fd_finish 5 = .ok (.getfield 12, 3) := by decide +kernel
theorem d_Fd_finish_8 : decode c_Fd_finish 8 = .ok (.invokevirtual 47, 3) := by decide +kernel
theorem d_Fd_finish_11 : decode c_Fd_finish 11 = .ok (.aload_n 0, 1) := by decide +kernel
theorem d_Fd_finish_12 : decode c_Fd_finish 12 = .ok (.getfield 22, 3) := by decide +kernel
theorem d_Fd_finish_15 : decode c_Fd_finish 15 = .ok (.aload_n 0, 1) := by decide +kernel
theorem d_Fd_finish_16 : decode c_Fd_finish 16 = .ok (.getfield 12, 3) := by decide +kernel
theorem d_Fd_finish_19 : decode c_Fd_finish 19 = .ok (.iload_n 1, 1) := by decide +kernel
theorem d_Fd_finish_20 : decode c_Fd_finish 20 = .ok (.invokevirtual 63, 3) := by decide +kernel
theorem d_Fd_finish_23 : decode c_Fd_finish 23 = .ok (.invokevirtual 55, 3) := by decide +kernel
theorem d_Fd_finish_26 : decode c_Fd_finish 26 = .ok (.ireturn, 1) := by decide +kernel
theorem d_Fd_tear_0 : decode c_Fd_tear 0 = .ok (.aload_n 0, 1) := by decide +kernel
theorem d_Fd_tear_1 : decode c_Fd_tear 1 = .ok (.getfield 22, 3) := by decide +kernel
theorem d_Fd_tear_4 : decode c_Fd_tear 4 = .ok (.aload_n 0, 1) := by decide +kernel
theorem d_Fd_tear_5 : decode c_Fd_tear 5 = .ok (.getfield 12, 3) := by decide +kernel
theorem d_Fd_tear_8 : decode c_Fd_tear 8 = .ok (.invokevirtual 47, 3) := by decide +kernel
theorem d_Fd_tear_11 : decode c_Fd_tear 11 = .ok (.aload_n 0, 1) := by decide +kernel
theorem d_Fd_tear_12 : decode c_Fd_tear 12 = .ok (.getfield 22, 3) := by decide +kernel
theorem d_Fd_tear_15 : decode c_Fd_tear 15 = .ok (.aload_n 0, 1) := by decide +kernel
theorem d_Fd_tear_16 : decode c_Fd_tear 16 = .ok (.getfield 12, 3) := by decide +kernel
theorem d_Fd_tear_19 : decode c_Fd_tear 19 = .ok (.iload_n 1, 1) := by decide +kernel
theorem d_Fd_tear_20 : decode c_Fd_tear 20 = .ok (.invokevirtual 66, 3) := by decide +kernel
theorem d_Fd_tear_23 : decode c_Fd_tear 23 = .ok (.invokevirtual 55, 3) := by decide +kernel
theorem d_Fd_tear_26 : decode c_Fd_tear 26 = .ok (.ireturn, 1) := by decide +kernel
theorem d_Fd_save_0 : decode c_Fd_save 0 = .ok (.aload_n 0, 1) := by decide +kernel
theorem d_Fd_save_1 : decode c_Fd_save 1 = .ok (.getfield 22, 3) := by decide +kernel
theorem d_Fd_save_4 : decode c_Fd_save 4 = .ok (.aload_n 0, 1) := by decide +kernel
theorem d_Fd_save_5 : decode c_Fd_save 5 = .ok (.getfield 12, 3) := by decide +kernel
theorem d_Fd_save_8 : decode c_Fd_save 8 = .ok (.invokevirtual 47, 3) := by decide +kernel
theorem d_Fd_save_11 : decode c_Fd_save 11 = .ok (.aload_n 0, 1) := by decide +kernel
theorem d_Fd_save_12 : decode c_Fd_save 12 = .ok (.getfield 22, 3) := by decide +kernel
theorem d_Fd_save_15 : decode c_Fd_save 15 = .ok (.aload_n 0, 1) := by decide +kernel
theorem d_Fd_save_16 : decode c_Fd_save 16 = .ok (.getfield 12, 3) := by decide +kernel
theorem d_Fd_save_19 : decode c_Fd_save 19 = .ok (.iload_n 1, 1) := by decide +kernel
theorem d_Fd_save_20 : decode c_Fd_save 20 = .ok (.invokevirtual 69, 3) := by decide +kernel
theorem d_Fd_save_23 : decode c_Fd_save 23 = .ok (.invokevirtual 55, 3) := by decide +kernel
theorem d_Fd_save_26 : decode c_Fd_save 26 = .ok (.ireturn, 1) := by decide +kernel
theorem d_Fd_putAway_0 : decode c_Fd_putAway 0 = .ok (.aload_n 0, 1) := by decide +kernel
theorem d_Fd_putAway_1 : decode c_Fd_putAway 1 = .ok (.getfield 22, 3) := by decide +kernel
theorem d_Fd_putAway_4 : decode c_Fd_putAway 4 = .ok (.aload_n 0, 1) := by decide +kernel
theorem d_Fd_putAway_5 : decode c_Fd_putAway 5 = .ok (.getfield 12, 3) := by decide +kernel
theorem d_Fd_putAway_8 : decode c_Fd_putAway 8 = .ok (.invokevirtual 47, 3) := by decide +kernel
theorem d_Fd_putAway_11 : decode c_Fd_putAway 11 = .ok (.aload_n 0, 1) := by decide +kernel
theorem d_Fd_putAway_12 : decode c_Fd_putAway 12 = .ok (.getfield 22, 3) := by decide +kernel
theorem d_Fd_putAway_15 : decode c_Fd_putAway 15 = .ok (.aload_n 0, 1) := by decide +kernel
theorem d_Fd_putAway_16 : decode c_Fd_putAway 16 = .ok (.getfield 12, 3) := by decide +kernel
theorem d_Fd_putAway_19 : decode c_Fd_putAway 19 = .ok (.iload_n 1, 1) := by decide +kernel
theorem d_Fd_putAway_20 : decode c_Fd_putAway 20 = .ok (.invokevirtual 72, 3) := by decide +kernel
theorem d_Fd_putAway_23 : decode c_Fd_putAway 23 = .ok (.invokevirtual 55, 3) := by decide +kernel
theorem d_Fd_putAway_26 : decode c_Fd_putAway 26 = .ok (.ireturn, 1) := by decide +kernel
theorem d_Fd_flood_0 : decode c_Fd_flood 0 = .ok (.aload_n 0, 1) := by decide +kernel
theorem d_Fd_flood_1 : decode c_Fd_flood 1 = .ok (.getfield 22, 3) := by decide +kernel
theorem d_Fd_flood_4 : decode c_Fd_flood 4 = .ok (.aload_n 0, 1) := by decide +kernel
theorem d_Fd_flood_5 : decode c_Fd_flood 5 = .ok (.getfield 12, 3) := by decide +kernel
theorem d_Fd_flood_8 : decode c_Fd_flood 8 = .ok (.invokevirtual 47, 3) := by decide +kernel
theorem d_Fd_flood_11 : decode c_Fd_flood 11 = .ok (.aload_n 0, 1) := by decide +kernel
theorem d_Fd_flood_12 : decode c_Fd_flood 12 = .ok (.getfield 22, 3) := by decide +kernel
theorem d_Fd_flood_15 : decode c_Fd_flood 15 = .ok (.aload_n 0, 1) := by decide +kernel
theorem d_Fd_flood_16 : decode c_Fd_flood 16 = .ok (.getfield 12, 3) := by decide +kernel
theorem d_Fd_flood_19 : decode c_Fd_flood 19 = .ok (.invokevirtual 75, 3) := by decide +kernel
theorem d_Fd_flood_22 : decode c_Fd_flood 22 = .ok (.invokevirtual 55, 3) := by decide +kernel
theorem d_Fd_flood_25 : decode c_Fd_flood 25 = .ok (.ireturn, 1) := by decide +kernel
theorem d_Fd_blur_0 : decode c_Fd_blur 0 = .ok (.aload_n 0, 1) := by decide +kernel
theorem d_Fd_blur_1 : decode c_Fd_blur 1 = .ok (.getfield 22, 3) := by decide +kernel
theorem d_Fd_blur_4 : decode c_Fd_blur 4 = .ok (.aload_n 0, 1) := by decide +kernel
theorem d_Fd_blur_5 : decode c_Fd_blur 5 = .ok (.getfield 12, 3) := by decide +kernel
theorem d_Fd_blur_8 : decode c_Fd_blur 8 = .ok (.invokevirtual 47, 3) := by decide +kernel
theorem d_Fd_blur_11 : decode c_Fd_blur 11 = .ok (.aload_n 0, 1) := by decide +kernel
theorem d_Fd_blur_12 : decode c_Fd_blur 12 = .ok (.getfield 22, 3) := by decide +kernel
theorem d_Fd_blur_15 : decode c_Fd_blur 15 = .ok (.aload_n 0, 1) := by decide +kernel
theorem d_Fd_blur_16 : decode c_Fd_blur 16 = .ok (.getfield 12, 3) := by decide +kernel
theorem d_Fd_blur_19 : decode c_Fd_blur 19 = .ok (.iload_n 1, 1) := by decide +kernel
theorem d_Fd_blur_20 : decode c_Fd_blur 20 = .ok (.invokevirtual 78, 3) := by decide +kernel
theorem d_Fd_blur_23 : decode c_Fd_blur 23 = .ok (.invokevirtual 55, 3) := by decide +kernel
theorem d_Fd_blur_26 : decode c_Fd_blur 26 = .ok (.ireturn, 1) := by decide +kernel
theorem d_Fd_mend_0 : decode c_Fd_mend 0 = .ok (.aload_n 0, 1) := by decide +kernel
theorem d_Fd_mend_1 : decode c_Fd_mend 1 = .ok (.getfield 22, 3) := by decide +kernel
theorem d_Fd_mend_4 : decode c_Fd_mend 4 = .ok (.aload_n 0, 1) := by decide +kernel
theorem d_Fd_mend_5 : decode c_Fd_mend 5 = .ok (.getfield 12, 3) := by decide +kernel
theorem d_Fd_mend_8 : decode c_Fd_mend 8 = .ok (.invokevirtual 47, 3) := by decide +kernel
theorem d_Fd_mend_11 : decode c_Fd_mend 11 = .ok (.aload_n 0, 1) := by decide +kernel
theorem d_Fd_mend_12 : decode c_Fd_mend 12 = .ok (.getfield 22, 3) := by decide +kernel
theorem d_Fd_mend_15 : decode c_Fd_mend 15 = .ok (.aload_n 0, 1) := by decide +kernel
theorem d_Fd_mend_16 : decode c_Fd_mend 16 = .ok (.getfield 12, 3) := by decide +kernel
theorem d_Fd_mend_19 : decode c_Fd_mend 19 = .ok (.iload_n 1, 1) := by decide +kernel
theorem d_Fd_mend_20 : decode c_Fd_mend 20 = .ok (.invokevirtual 81, 3) := by decide +kernel
theorem d_Fd_mend_23 : decode c_Fd_mend 23 = .ok (.invokevirtual 55, 3) := by decide +kernel
theorem d_Fd_mend_26 : decode c_Fd_mend 26 = .ok (.ireturn, 1) := by decide +kernel
theorem d_Fd_ofPage_0 : decode c_Fd_ofPage 0 = .ok (.aload_n 0, 1) := by decide +kernel
theorem d_Fd_ofPage_1 : decode c_Fd_ofPage 1 = .ok (.getfield 12, 3) := by decide +kernel
theorem d_Fd_ofPage_4 : decode c_Fd_ofPage 4 = .ok (.iload_n 1, 1) := by decide +kernel
theorem d_Fd_ofPage_5 : decode c_Fd_ofPage 5 = .ok (.iload_n 2, 1) := by decide +kernel
theorem d_Fd_ofPage_6 : decode c_Fd_ofPage 6 = .ok (.invokevirtual 84, 3) := by decide +kernel
theorem d_Fd_ofPage_9 : decode c_Fd_ofPage 9 = .ok (.ireturn, 1) := by decide +kernel
theorem d_Fd_ofWork_0 : decode c_Fd_ofWork 0 = .ok (.aload_n 0, 1) := by decide +kernel
theorem d_Fd_ofWork_1 : decode c_Fd_ofWork 1 = .ok (.getfield 12, 3) := by decide +kernel
theorem d_Fd_ofWork_4 : decode c_Fd_ofWork 4 = .ok (.getfield 88, 3) := by decide +kernel
theorem d_Fd_ofWork_7 : decode c_Fd_ofWork 7 = .ok (.iload_n 1, 1) := by decide +kernel
theorem d_Fd_ofWork_8 : decode c_Fd_ofWork 8 = .ok (.iload_n 2, 1) := by decide +kernel
theorem d_Fd_ofWork_9 : decode c_Fd_ofWork 9 = .ok (.invokevirtual 92, 3) := by decide +kernel
theorem d_Fd_ofWork_12 : decode c_Fd_ofWork 12 = .ok (.ireturn, 1) := by decide +kernel
theorem d_Fd_ofEntry_0 : decode c_Fd_ofEntry 0 = .ok (.aload_n 0, 1) := by decide +kernel
theorem d_Fd_ofEntry_1 : decode c_Fd_ofEntry 1 = .ok (.getfield 12, 3) := by decide +kernel
theorem d_Fd_ofEntry_4 : decode c_Fd_ofEntry 4 = .ok (.getfield 97, 3) := by decide +kernel
theorem d_Fd_ofEntry_7 : decode c_Fd_ofEntry 7 = .ok (.iload_n 1, 1) := by decide +kernel
theorem d_Fd_ofEntry_8 : decode c_Fd_ofEntry 8 = .ok (.iload_n 2, 1) := by decide +kernel
theorem d_Fd_ofEntry_9 : decode c_Fd_ofEntry 9 = .ok (.invokevirtual 101, 3) := by decide +kernel
theorem d_Fd_ofEntry_12 : decode c_Fd_ofEntry 12 = .ok (.ireturn, 1) := by decide +kernel
theorem d_Fd_count_0 : decode c_Fd_count 0 = .ok (.iload_n 1, 1) := by decide +kernel
theorem d_Fd_count_1 : decode c_Fd_count 1 = .ok (.lookupswitch 43 #[(9, 27), (10, 35)], 27) := by decide +kernel
theorem d_Fd_count_28 : decode c_Fd_count 28 = .ok (.aload_n 0, 1) := by decide +kernel
theorem d_Fd_count_29 : decode c_Fd_count 29 = .ok (.getfield 36, 3) := by decide +kernel
theorem d_Fd_count_32 : decode c_Fd_count 32 = .ok (.invokevirtual 104, 3) := by decide +kernel
theorem d_Fd_count_35 : decode c_Fd_count 35 = .ok (.ireturn, 1) := by decide +kernel
theorem d_Fd_count_36 : decode c_Fd_count 36 = .ok (.aload_n 0, 1) := by decide +kernel
theorem d_Fd_count_37 : decode c_Fd_count 37 = .ok (.getfield 22, 3) := by decide +kernel
theorem d_Fd_count_40 : decode c_Fd_count 40 = .ok (.invokevirtual 107, 3) := by decide +kernel
theorem d_Fd_count_43 : decode c_Fd_count 43 = .ok (.ireturn, 1) := by decide +kernel
theorem d_Fd_count_44 : decode c_Fd_count 44 = .ok (.aload_n 0, 1) := by decide +kernel
theorem d_Fd_count_45 : decode c_Fd_count 45 = .ok (.getfield 12, 3) := by decide +kernel
theorem d_Fd_count_48 : decode c_Fd_count 48 = .ok (.iload_n 1, 1) := by decide +kernel
theorem d_Fd_count_49 : decode c_Fd_count 49 = .ok (.invokevirtual 108, 3) := by decide +kernel
theorem d_Fd_count_52 : decode c_Fd_count 52 = .ok (.ireturn, 1) := by decide +kernel
theorem d_Fd_stepsToMend_0 : decode c_Fd_stepsToMend 0 = .ok (.aload_n 0, 1) := by decide +kernel
theorem d_Fd_stepsToMend_1 : decode c_Fd_stepsToMend 1 = .ok (.invokevirtual 111, 3) := by decide +kernel
theorem d_Fd_stepsToMend_4 : decode c_Fd_stepsToMend 4 = .ok (.aload_n 0, 1) := by decide +kernel
theorem d_Fd_stepsToMend_5 : decode c_Fd_stepsToMend 5 = .ok (.getfield 16, 3) := by decide +kernel
theorem d_Fd_stepsToMend_8 : decode c_Fd_stepsToMend 8 = .ok (.sipush 999, 3) := by decide +kernel
theorem d_Fd_stepsToMend_11 : decode c_Fd_stepsToMend 11 = .ok (.invokevirtual 81, 3) := by decide +kernel
theorem d_Fd_stepsToMend_14 : decode c_Fd_stepsToMend 14 = .ok (.ireturn, 1) := by decide +kernel
theorem d_Fd_wouldBe_0 : decode c_Fd_wouldBe 0 = .ok (.iload_n 1, 1) := by decide +kernel
theorem d_Fd_wouldBe_1 : decode c_Fd_wouldBe 1 = .ok (.invokestatic 114, 3) := by decide +kernel
theorem d_Fd_wouldBe_4 : decode c_Fd_wouldBe 4 = .ok (.ifCond .ne 5, 3) := by decide +kernel
theorem d_Fd_wouldBe_7 : decode c_Fd_wouldBe 7 = .ok (.iconst (-1), 1) := by decide +kernel
theorem d_Fd_wouldBe_8 : decode c_Fd_wouldBe 8 = .ok (.ireturn, 1) := by decide +kernel
theorem d_Fd_wouldBe_9 : decode c_Fd_wouldBe 9 = .ok (.aload_n 0, 1) := by decide +kernel
theorem d_Fd_wouldBe_10 : decode c_Fd_wouldBe 10 = .ok (.invokevirtual 111, 3) := by decide +kernel
theorem d_Fd_wouldBe_13 : decode c_Fd_wouldBe 13 = .ok (.aload_n 0, 1) := by decide +kernel
theorem d_Fd_wouldBe_14 : decode c_Fd_wouldBe 14 = .ok (.getfield 16, 3) := by decide +kernel
theorem d_Fd_wouldBe_17 : decode c_Fd_wouldBe 17 = .ok (.sipush 999, 3) := by decide +kernel
theorem d_Fd_wouldBe_20 : decode c_Fd_wouldBe 20 = .ok (.invokevirtual 81, 3) := by decide +kernel
theorem d_Fd_wouldBe_23 : decode c_Fd_wouldBe 23 = .ok (.pop, 1) := by decide +kernel
theorem d_Fd_wouldBe_24 : decode c_Fd_wouldBe 24 = .ok (.aload_n 0, 1) := by decide +kernel
theorem d_Fd_wouldBe_25 : decode c_Fd_wouldBe 25 = .ok (.getfield 16, 3) := by decide +kernel
theorem d_Fd_wouldBe_28 : decode c_Fd_wouldBe 28 = .ok (.getfield 118, 3) := by decide +kernel
theorem d_Fd_wouldBe_31 : decode c_Fd_wouldBe 31 = .ok (.iload_n 1, 1) := by decide +kernel
theorem d_Fd_wouldBe_32 : decode c_Fd_wouldBe 32 = .ok (.invokevirtual 122, 3) := by decide +kernel
theorem d_Fd_wouldBe_35 : decode c_Fd_wouldBe 35 = .ok (.aload_n 0, 1) := by decide +kernel
theorem d_Fd_wouldBe_36 : decode c_Fd_wouldBe 36 = .ok (.getfield 16, 3) := by decide +kernel
theorem d_Fd_wouldBe_39 : decode c_Fd_wouldBe 39 = .ok (.getfield 118, 3) := by decide +kernel
theorem d_Fd_wouldBe_42 : decode c_Fd_wouldBe 42 = .ok (.iload_n 1, 1) := by decide +kernel
theorem d_Fd_wouldBe_43 : decode c_Fd_wouldBe 43 = .ok (.invokevirtual 128, 3) := by decide +kernel
theorem d_Fd_wouldBe_46 : decode c_Fd_wouldBe 46 = .ok (.ireturn, 1) := by decide +kernel
theorem d_Fd_firstNeeded_0 : decode c_Fd_firstNeeded 0 = .ok (.aload_n 0, 1) := by decide +kernel
theorem d_Fd_firstNeeded_1 : decode c_Fd_firstNeeded 1 = .ok (.getfield 12, 3) := by decide +kernel
theorem d_Fd_firstNeeded_4 : decode c_Fd_firstNeeded 4 = .ok (.invokevirtual 131, 3) := by decide +kernel
theorem d_Fd_firstNeeded_7 : decode c_Fd_firstNeeded 7 = .ok (.ireturn, 1) := by decide +kernel
theorem d_Fd_settled_0 : decode c_Fd_settled 0 = .ok (.iload_n 1, 1) := by decide +kernel
theorem d_Fd_settled_1 : decode c_Fd_settled 1 = .ok (.invokestatic 114, 3) := by decide +kernel
theorem d_Fd_settled_4 : decode c_Fd_settled 4 = .ok (.ifCond .ne 5, 3) := by decide +kernel
theorem d_Fd_settled_7 : decode c_Fd_settled 7 = .ok (.iconst (-1), 1) := by decide +kernel
theorem d_Fd_settled_8 : decode c_Fd_settled 8 = .ok (.ireturn, 1) := by decide +kernel
theorem d_Fd_settled_9 : decode c_Fd_settled 9 = .ok (.aload_n 0, 1) := by decide +kernel
theorem d_Fd_settled_10 : decode c_Fd_settled 10 = .ok (.getfield 12, 3) := by decide +kernel
theorem d_Fd_settled_13 : decode c_Fd_settled 13 = .ok (.getfield 134, 3) := by decide +kernel
theorem d_Fd_settled_16 : decode c_Fd_settled 16 = .ok (.ifCond .eq 6, 3) := by decide +kernel
theorem d_Fd_settled_19 : decode c_Fd_settled 19 = .ok (.bipush (-5), 2) := by decide +kernel
theorem d_Fd_settled_21 : decode c_Fd_settled 21 = .ok (.ireturn, 1) := by decide +kernel
theorem d_Fd_settled_22 : decode c_Fd_settled 22 = .ok (.aload_n 0, 1) := by decide +kernel
theorem d_Fd_settled_23 : decode c_Fd_settled 23 = .ok (.getfield 16, 3) := by decide +kernel
theorem d_Fd_settled_26 : decode c_Fd_settled 26 = .ok (.aload_n 0, 1) := by decide +kernel
theorem d_Fd_settled_27 : decode c_Fd_settled 27 = .ok (.getfield 12, 3) := by decide +kernel
theorem d_Fd_settled_30 : decode c_Fd_settled 30 = .ok (.invokevirtual 138, 3) := by decide +kernel
theorem d_Fd_settled_33 : decode c_Fd_settled 33 = .ok (.aload_n 0, 1) := by decide +kernel
theorem d_Fd_settled_34 : decode c_Fd_settled 34 = .ok (.getfield 16, 3) := by decide +kernel
theorem d_Fd_settled_37 : decode c_Fd_settled 37 = .ok (.invokevirtual 141, 3) := by decide +kernel
theorem d_Fd_settled_40 : decode c_Fd_settled 40 = .ok (.aload_n 0, 1) := by decide +kernel
theorem d_Fd_settled_41 : decode c_Fd_settled 41 = .ok (.getfield 16, 3) := by decide +kernel
theorem d_Fd_settled_44 : decode c_Fd_settled 44 = .ok (.getfield 118, 3) := by decide +kernel
theorem d_Fd_settled_47 : decode c_Fd_settled 47 = .ok (.iload_n 1, 1) := by decide +kernel
theorem d_Fd_settled_48 : decode c_Fd_settled 48 = .ok (.invokevirtual 122, 3) := by decide +kernel
theorem d_Fd_settled_51 : decode c_Fd_settled 51 = .ok (.aload_n 0, 1) := by decide +kernel
theorem d_Fd_settled_52 : decode c_Fd_settled 52 = .ok (.getfield 16, 3) := by decide +kernel
theorem d_Fd_settled_55 : decode c_Fd_settled 55 = .ok (.getfield 118, 3) := by decide +kernel
theorem d_Fd_settled_58 : decode c_Fd_settled 58 = .ok (.iload_n 1, 1) := by decide +kernel
theorem d_Fd_settled_59 : decode c_Fd_settled 59 = .ok (.invokevirtual 128, 3) := by decide +kernel
theorem d_Fd_settled_62 : decode c_Fd_settled 62 = .ok (.ireturn, 1) := by decide +kernel
theorem d_Fd_put_0 : decode c_Fd_put 0 = .ok (.lload_n 1, 1) := by decide +kernel
theorem d_Fd_put_1 : decode c_Fd_put 1 = .ok (.invokestatic 144, 3) := by decide +kernel
theorem d_Fd_put_4 : decode c_Fd_put 4 = .ok (.istore_n 3, 1) := by decide +kernel
theorem d_Fd_put_5 : decode c_Fd_put 5 = .ok (.iload_n 3, 1) := by decide +kernel
theorem d_Fd_put_6 : decode c_Fd_put 6 = .ok (.ifCond .ne 6, 3) := by decide +kernel
theorem d_Fd_put_9 : decode c_Fd_put 9 = .ok (.bipush (-2), 2) := by decide +kernel
theorem d_Fd_put_11 : decode c_Fd_put 11 = .ok (.ireturn, 1) := by decide +kernel
theorem d_Fd_put_12 : decode c_Fd_put 12 = .ok (.aload_n 0, 1) := by decide +kernel
theorem d_Fd_put_13 : decode c_Fd_put 13 = .ok (.getfield 36, 3) := by decide +kernel
theorem d_Fd_put_16 : decode c_Fd_put 16 = .ok (.iload_n 3, 1) := by decide +kernel
theorem d_Fd_put_17 : decode c_Fd_put 17 = .ok (.invokevirtual 148, 3) := by decide +kernel
theorem d_Fd_put_20 : decode c_Fd_put 20 = .ok (.ifCond .ne 6, 3) := by decide +kernel
theorem d_Fd_put_23 : decode c_Fd_put 23 = .ok (.bipush (-4), 2) := by decide +kernel
theorem d_Fd_put_25 : decode c_Fd_put 25 = .ok (.ireturn, 1) := by decide +kernel
theorem d_Fd_put_26 : decode c_Fd_put 26 = .ok (.aload_n 0, 1) := by decide +kernel
theorem d_Fd_put_27 : decode c_Fd_put 27 = .ok (.getfield 36, 3) := by decide +kernel
theorem d_Fd_put_30 : decode c_Fd_put 30 = .ok (.lload_n 1, 1) := by decide +kernel
theorem d_Fd_put_31 : decode c_Fd_put 31 = .ok (.iload_n 3, 1) := by decide +kernel
theorem d_Fd_put_32 : decode c_Fd_put 32 = .ok (.invokevirtual 151, 3) := by decide +kernel
theorem d_Fd_put_35 : decode c_Fd_put 35 = .ok (.aload_n 0, 1) := by decide +kernel
theorem d_Fd_put_36 : decode c_Fd_put 36 = .ok (.getfield 36, 3) := by decide +kernel
theorem d_Fd_put_39 : decode c_Fd_put 39 = .ok (.invokevirtual 104, 3) := by decide +kernel
theorem d_Fd_put_42 : decode c_Fd_put 42 = .ok (.ireturn, 1) := by decide +kernel
theorem d_Fd_wipe_0 : decode c_Fd_wipe 0 = .ok (.aload_n 0, 1) := by decide +kernel
theorem d_Fd_wipe_1 : decode c_Fd_wipe 1 = .ok (.getfield 36, 3) := by decide +kernel
theorem d_Fd_wipe_4 : decode c_Fd_wipe 4 = .ok (.invokevirtual 104, 3) := by decide +kernel
theorem d_Fd_wipe_7 : decode c_Fd_wipe 7 = .ok (.istore_n 1, 1) := by decide +kernel
theorem d_Fd_wipe_8 : decode c_Fd_wipe 8 = .ok (.aload_n 0, 1) := by decide +kernel
theorem d_Fd_wipe_9 : decode c_Fd_wipe 9 = .ok (.getfield 36, 3) := by decide +kernel
theorem d_Fd_wipe_12 : decode c_Fd_wipe 12 = .ok (.invokevirtual 155, 3) := by decide +kernel
theorem d_Fd_wipe_15 : decode c_Fd_wipe 15 = .ok (.iload_n 1, 1) := by decide +kernel
theorem d_Fd_wipe_16 : decode c_Fd_wipe 16 = .ok (.ireturn, 1) := by decide +kernel
theorem d_Fd_fault_0 : decode c_Fd_fault 0 = .ok (.aload_n 0, 1) := by decide +kernel
theorem d_Fd_fault_1 : decode c_Fd_fault 1 = .ok (.getfield 43, 3) := by decide +kernel
theorem d_Fd_fault_4 : decode c_Fd_fault 4 = .ok (.aload_n 0, 1) := by decide +kernel
theorem d_Fd_fault_5 : decode c_Fd_fault 5 = .ok (.getfield 36, 3) := by decide +kernel
theorem d_Fd_fault_8 : decode c_Fd_fault 8 = .ok (.invokevirtual 158, 3) := by decide +kernel
theorem d_Fd_fault_11 : decode c_Fd_fault 11 = .ok (.aload_n 0, 1) := by decide +kernel
theorem d_Fd_fault_12 : decode c_Fd_fault 12 = .ok (.getfield 43, 3) := by decide +kernel
theorem d_Fd_fault_15 : decode c_Fd_fault 15 = .ok (.invokevirtual 162, 3) := by decide +kernel
theorem d_Fd_fault_18 : decode c_Fd_fault 18 = .ok (.ireturn, 1) := by decide +kernel
theorem d_Fd_carryOut_0 : decode c_Fd_carryOut 0 = .ok (.aload_n 0, 1) := by decide +kernel
theorem d_Fd_carryOut_1 : decode c_Fd_carryOut 1 = .ok (.getfield 43, 3) := by decide +kernel
theorem d_Fd_carryOut_4 : decode c_Fd_carryOut 4 = .ok (.aload_n 0, 1) := by decide +kernel
theorem d_Fd_carryOut_5 : decode c_Fd_carryOut 5 = .ok (.getfield 36, 3) := by decide +kernel
theorem d_Fd_carryOut_8 : decode c_Fd_carryOut 8 = .ok (.invokevirtual 158, 3) := by decide +kernel
theorem d_Fd_carryOut_11 : decode c_Fd_carryOut 11 = .ok (.aload_n 0, 1) := by decide +kernel
theorem d_Fd_carryOut_12 : decode c_Fd_carryOut 12 = .ok (.getfield 43, 3) := by decide +kernel
theorem d_Fd_carryOut_15 : decode c_Fd_carryOut 15 = .ok (.invokevirtual 162, 3) := by decide +kernel
theorem d_Fd_carryOut_18 : decode c_Fd_carryOut 18 = .ok (.bipush (-6), 2) := by decide +kernel
theorem d_Fd_carryOut_20 : decode c_Fd_carryOut 20 = .ok (.if_icmp .eq 6, 3) := by decide +kernel
theorem d_Fd_carryOut_23 : decode c_Fd_carryOut 23 = .ok (.bipush (-3), 2) := by decide +kernel
theorem d_Fd_carryOut_25 : decode c_Fd_carryOut 25 = .ok (.ireturn, 1) := by decide +kernel
theorem d_Fd_carryOut_26 : decode c_Fd_carryOut 26 = .ok (.aload_n 0, 1) := by decide +kernel
theorem d_Fd_carryOut_27 : decode c_Fd_carryOut 27 = .ok (.getfield 22, 3) := by decide +kernel
theorem d_Fd_carryOut_30 : decode c_Fd_carryOut 30 = .ok (.aload_n 0, 1) := by decide +kernel
theorem d_Fd_carryOut_31 : decode c_Fd_carryOut 31 = .ok (.getfield 12, 3) := by decide +kernel
theorem d_Fd_carryOut_34 : decode c_Fd_carryOut 34 = .ok (.invokevirtual 47, 3) := by decide +kernel
theorem d_Fd_carryOut_37 : decode c_Fd_carryOut 37 = .ok (.iconst 0, 1) := by decide +kernel
theorem d_Fd_carryOut_38 : decode c_Fd_carryOut 38 = .ok (.istore_n 1, 1) := by decide +kernel
theorem d_Fd_carryOut_39 : decode c_Fd_carryOut 39 = .ok (.iload_n 1, 1) := by decide +kernel
theorem d_Fd_carryOut_40 : decode c_Fd_carryOut 40 = .ok (.aload_n 0, 1) := by decide +kernel
theorem d_Fd_carryOut_41 : decode c_Fd_carryOut 41 = .ok (.getfield 43, 3) := by decide +kernel
theorem d_Fd_carryOut_44 : decode c_Fd_carryOut 44 = .ok (.invokevirtual 165, 3) := by decide +kernel
theorem d_Fd_carryOut_47 : decode c_Fd_carryOut 47 = .ok (.if_icmp .ge 24, 3) := by decide +kernel
theorem d_Fd_carryOut_50 : decode c_Fd_carryOut 50 = .ok (.aload_n 0, 1) := by decide +kernel
theorem d_Fd_carryOut_51 : decode c_Fd_carryOut 51 = .ok (.getfield 43, 3) := by decide +kernel
theorem d_Fd_carryOut_54 : decode c_Fd_carryOut 54 = .ok (.iload_n 1, 1) := by decide +kernel
theorem d_Fd_carryOut_55 : decode c_Fd_carryOut 55 = .ok (.aload_n 0, 1) := by decide +kernel
theorem d_Fd_carryOut_56 : decode c_Fd_carryOut 56 = .ok (.getfield 12, 3) := by decide +kernel
theorem d_Fd_carryOut_59 : decode c_Fd_carryOut 59 = .ok (.invokevirtual 166, 3) := by decide +kernel
theorem d_Fd_carryOut_62 : decode c_Fd_carryOut 62 = .ok (.ifCond .lt 9, 3) := by decide +kernel
theorem d_Fd_carryOut_65 : decode c_Fd_carryOut 65 = .ok (.iinc 1 1, 3) := by decide +kernel
theorem d_Fd_carryOut_68 : decode c_Fd_carryOut 68 = .ok (.goto (-29), 3) := by decide +kernel
theorem d_Fd_carryOut_71 : decode c_Fd_carryOut 71 = .ok (.aload_n 0, 1) := by decide +kernel
theorem d_Fd_carryOut_72 : decode c_Fd_carryOut 72 = .ok (.getfield 36, 3) := by decide +kernel
theorem d_Fd_carryOut_75 : decode c_Fd_carryOut 75 = .ok (.invokevirtual 155, 3) := by decide +kernel
theorem d_Fd_carryOut_78 : decode c_Fd_carryOut 78 = .ok (.aload_n 0, 1) := by decide +kernel
theorem d_Fd_carryOut_79 : decode c_Fd_carryOut 79 = .ok (.getfield 22, 3) := by decide +kernel
theorem d_Fd_carryOut_82 : decode c_Fd_carryOut 82 = .ok (.iload_n 1, 1) := by decide +kernel
theorem d_Fd_carryOut_83 : decode c_Fd_carryOut 83 = .ok (.invokevirtual 55, 3) := by decide +kernel
theorem d_Fd_carryOut_86 : decode c_Fd_carryOut 86 = .ok (.ireturn, 1) := by decide +kernel
theorem d_Fd_undo_0 : decode c_Fd_undo 0 = .ok (.aload_n 0, 1) := by decide +kernel
theorem d_Fd_undo_1 : decode c_Fd_undo 1 = .ok (.getfield 22, 3) := by decide +kernel
theorem d_Fd_undo_4 : decode c_Fd_undo 4 = .ok (.invokevirtual 107, 3) := by decide +kernel
theorem d_Fd_undo_7 : decode c_Fd_undo 7 = .ok (.ifCond .ne 6, 3) := by decide +kernel
theorem d_Fd_undo_10 : decode c_Fd_undo 10 = .ok (.bipush (-5), 2) := by decide +kernel
theorem d_Fd_undo_12 : decode c_Fd_undo 12 = .ok (.ireturn, 1) := by decide +kernel
theorem d_Fd_undo_13 : decode c_Fd_undo 13 = .ok (.aload_n 0, 1) := by decide +kernel
theorem d_Fd_undo_14 : decode c_Fd_undo 14 = .ok (.getfield 22, 3) := by decide +kernel
theorem d_Fd_undo_17 : decode c_Fd_undo 17 = .ok (.aload_n 0, 1) := by decide +kernel
theorem d_Fd_undo_18 : decode c_Fd_undo 18 = .ok (.getfield 12, 3) := by decide +kernel
theorem d_Fd_undo_21 : decode c_Fd_undo 21 = .ok (.invokevirtual 170, 3) := by decide +kernel
theorem d_Fd_undo_24 : decode c_Fd_undo 24 = .ok (.aload_n 0, 1) := by decide +kernel
theorem d_Fd_undo_25 : decode c_Fd_undo 25 = .ok (.getfield 22, 3) := by decide +kernel
theorem d_Fd_undo_28 : decode c_Fd_undo 28 = .ok (.invokevirtual 107, 3) := by decide +kernel
theorem d_Fd_undo_31 : decode c_Fd_undo 31 = .ok (.ireturn, 1) := by decide +kernel

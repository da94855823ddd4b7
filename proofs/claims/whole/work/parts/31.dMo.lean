theorem d_Md_record_0 : decode c_Md_record 0 = .ok (.aload_n 0, 1) := by decide +kernel
theorem d_Md_record_1 : decode c_Md_record 1 = .ok (.getfield 29, 3) := by decide +kernel
theorem d_Md_record_4 : decode c_Md_record 4 = .ok (.bipush 6, 2) := by decide +kernel
theorem d_Md_record_6 : decode c_Md_record 6 = .ok (.if_icmp .ne 44, 3) := by decide +kernel
theorem d_Md_record_9 : decode c_Md_record 9 = .ok (.iconst 0, 1) := by decide +kernel
theorem d_Md_record_10 : decode c_Md_record 10 = .ok (.istore_n 1, 1) := by decide +kernel
theorem d_Md_record_11 : decode c_Md_record 11 = .ok (.iload_n 1, 1) := by decide +kernel
theorem d_Md_record_12 : decode c_Md_record 12 = .ok (.sipush 12000, 3) := by decide +kernel
theorem d_Md_record_15 : decode c_Md_record 15 = .ok (.if_icmp .ge 25, 3) := by decide +kernel
theorem d_Md_record_18 : decode c_Md_record 18 = .ok (.aload_n 0, 1) := by decide +kernel
theorem d_Md_record_19 : decode c_Md_record 19 = .ok (.getfield 16, 3) := by decide +kernel
theorem d_Md_record_22 : decode c_Md_record 22 = .ok (.iload_n 1, 1) := by decide +kernel
theorem d_Md_record_23 : decode c_Md_record 23 = .ok (.aload_n 0, 1) := by decide +kernel
theorem d_Md_record_24 : decode c_Md_record 24 = .ok (.getfield 16, 3) := by decide +kernel
theorem d_Md_record_27 : decode c_Md_record 27 = .ok (.iload_n 1, 1) := by decide +kernel
theorem d_Md_record_28 : decode c_Md_record 28 = .ok (.sipush 2400, 3) := by decide +kernel
theorem d_Md_record_31 : decode c_Md_record 31 = .ok (.iadd, 1) := by decide +kernel
theorem d_Md_record_32 : decode c_Md_record 32 = .ok (.iaload, 1) := by decide +kernel
theorem d_Md_record_33 : decode c_Md_record 33 = .ok (.iastore, 1) := by decide +kernel
theorem d_Md_record_34 : decode c_Md_record 34 = .ok (.iinc 1 1, 3) := by decide +kernel
theorem d_Md_record_37 : decode c_Md_record 37 = .ok (.goto (-26), 3) := by decide +kernel
theorem d_Md_record_40 : decode c_Md_record 40 = .ok (.aload_n 0, 1) := by decide +kernel
theorem d_Md_record_41 : decode c_Md_record 41 = .ok (.dup, 1) := by decide +kernel
theorem d_Md_record_42 : decode c_Md_record 42 = .ok (.getfield 29, 3) := by decide +kernel
theorem d_Md_record_45 : decode c_Md_record 45 = .ok (.iconst 1, 1) := by decide +kernel
theorem d_Md_record_46 : decode c_Md_record 46 = .ok (.isub, 1) := by decide +kernel
theorem d_Md_record_47 : decode c_Md_record 47 = .ok (.putfield 29, 3) := by decide +kernel
theorem d_Md_record_50 : decode c_Md_record 50 = .ok (.aload_n 0, 1) := by decide +kernel
theorem d_Md_record_51 : decode c_Md_record 51 = .ok (.getfield 7, 3) := by decide +kernel
theorem d_Md_record_54 : decode c_Md_record 54 = .ok (.iconst 0, 1) := by decide +kernel
theorem d_Md_record_55 : decode c_Md_record 55 = .ok (.aload_n 0, 1) := by decide +kernel
theorem d_Md_record_56 : decode c_Md_record 56 = .ok (.getfield 16, 3) := by decide +kernel
theorem d_Md_record_59 : decode c_Md_record 59 = .ok (.sipush 2400, 3) := by decide +kernel
theorem d_Md_record_62 : decode c_Md_record 62 = .ok (.aload_n 0, 1) := by decide +kernel
theorem d_Md_record_63 : decode c_Md_record 63 = .ok (.getfield 29, 3) := by decide +kernel
theorem d_Md_record_66 : decode c_Md_record 66 = .ok (.imul, 1) := by decide +kernel
theorem d_Md_record_67 : decode c_Md_record 67 = .ok (.invokestatic 86, 3) := by decide +kernel
theorem d_Md_record_70 : decode c_Md_record 70 = .ok (.aload_n 0, 1) := by decide +kernel
theorem d_Md_record_71 : decode c_Md_record 71 = .ok (.dup, 1) := by decide +kernel
theorem d_Md_record_72 : decode c_Md_record 72 = .ok (.getfield 29, 3) := by decide +kernel
theorem d_Md_record_75 : decode c_Md_record 75 = .ok (.iconst 1, 1) := by decide +kernel
theorem d_Md_record_76 : decode c_Md_record 76 = .ok (.iadd, 1) := by decide +kernel
theorem d_Md_record_77 : decode c_Md_record 77 = .ok (.putfield 29, 3) := by decide +kernel
theorem d_Md_record_80 : decode c_Md_record 80 = .ok (.return_, 1) := by decide +kernel
theorem d_Md_begin_0 : decode c_Md_begin 0 = .ok (.aload_n 0, 1) := by decide +kernel
theorem d_Md_begin_1 : decode c_Md_begin 1 = .ok (.getfield 7, 3) := by decide +kernel
theorem d_Md_begin_4 : decode c_Md_begin 4 = .ok (.invokestatic 90, 3) := by decide +kernel
theorem d_Md_begin_7 : decode c_Md_begin 7 = .ok (.istore_n 1, 1) := by decide +kernel
theorem d_Md_begin_8 : decode c_Md_begin 8 = .ok (.iload_n 1, 1) := by decide +kernel
theorem d_Md_begin_9 : decode c_Md_begin 9 = .ok (.ifCond .eq 5, 3) := by decide +kernel
theorem d_Md_begin_12 : decode c_Md_begin 12 = .ok (.iload_n 1, 1) := by decide +kernel
theorem d_Md_begin_13 : decode c_Md_begin 13 = .ok (.ireturn, 1) := by decide +kernel
theorem d_Md_begin_14 : decode c_Md_begin 14 = .ok (.aload_n 0, 1) := by decide +kernel
theorem d_Md_begin_15 : decode c_Md_begin 15 = .ok (.invokevirtual 93, 3) := by decide +kernel
theorem d_Md_begin_18 : decode c_Md_begin 18 = .ok (.aload_n 0, 1) := by decide +kernel
theorem d_Md_begin_19 : decode c_Md_begin 19 = .ok (.getfield 7, 3) := by decide +kernel
theorem d_Md_begin_22 : decode c_Md_begin 22 = .ok (.invokestatic 96, 3) := by decide +kernel
theorem d_Md_begin_25 : decode c_Md_begin 25 = .ok (.ireturn, 1) := by decide +kernel
theorem d_Md_write_0 : decode c_Md_write 0 = .ok (.aload_n 0, 1) := by decide +kernel
theorem d_Md_write_1 : decode c_Md_write 1 = .ok (.getfield 7, 3) := by decide +kernel
theorem d_Md_write_4 : decode c_Md_write 4 = .ok (.iload_n 1, 1) := by decide +kernel
theorem d_Md_write_5 : decode c_Md_write 5 = .ok (.iload_n 2, 1) := by decide +kernel
theorem d_Md_write_6 : decode c_Md_write 6 = .ok (.iload_n 3, 1) := by decide +kernel
theorem d_Md_write_7 : decode c_Md_write 7 = .ok (.invokestatic 115, 3) := by decide +kernel
theorem d_Md_write_10 : decode c_Md_write 10 = .ok (.istore 4, 2) := by decide +kernel
theorem d_Md_write_12 : decode c_Md_write 12 = .ok (.iload 4, 2) := by decide +kernel
theorem d_Md_write_14 : decode c_Md_write 14 = .ok (.ifCond .eq 6, 3) := by decide +kernel
theorem d_Md_write_17 : decode c_Md_write 17 = .ok (.iload 4, 2) := by decide +kernel
theorem d_Md_write_19 : decode c_Md_write 19 = .ok (.ireturn, 1) := by decide +kernel
theorem d_Md_write_20 : decode c_Md_write 20 = .ok (.aload_n 0, 1) := by decide +kernel
theorem d_Md_write_21 : decode c_Md_write 21 = .ok (.invokevirtual 93, 3) := by decide +kernel
theorem d_Md_write_24 : decode c_Md_write 24 = .ok (.aload_n 0, 1) := by decide +kernel
theorem d_Md_write_25 : decode c_Md_write 25 = .ok (.getfield 7, 3) := by decide +kernel
theorem d_Md_write_28 : decode c_Md_write 28 = .ok (.iload_n 1, 1) := by decide +kernel
theorem d_Md_write_29 : decode c_Md_write 29 = .ok (.iload_n 2, 1) := by decide +kernel
theorem d_Md_write_30 : decode c_Md_write 30 = .ok (.iload_n 3, 1) := by decide +kernel
theorem d_Md_write_31 : decode c_Md_write 31 = .ok (.invokestatic 119, 3) := by decide +kernel
theorem d_Md_write_34 : decode c_Md_write 34 = .ok (.ireturn, 1) := by decide +kernel
theorem d_Md_finish_0 : decode c_Md_finish 0 = .ok (.aload_n 0, 1) := by decide +kernel
theorem d_Md_finish_1 : decode c_Md_finish 1 = .ok (.getfield 7, 3) := by decide +kernel
theorem d_Md_finish_4 : decode c_Md_finish 4 = .ok (.iload_n 1, 1) := by decide +kernel
theorem d_Md_finish_5 : decode c_Md_finish 5 = .ok (.invokestatic 125, 3) := by decide +kernel
theorem d_Md_finish_8 : decode c_Md_finish 8 = .ok (.istore_n 2, 1) := by decide +kernel
theorem d_Md_finish_9 : decode c_Md_finish 9 = .ok (.iload_n 2, 1) := by decide +kernel
theorem d_Md_finish_10 : decode c_Md_finish 10 = .ok (.ifCond .eq 5, 3) := by decide +kernel
theorem d_Md_finish_13 : decode c_Md_finish 13 = .ok (.iload_n 2, 1) := by decide +kernel
theorem d_Md_finish_14 : decode c_Md_finish 14 = .ok (.ireturn, 1) := by decide +kernel
theorem d_Md_finish_15 : decode c_Md_finish 15 = .ok (.aload_n 0, 1) := by decide +kernel
theorem d_Md_finish_16 : decode c_Md_finish 16 = .ok (.invokevirtual 93, 3) := by decide +kernel
theorem d_Md_finish_19 : decode c_Md_finish 19 = .ok (.aload_n 0, 1) := by decide +kernel
theorem d_Md_finish_20 : decode c_Md_finish 20 = .ok (.getfield 7, 3) := by decide +kernel
theorem d_Md_finish_23 : decode c_Md_finish 23 = .ok (.iload_n 1, 1) := by decide +kernel
theorem d_Md_finish_24 : decode c_Md_finish 24 = .ok (.invokestatic 128, 3) := by decide +kernel
theorem d_Md_finish_27 : decode c_Md_finish 27 = .ok (.ireturn, 1) := by decide +kernel
theorem d_Md_tear_0 : decode c_Md_tear 0 = .ok (.aload_n 0, 1) := by decide +kernel
theorem d_Md_tear_1 : decode c_Md_tear 1 = .ok (.getfield 7, 3) := by decide +kernel
theorem d_Md_tear_4 : decode c_Md_tear 4 = .ok (.iload_n 1, 1) := by decide +kernel
theorem d_Md_tear_5 : decode c_Md_tear 5 = .ok (.invokestatic 134, 3) := by decide +kernel
theorem d_Md_tear_8 : decode c_Md_tear 8 = .ok (.istore_n 2, 1) := by decide +kernel
theorem d_Md_tear_9 : decode c_Md_tear 9 = .ok (.iload_n 2, 1) := by decide +kernel
theorem d_Md_tear_10 : decode c_Md_tear 10 = .ok (.ifCond .eq 5, 3) := by decide +kernel
theorem d_Md_tear_13 : decode c_Md_tear 13 = .ok (.iload_n 2, 1) := by decide +kernel
theorem d_Md_tear_14 : decode c_Md_tear 14 = .ok (.ireturn, 1) := by decide +kernel
theorem d_Md_tear_15 : decode c_Md_tear 15 = .ok (.aload_n 0, 1) := by decide +kernel
theorem d_Md_tear_16 : decode c_Md_tear 16 = .ok (.invokevirtual 93, 3) := by decide +kernel
theorem d_Md_tear_19 : decode c_Md_tear 19 = .ok (.aload_n 0, 1) := by decide +kernel
theorem d_Md_tear_20 : decode c_Md_tear 20 = .ok (.getfield 7, 3) := by decide +kernel
theorem d_Md_tear_23 : decode c_Md_tear 23 = .ok (.iload_n 1, 1) := by decide +kernel
theorem d_Md_tear_24 : decode c_Md_tear 24 = .ok (.invokestatic 137, 3) := by decide +kernel
theorem d_Md_tear_27 : decode c_Md_tear 27 = .ok (.ireturn, 1) := by decide +kernel
theorem d_Md_save_0 : decode c_Md_save 0 = .ok (.aload_n 0, 1) := by decide +kernel
theorem d_Md_save_1 : decode c_Md_save 1 = .ok (.getfield 7, 3) := by decide +kernel
theorem d_Md_save_4 : decode c_Md_save 4 = .ok (.iload_n 1, 1) := by decide +kernel
theorem d_Md_save_5 : decode c_Md_save 5 = .ok (.invokestatic 140, 3) := by decide +kernel
theorem d_Md_save_8 : decode c_Md_save 8 = .ok (.istore_n 2, 1) := by decide +kernel
theorem d_Md_save_9 : decode c_Md_save 9 = .ok (.iload_n 2, 1) := by decide +kernel
theorem d_Md_save_10 : decode c_Md_save 10 = .ok (.ifCond .eq 5, 3) := by decide +kernel
theorem d_Md_save_13 : decode c_Md_save 13 = .ok (.iload_n 2, 1) := by decide +kernel
theorem d_Md_save_14 : decode c_Md_save 14 = .ok (.ireturn, 1) := by decide +kernel
theorem d_Md_save_15 : decode c_Md_save 15 = .ok (.aload_n 0, 1) := by decide +kernel
theorem d_Md_save_16 : decode c_Md_save 16 = .ok (.invokevirtual 93, 3) := by decide +kernel
theorem d_Md_save_19 : decode c_Md_save 19 = .ok (.aload_n 0, 1) := by decide +kernel
theorem d_Md_save_20 : decode c_Md_save 20 = .ok (.getfield 7, 3) := by decide +kernel
theorem d_Md_save_23 : decode c_Md_save 23 = .ok (.iload_n 1, 1) := by decide +kernel
theorem d_Md_save_24 : decode c_Md_save 24 = .ok (.invokestatic 122, 3) := by decide +kernel
theorem d_Md_save_27 : decode c_Md_save 27 = .ok (.aload_n 0, 1) := by decide +kernel
theorem d_Md_save_28 : decode c_Md_save 28 = .ok (.getfield 7, 3) := by decide +kernel
theorem d_Md_save_31 : decode c_Md_save 31 = .ok (.bipush 58, 2) := by decide +kernel
theorem d_Md_save_33 : decode c_Md_save 33 = .ok (.iaload, 1) := by decide +kernel
theorem d_Md_save_34 : decode c_Md_save 34 = .ok (.ireturn, 1) := by decide +kernel
theorem d_Md_putAway_0 : decode c_Md_putAway 0 = .ok (.aload_n 0, 1) := by decide +kernel
theorem d_Md_putAway_1 : decode c_Md_putAway 1 = .ok (.getfield 7, 3) := by decide +kernel
theorem d_Md_putAway_4 : decode c_Md_putAway 4 = .ok (.iload_n 1, 1) := by decide +kernel
theorem d_Md_putAway_5 : decode c_Md_putAway 5 = .ok (.invokestatic 143, 3) := by decide +kernel
theorem d_Md_putAway_8 : decode c_Md_putAway 8 = .ok (.istore_n 2, 1) := by decide +kernel
theorem d_Md_putAway_9 : decode c_Md_putAway 9 = .ok (.iload_n 2, 1) := by decide +kernel
theorem d_Md_putAway_10 : decode c_Md_putAway 10 = .ok (.ifCond .eq 5, 3) := by decide +kernel
theorem d_Md_putAway_13 : decode c_Md_putAway 13 = .ok (.iload_n 2, 1) := by decide +kernel
theorem d_Md_putAway_14 : decode c_Md_putAway 14 = .ok (.ireturn, 1) := by decide +kernel
theorem d_Md_putAway_15 : decode c_Md_putAway 15 = .ok (.aload_n 0, 1) := by decide +kernel
theorem d_Md_putAway_16 : decode c_Md_putAway 16 = .ok (.invokevirtual 93, 3) := by decide +kernel
theorem d_Md_putAway_19 : decode c_Md_putAway 19 = .ok (.aload_n 0, 1) := by decide +kernel
theorem d_Md_putAway_20 : decode c_Md_putAway 20 = .ok (.getfield 7, 3) := by decide +kernel
theorem d_Md_putAway_23 : decode c_Md_putAway 23 = .ok (.iload_n 1, 1) := by decide +kernel
theorem d_Md_putAway_24 : decode c_Md_putAway 24 = .ok (.invokestatic 146, 3) := by decide +kernel
theorem d_Md_putAway_27 : decode c_Md_putAway 27 = .ok (.ireturn, 1) := by decide +kernel
theorem d_Md_flood_0 : decode c_Md_flood 0 = .ok (.aload_n 0, 1) := by decide +kernel
theorem d_Md_flood_1 : decode c_Md_flood 1 = .ok (.invokevirtual 93, 3) := by decide +kernel
theorem d_Md_flood_4 : decode c_Md_flood 4 = .ok (.aload_n 0, 1) := by decide +kernel
theorem d_Md_flood_5 : decode c_Md_flood 5 = .ok (.getfield 7, 3) := by decide +kernel
theorem d_Md_flood_8 : decode c_Md_flood 8 = .ok (.invokestatic 149, 3) := by decide +kernel
theorem d_Md_flood_11 : decode c_Md_flood 11 = .ok (.ireturn, 1) := by decide +kernel
theorem d_Md_blur_0 : decode c_Md_blur 0 = .ok (.iload_n 1, 1) := by decide +kernel
theorem d_Md_blur_1 : decode c_Md_blur 1 = .ok (.i2l, 1) := by decide +kernel
theorem d_Md_blur_2 : decode c_Md_blur 2 = .ok (.lconst 1, 1) := by decide +kernel
theorem d_Md_blur_3 : decode c_Md_blur 3 = .ok (.ldc2_w 152, 3) := by decide +kernel
theorem d_Md_blur_6 : decode c_Md_blur 6 = .ok (.invokestatic 35, 3) := by decide +kernel
theorem d_Md_blur_9 : decode c_Md_blur 9 = .ok (.ifCond .ne 6, 3) := by decide +kernel
theorem d_Md_blur_12 : decode c_Md_blur 12 = .ok (.bipush (-2), 2) := by decide +kernel
theorem d_Md_blur_14 : decode c_Md_blur 14 = .ok (.ireturn, 1) := by decide +kernel
theorem d_Md_blur_15 : decode c_Md_blur 15 = .ok (.aload_n 0, 1) := by decide +kernel
theorem d_Md_blur_16 : decode c_Md_blur 16 = .ok (.getfield 7, 3) := by decide +kernel
theorem d_Md_blur_19 : decode c_Md_blur 19 = .ok (.bipush 57, 2) := by decide +kernel
theorem d_Md_blur_21 : decode c_Md_blur 21 = .ok (.iaload, 1) := by decide +kernel
theorem d_Md_blur_22 : decode c_Md_blur 22 = .ok (.iload_n 1, 1) := by decide +kernel
theorem d_Md_blur_23 : decode c_Md_blur 23 = .ok (.isub, 1) := by decide +kernel
theorem d_Md_blur_24 : decode c_Md_blur 24 = .ok (.istore_n 2, 1) := by decide +kernel
theorem d_Md_blur_25 : decode c_Md_blur 25 = .ok (.aload_n 0, 1) := by decide +kernel
theorem d_Md_blur_26 : decode c_Md_blur 26 = .ok (.getfield 7, 3) := by decide +kernel
theorem d_Md_blur_29 : decode c_Md_blur 29 = .ok (.bipush 66, 2) := by decide +kernel
theorem d_Md_blur_31 : decode c_Md_blur 31 = .ok (.iaload, 1) := by decide +kernel
theorem d_Md_blur_32 : decode c_Md_blur 32 = .ok (.iconst 1, 1) := by decide +kernel
theorem d_Md_blur_33 : decode c_Md_blur 33 = .ok (.if_icmp .ne 21, 3) := by decide +kernel
theorem d_Md_blur_36 : decode c_Md_blur 36 = .ok (.aload_n 0, 1) := by decide +kernel
theorem d_Md_blur_37 : decode c_Md_blur 37 = .ok (.getfield 7, 3) := by decide +kernel
theorem d_Md_blur_40 : decode c_Md_blur 40 = .ok (.bipush 60, 2) := by decide +kernel
theorem d_Md_blur_42 : decode c_Md_blur 42 = .ok (.iaload, 1) := by decide +kernel
theorem d_Md_blur_43 : decode c_Md_blur 43 = .ok (.ifCond .ne 11, 3) := by decide +kernel
theorem d_Md_blur_46 : decode c_Md_blur 46 = .ok (.iload_n 2, 1) := by decide +kernel
theorem d_Md_blur_47 : decode c_Md_blur 47 = .ok (.ifCond .lt 7, 3) := by decide +kernel
theorem d_Md_blur_50 : decode c_Md_blur 50 = .ok (.iconst 1, 1) := by decide +kernel
theorem d_Md_blur_51 : decode c_Md_blur 51 = .ok (.goto 4, 3) := by decide +kernel
theorem d_Md_blur_54 : decode c_Md_blur 54 = .ok (.iconst 0, 1) := by decide +kernel
theorem d_Md_blur_55 : decode c_Md_blur 55 = .ok (.istore_n 3, 1) := by decide +kernel
theorem d_Md_blur_56 : decode c_Md_blur 56 = .ok (.iconst 0, 1) := by decide +kernel
theorem d_Md_blur_57 : decode c_Md_blur 57 = .ok (.istore 4, 2) := by decide +kernel
theorem d_Md_blur_59 : decode c_Md_blur 59 = .ok (.iload 4, 2) := by decide +kernel
theorem d_Md_blur_61 : decode c_Md_blur 61 = .ok (.bipush 8, 2) := by decide +kernel
theorem d_Md_blur_63 : decode c_Md_blur 63 = .ok (.if_icmp .ge 33, 3) := by decide +kernel
theorem d_Md_blur_66 : decode c_Md_blur 66 = .ok (.iload_n 3, 1) := by decide +kernel
theorem d_Md_blur_67 : decode c_Md_blur 67 = .ok (.ifCond .eq 21, 3) := by decide +kernel
theorem d_Md_blur_70 : decode c_Md_blur 70 = .ok (.aload_n 0, 1) := by decide +kernel
theorem d_Md_blur_71 : decode c_Md_blur 71 = .ok (.getfield 7, 3) := by decide +kernel
theorem d_Md_blur_74 : decode c_Md_blur 74 = .ok (.bipush 8, 2) := by decide +kernel
theorem d_Md_blur_76 : decode c_Md_blur 76 = .ok (.iload 4, 2) := by decide +kernel
theorem d_Md_blur_78 : decode c_Md_blur 78 = .ok (.iadd, 1) := by decide +kernel
theorem d_Md_blur_79 : decode c_Md_blur 79 = .ok (.iaload, 1) := by decide +kernel
theorem d_Md_blur_80 : decode c_Md_blur 80 = .ok (.iload_n 2, 1) := by decide +kernel
theorem d_Md_blur_81 : decode c_Md_blur 81 = .ok (.if_icmp .gt 7, 3) := by decide +kernel
theorem d_Md_blur_84 : decode c_Md_blur 84 = .ok (.iconst 1, 1) := by decide +kernel
theorem d_Md_blur_85 : decode c_Md_blur 85 = .ok (.goto 4, 3) := by decide +kernel
theorem d_Md_blur_88 : decode c_Md_blur 88 = .ok (.iconst 0, 1) := by decide +kernel
theorem d_Md_blur_89 : decode c_Md_blur 89 = .ok (.istore_n 3, 1) := by decide +kernel
theorem d_Md_blur_90 : decode c_Md_blur 90 = .ok (.iinc 4 1, 3) := by decide +kernel
theorem d_Md_blur_93 : decode c_Md_blur 93 = .ok (.goto (-34), 3) := by decide +kernel
theorem d_Md_blur_96 : decode c_Md_blur 96 = .ok (.iload_n 3, 1) := by decide +kernel
theorem d_Md_blur_97 : decode c_Md_blur 97 = .ok (.ifCond .ne 6, 3) := by decide +kernel
theorem d_Md_blur_100 : decode c_Md_blur 100 = .ok (.bipush (-5), 2) := by decide +kernel
theorem d_Md_blur_102 : decode c_Md_blur 102 = .ok (.ireturn, 1) := by decide +kernel
theorem d_Md_blur_103 : decode c_Md_blur 103 = .ok (.aload_n 0, 1) := by decide +kernel
theorem d_Md_blur_104 : decode c_Md_blur 104 = .ok (.invokevirtual 93, 3) := by decide +kernel
theorem d_Md_blur_107 : decode c_Md_blur 107 = .ok (.aload_n 0, 1) := by decide +kernel
theorem d_Md_blur_108 : decode c_Md_blur 108 = .ok (.getfield 7, 3) := by decide +kernel
theorem d_Md_blur_111 : decode c_Md_blur 111 = .ok (.iload_n 2, 1) := by decide +kernel
theorem d_Md_blur_112 : decode c_Md_blur 112 = .ok (.invokestatic 68, 3) := by decide +kernel
theorem d_Md_blur_115 : decode c_Md_blur 115 = .ok (.iload_n 2, 1) := by decide +kernel
theorem d_Md_blur_116 : decode c_Md_blur 116 = .ok (.ireturn, 1) := by decide +kernel
theorem d_Md_mend_0 : decode c_Md_mend 0 = .ok (.iload_n 1, 1) := by decide +kernel
theorem d_Md_mend_1 : decode c_Md_mend 1 = .ok (.i2l, 1) := by decide +kernel
theorem d_Md_mend_2 : decode c_Md_mend 2 = .ok (.lconst 1, 1) := by decide +kernel
theorem d_Md_mend_3 : decode c_Md_mend 3 = .ok (.ldc2_w 107, 3) := by decide +kernel
theorem d_Md_mend_6 : decode c_Md_mend 6 = .ok (.invokestatic 35, 3) := by decide +kernel
theorem d_Md_mend_9 : decode c_Md_mend 9 = .ok (.ifCond .ne 6, 3) := by decide +kernel
theorem d_Md_mend_12 : decode c_Md_mend 12 = .ok (.bipush (-2), 2) := by decide +kernel
theorem d_Md_mend_14 : decode c_Md_mend 14 = .ok (.ireturn, 1) := by decide +kernel
theorem d_Md_mend_15 : decode c_Md_mend 15 = .ok (.aload_n 0, 1) := by decide +kernel
theorem d_Md_mend_16 : decode c_Md_mend 16 = .ok (.getfield 7, 3) := by decide +kernel
theorem d_Md_mend_19 : decode c_Md_mend 19 = .ok (.bipush 59, 2) := by decide +kernel
theorem d_Md_mend_21 : decode c_Md_mend 21 = .ok (.iaload, 1) := by decide +kernel
theorem d_Md_mend_22 : decode c_Md_mend 22 = .ok (.ifCond .ne 6, 3) := by decide +kernel
theorem d_Md_mend_25 : decode c_Md_mend 25 = .ok (.bipush (-5), 2) := by decide +kernel
theorem d_Md_mend_27 : decode c_Md_mend 27 = .ok (.ireturn, 1) := by decide +kernel
theorem d_Md_mend_28 : decode c_Md_mend 28 = .ok (.aload_n 0, 1) := by decide +kernel
theorem d_Md_mend_29 : decode c_Md_mend 29 = .ok (.invokevirtual 93, 3) := by decide +kernel
theorem d_Md_mend_32 : decode c_Md_mend 32 = .ok (.aload_n 0, 1) := by decide +kernel
theorem d_Md_mend_33 : decode c_Md_mend 33 = .ok (.getfield 7, 3) := by decide +kernel
theorem d_Md_mend_36 : decode c_Md_mend 36 = .ok (.iload_n 1, 1) := by decide +kernel
theorem d_Md_mend_37 : decode c_Md_mend 37 = .ok (.invokestatic 154, 3) := by decide +kernel
theorem d_Md_mend_40 : decode c_Md_mend 40 = .ok (.ireturn, 1) := by decide +kernel
theorem d_Md_isDirty_0 : decode c_Md_isDirty 0 = .ok (.aload_n 0, 1) := by decide +kernel
theorem d_Md_isDirty_1 : decode c_Md_isDirty 1 = .ok (.getfield 7, 3) := by decide +kernel
theorem d_Md_isDirty_4 : decode c_Md_isDirty 4 = .ok (.bipush 16, 2) := by decide +kernel
theorem d_Md_isDirty_6 : decode c_Md_isDirty 6 = .ok (.iload_n 1, 1) := by decide +kernel
theorem d_Md_isDirty_7 : decode c_Md_isDirty 7 = .ok (.iadd, 1) := by decide +kernel
theorem d_Md_isDirty_8 : decode c_Md_isDirty 8 = .ok (.iaload, 1) := by decide +kernel
theorem d_Md_isDirty_9 : decode c_Md_isDirty 9 = .ok (.iconst 1, 1) := by decide +kernel
theorem d_Md_isDirty_10 : decode c_Md_isDirty 10 = .ok (.if_icmp .ne 28, 3) := by decide +kernel
theorem d_Md_isDirty_13 : decode c_Md_isDirty 13 = .ok (.aload_n 0, 1) := by decide +kernel
theorem d_Md_isDirty_14 : decode c_Md_isDirty 14 = .ok (.getfield 7, 3) := by decide +kernel
theorem d_Md_isDirty_17 : decode c_Md_isDirty 17 = .ok (.bipush 32, 2) := by decide +kernel
theorem d_Md_isDirty_19 : decode c_Md_isDirty 19 = .ok (.iload_n 1, 1) := by decide +kernel
theorem d_Md_isDirty_20 : decode c_Md_isDirty 20 = .ok (.iadd, 1) := by decide +kernel
theorem d_Md_isDirty_21 : decode c_Md_isDirty 21 = .ok (.iaload, 1) := by decide +kernel
theorem d_Md_isDirty_22 : decode c_Md_isDirty 22 = .ok (.aload_n 0, 1) := by decide +kernel
theorem d_Md_isDirty_23 : decode c_Md_isDirty 23 = .ok (.getfield 7, 3) := by decide +kernel
theorem d_Md_isDirty_26 : decode c_Md_isDirty 26 = .ok (.bipush 8, 2) := by decide +kernel
theorem d_Md_isDirty_28 : decode c_Md_isDirty 28 = .ok (.iload_n 1, 1) := by decide +kernel
theorem d_Md_isDirty_29 : decode c_Md_isDirty 29 = .ok (.iadd, 1) := by decide +kernel
theorem d_Md_isDirty_30 : decode c_Md_isDirty 30 = .ok (.iaload, 1) := by decide +kernel
theorem d_Md_isDirty_31 : decode c_Md_isDirty 31 = .ok (.if_icmp .eq 7, 3) := by decide +kernel
theorem d_Md_isDirty_34 : decode c_Md_isDirty 34 = .ok (.iconst 1, 1) := by decide +kernel
theorem d_Md_isDirty_35 : decode c_Md_isDirty 35 = .ok (.goto 4, 3) := by decide +kernel
theorem d_Md_isDirty_38 : decode c_Md_isDirty 38 = .ok (.iconst 0, 1) := by decide +kernel
theorem d_Md_isDirty_39 : decode c_Md_isDirty 39 = .ok (.ireturn, 1) := by decide +kernel
theorem d_Md_ofPage_0 : decode c_Md_ofPage 0 = .ok (.iload_n 1, 1) := by decide +kernel
theorem d_Md_ofPage_1 : decode c_Md_ofPage 1 = .ok (.invokestatic 103, 3) := by decide +kernel
theorem d_Md_ofPage_4 : decode c_Md_ofPage 4 = .ok (.ifCond .ne 5, 3) := by decide +kernel
theorem d_Md_ofPage_7 : decode c_Md_ofPage 7 = .ok (.iconst (-1), 1) := by decide +kernel
theorem d_Md_ofPage_8 : decode c_Md_ofPage 8 = .ok (.ireturn, 1) := by decide +kernel
theorem d_Md_ofPage_9 : decode c_Md_ofPage 9 = .ok (.aload_n 0, 1) := by decide +kernel
theorem d_Md_ofPage_10 : decode c_Md_ofPage 10 = .ok (.getfield 7, 3) := by decide +kernel
theorem d_Md_ofPage_13 : decode c_Md_ofPage 13 = .ok (.bipush 16, 2) := by decide +kernel
theorem d_Md_ofPage_15 : decode c_Md_ofPage 15 = .ok (.iload_n 1, 1) := by decide +kernel
theorem d_Md_ofPage_16 : decode c_Md_ofPage 16 = .ok (.iadd, 1) := by decide +kernel
theorem d_Md_ofPage_17 : decode c_Md_ofPage 17 = .ok (.iaload, 1) := by decide +kernel
theorem d_Md_ofPage_18 : decode c_Md_ofPage 18 = .ok (.iconst 1, 1) := by decide +kernel
theorem d_Md_ofPage_19 : decode c_Md_ofPage 19 = .ok (.if_icmp .ne 7, 3) := by decide +kernel
theorem d_Md_ofPage_22 : decode c_Md_ofPage 22 = .ok (.iconst 1, 1) := by decide +kernel
theorem d_Md_ofPage_23 : decode c_Md_ofPage 23 = .ok (.goto 4, 3) := by decide +kernel
theorem d_Md_ofPage_26 : decode c_Md_ofPage 26 = .ok (.iconst 0, 1) := by decide +kernel
theorem d_Md_ofPage_27 : decode c_Md_ofPage 27 = .ok (.istore_n 3, 1) := by decide +kernel
theorem d_Md_ofPage_28 : decode c_Md_ofPage 28 = .ok (.iload_n 2, 1) := by decide +kernel
theorem d_Md_ofPage_29 : decode c_Md_ofPage 29 = .ok (.tableswitch 149 0 6 #[43, 52, 62, 72, 91, 110, 124], 43) := by decide +kernel
theorem d_Md_ofPage_72 : decode c_Md_ofPage 72 = .ok (.aload_n 0, 1) := by decide +kernel
theorem d_Md_ofPage_73 : decode c_Md_ofPage 73 = .ok (.getfield 7, 3) := by decide +kernel
theorem d_Md_ofPage_76 : decode c_Md_ofPage 76 = .ok (.iconst 0, 1) := by decide +kernel
theorem d_Md_ofPage_77 : decode c_Md_ofPage 77 = .ok (.iload_n 1, 1) := by decide +kernel
theorem d_Md_ofPage_78 : decode c_Md_ofPage 78 = .ok (.iadd, 1) := by decide +kernel
theorem d_Md_ofPage_79 : decode c_Md_ofPage 79 = .ok (.iaload, 1) := by decide +kernel
theorem d_Md_ofPage_80 : decode c_Md_ofPage 80 = .ok (.ireturn, 1) := by decide +kernel
theorem d_Md_ofPage_81 : decode c_Md_ofPage 81 = .ok (.aload_n 0, 1) := by decide +kernel
theorem d_Md_ofPage_82 : decode c_Md_ofPage 82 = .ok (.getfield 7, 3) := by decide +kernel
theorem d_Md_ofPage_85 : decode c_Md_ofPage 85 = .ok (.bipush 8, 2) := by decide +kernel
theorem d_Md_ofPage_87 : decode c_Md_ofPage 87 = .ok (.iload_n 1, 1) := by decide +kernel
theorem d_Md_ofPage_88 : decode c_Md_ofPage 88 = .ok (.iadd, 1) := by decide +kernel
theorem d_Md_ofPage_89 : decode c_Md_ofPage 89 = .ok (.iaload, 1) := by decide +kernel
theorem d_Md_ofPage_90 : decode c_Md_ofPage 90 = .ok (.ireturn, 1) := by decide +kernel
theorem d_Md_ofPage_91 : decode c_Md_ofPage 91 = .ok (.aload_n 0, 1) := by decide +kernel
theorem d_Md_ofPage_92 : decode c_Md_ofPage 92 = .ok (.getfield 7, 3) := by decide +kernel
theorem d_Md_ofPage_95 : decode c_Md_ofPage 95 = .ok (.bipush 16, 2) := by decide +kernel
theorem d_Md_ofPage_97 : decode c_Md_ofPage 97 = .ok (.iload_n 1, 1) := by decide +kernel
theorem d_Md_ofPage_98 : decode c_Md_ofPage 98 = .ok (.iadd, 1) := by decide +kernel
theorem d_Md_ofPage_99 : decode c_Md_ofPage 99 = .ok (.iaload, 1) := by decide +kernel
theorem d_Md_ofPage_100 : decode c_Md_ofPage 100 = .ok (.ireturn, 1) := by decide +kernel
theorem d_Md_ofPage_101 : decode c_Md_ofPage 101 = .ok (.iload_n 3, 1) := by decide +kernel
theorem d_Md_ofPage_102 : decode c_Md_ofPage 102 = .ok (.ifCond .eq 15, 3) := by decide +kernel
theorem d_Md_ofPage_105 : decode c_Md_ofPage 105 = .ok (.aload_n 0, 1) := by decide +kernel
theorem d_Md_ofPage_106 : decode c_Md_ofPage 106 = .ok (.getfield 7, 3) := by decide +kernel
theorem d_Md_ofPage_109 : decode c_Md_ofPage 109 = .ok (.bipush 24, 2) := by decide +kernel
theorem d_Md_ofPage_111 : decode c_Md_ofPage 111 = .ok (.iload_n 1, 1) := by decide +kernel
theorem d_Md_ofPage_112 : decode c_Md_ofPage 112 = .ok (.iadd, 1) := by decide +kernel
theorem d_Md_ofPage_113 : decode c_Md_ofPage 113 = .ok (.iaload, 1) := by decide +kernel
theorem d_Md_ofPage_114 : decode c_Md_ofPage 114 = .ok (.goto 5, 3) := by decide +kernel
theorem d_Md_ofPage_117 : decode c_Md_ofPage 117 = .ok (.bipush (-6), 2) := by decide +kernel
theorem d_Md_ofPage_119 : decode c_Md_ofPage 119 = .ok (.ireturn, 1) := by decide +kernel
theorem d_Md_ofPage_120 : decode c_Md_ofPage 120 = .ok (.iload_n 3, 1) := by decide +kernel
theorem d_Md_ofPage_121 : decode c_Md_ofPage 121 = .ok (.ifCond .eq 15, 3) := by decide +kernel
theorem d_Md_ofPage_124 : decode c_Md_ofPage 124 = .ok (.aload_n 0, 1) := by decide +kernel
theorem d_Md_ofPage_125 : decode c_Md_ofPage 125 = .ok (.getfield 7, 3) := by decide +kernel
theorem d_Md_ofPage_128 : decode c_Md_ofPage 128 = .ok (.bipush 32, 2) := by decide +kernel
theorem d_Md_ofPage_130 : decode c_Md_ofPage 130 = .ok (.iload_n 1, 1) := by decide +kernel
theorem d_Md_ofPage_131 : decode c_Md_ofPage 131 = .ok (.iadd, 1) := by decide +kernel
theorem d_Md_ofPage_132 : decode c_Md_ofPage 132 = .ok (.iaload, 1) := by decide +kernel
theorem d_Md_ofPage_133 : decode c_Md_ofPage 133 = .ok (.goto 5, 3) := by decide +kernel
theorem d_Md_ofPage_136 : decode c_Md_ofPage 136 = .ok (.bipush (-6), 2) := by decide +kernel
theorem d_Md_ofPage_138 : decode c_Md_ofPage 138 = .ok (.ireturn, 1) := by decide +kernel
theorem d_Md_ofPage_139 : decode c_Md_ofPage 139 = .ok (.aload_n 0, 1) := by decide +kernel
theorem d_Md_ofPage_140 : decode c_Md_ofPage 140 = .ok (.iload_n 1, 1) := by decide +kernel
theorem d_Md_ofPage_141 : decode c_Md_ofPage 141 = .ok (.invokevirtual 157, 3) := by decide +kernel
theorem d_Md_ofPage_144 : decode c_Md_ofPage 144 = .ok (.ifCond .eq 7, 3) := by decide +kernel
theorem d_Md_ofPage_147 : decode c_Md_ofPage 147 = .ok (.iconst 1, 1) := by decide +kernel
theorem d_Md_ofPage_148 : decode c_Md_ofPage 148 = .ok (.goto 4, 3) := by decide +kernel
theorem d_Md_ofPage_151 : decode c_Md_ofPage 151 = .ok (.iconst 0, 1) := by decide +kernel
theorem d_Md_ofPage_152 : decode c_Md_ofPage 152 = .ok (.ireturn, 1) := by decide +kernel
theorem d_Md_ofPage_153 : decode c_Md_ofPage 153 = .ok (.aload_n 0, 1) := by decide +kernel
theorem d_Md_ofPage_154 : decode c_Md_ofPage 154 = .ok (.getfield 7, 3) := by decide +kernel
theorem d_Md_ofPage_157 : decode c_Md_ofPage 157 = .ok (.bipush 59, 2) := by decide +kernel
theorem d_Md_ofPage_159 : decode c_Md_ofPage 159 = .ok (.iaload, 1) := by decide +kernel
theorem d_Md_ofPage_160 : decode c_Md_ofPage 160 = .ok (.iconst 1, 1) := by decide +kernel
theorem d_Md_ofPage_161 : decode c_Md_ofPage 161 = .ok (.if_icmp .ne 8, 3) := by decide +kernel
theorem d_Md_ofPage_164 : decode c_Md_ofPage 164 = .ok (.bipush (-6), 2) := by decide +kernel
theorem d_Md_ofPage_166 : decode c_Md_ofPage 166 = .ok (.goto 11, 3) := by decide +kernel
theorem d_Md_ofPage_169 : decode c_Md_ofPage 169 = .ok (.aload_n 0, 1) := by decide +kernel
theorem d_Md_ofPage_170 : decode c_Md_ofPage 170 = .ok (.getfield 7, 3) := by decide +kernel
theorem d_Md_ofPage_173 : decode c_Md_ofPage 173 = .ok (.iload_n 1, 1) := by decide +kernel
theorem d_Md_ofPage_174 : decode c_Md_ofPage 174 = .ok (.invokestatic 109, 3) := by decide +kernel
theorem d_Md_ofPage_177 : decode c_Md_ofPage 177 = .ok (.ireturn, 1) := by decide +kernel
theorem d_Md_ofPage_178 : decode c_Md_ofPage 178 = .ok (.bipush (-2), 2) := by decide +kernel
theorem d_Md_ofPage_180 : decode c_Md_ofPage 180 = .ok (.ireturn, 1) := by decide +kernel
theorem d_Md_ofWork_0 : decode c_Md_ofWork 0 = .ok (.aload_n 0, 1) := by decide +kernel
theorem d_Md_ofWork_1 : decode c_Md_ofWork 1 = .ok (.getfield 7, 3) := by decide +kernel
theorem d_Md_ofWork_4 : decode c_Md_ofWork 4 = .ok (.iload_n 1, 1) := by decide +kernel
theorem d_Md_ofWork_5 : decode c_Md_ofWork 5 = .ok (.invokestatic 99, 3) := by decide +kernel
theorem d_Md_ofWork_8 : decode c_Md_ofWork 8 = .ok (.ifCond .ne 5, 3) := by decide +kernel
theorem d_Md_ofWork_11 : decode c_Md_ofWork 11 = .ok (.iconst (-1), 1) := by decide +kernel
theorem d_Md_ofWork_12 : decode c_Md_ofWork 12 = .ok (.ireturn, 1) := by decide +kernel
theorem d_Md_ofWork_13 : decode c_Md_ofWork 13 = .ok (.aload_n 0, 1) := by decide +kernel
theorem d_Md_ofWork_14 : decode c_Md_ofWork 14 = .ok (.getfield 7, 3) := by decide +kernel
theorem d_Md_ofWork_17 : decode c_Md_ofWork 17 = .ok (.bipush 40, 2) := by decide +kernel
theorem d_Md_ofWork_19 : decode c_Md_ofWork 19 = .ok (.iload_n 1, 1) := by decide +kernel
theorem d_Md_ofWork_20 : decode c_Md_ofWork 20 = .ok (.iadd, 1) := by decide +kernel
theorem d_Md_ofWork_21 : decode c_Md_ofWork 21 = .ok (.iaload, 1) := by decide +kernel
theorem d_Md_ofWork_22 : decode c_Md_ofWork 22 = .ok (.ifCond .ne 7, 3) := by decide +kernel
theorem d_Md_ofWork_25 : decode c_Md_ofWork 25 = .ok (.iconst 1, 1) := by decide +kernel
theorem d_Md_ofWork_26 : decode c_Md_ofWork 26 = .ok (.goto 4, 3) := by decide +kernel
theorem d_Md_ofWork_29 : decode c_Md_ofWork 29 = .ok (.iconst 0, 1) := by decide +kernel
theorem d_Md_ofWork_30 : decode c_Md_ofWork 30 = .ok (.istore_n 3, 1) := by decide +kernel
theorem d_Md_ofWork_31 : decode c_Md_ofWork 31 = .ok (.iload_n 2, 1) := by decide +kernel
theorem d_Md_ofWork_32 : decode c_Md_ofWork 32 = .ok (.tableswitch 142 0 4 #[36, 46, 55, 108, 125], 36) := by decide +kernel
theorem d_Md_ofWork_68 : decode c_Md_ofWork 68 = .ok (.aload_n 0, 1) := by decide +kernel
theorem d_Md_ofWork_69 : decode c_Md_ofWork 69 = .ok (.getfield 7, 3) := by decide +kernel
theorem d_Md_ofWork_72 : decode c_Md_ofWork 72 = .ok (.bipush 40, 2) := by decide +kernel
theorem d_Md_ofWork_74 : decode c_Md_ofWork 74 = .ok (.iload_n 1, 1) := by decide +kernel
theorem d_Md_ofWork_75 : decode c_Md_ofWork 75 = .ok (.iadd, 1) := by decide +kernel
theorem d_Md_ofWork_76 : decode c_Md_ofWork 76 = .ok (.iaload, 1) := by decide +kernel
theorem d_Md_ofWork_77 : decode c_Md_ofWork 77 = .ok (.ireturn, 1) := by decide +kernel
theorem d_Md_ofWork_78 : decode c_Md_ofWork 78 = .ok (.aload_n 0, 1) := by decide +kernel
theorem d_Md_ofWork_79 : decode c_Md_ofWork 79 = .ok (.getfield 7, 3) := by decide +kernel
theorem d_Md_ofWork_82 : decode c_Md_ofWork 82 = .ok (.iload_n 1, 1) := by decide +kernel
theorem d_Md_ofWork_83 : decode c_Md_ofWork 83 = .ok (.invokestatic 47, 3) := by decide +kernel
theorem d_Md_ofWork_86 : decode c_Md_ofWork 86 = .ok (.ireturn, 1) := by decide +kernel
theorem d_Md_ofWork_87 : decode c_Md_ofWork 87 = .ok (.iconst 0, 1) := by decide +kernel
theorem d_Md_ofWork_88 : decode c_Md_ofWork 88 = .ok (.istore 4, 2) := by decide +kernel
theorem d_Md_ofWork_90 : decode c_Md_ofWork 90 = .ok (.iconst 1, 1) := by decide +kernel
theorem d_Md_ofWork_91 : decode c_Md_ofWork 91 = .ok (.istore 5, 2) := by decide +kernel
theorem d_Md_ofWork_93 : decode c_Md_ofWork 93 = .ok (.iload 5, 2) := by decide +kernel
theorem d_Md_ofWork_95 : decode c_Md_ofWork 95 = .ok (.aload_n 0, 1) := by decide +kernel
theorem d_Md_ofWork_96 : decode c_Md_ofWork 96 = .ok (.getfield 7, 3) := by decide +kernel
theorem d_Md_ofWork_99 : decode c_Md_ofWork 99 = .ok (.bipush 57, 2) := by decide +kernel
theorem d_Md_ofWork_101 : decode c_Md_ofWork 101 = .ok (.iaload, 1) := by decide +kernel
theorem d_Md_ofWork_102 : decode c_Md_ofWork 102 = .ok (.if_icmp .gt 35, 3) := by decide +kernel
theorem d_Md_ofWork_105 : decode c_Md_ofWork 105 = .ok (.iload 4, 2) := by decide +kernel
theorem d_Md_ofWork_107 : decode c_Md_ofWork 107 = .ok (.aload_n 0, 1) := by decide +kernel
theorem d_Md_ofWork_108 : decode c_Md_ofWork 108 = .ok (.getfield 7, 3) := by decide +kernel
theorem d_Md_ofWork_111 : decode c_Md_ofWork 111 = .ok (.iload 5, 2) := by decide +kernel
theorem d_Md_ofWork_113 : decode c_Md_ofWork 113 = .ok (.invokestatic 43, 3) := by decide +kernel
theorem d_Md_ofWork_116 : decode c_Md_ofWork 116 = .ok (.iconst 1, 1) := by decide +kernel
theorem d_Md_ofWork_117 : decode c_Md_ofWork 117 = .ok (.iadd, 1) := by decide +kernel
theorem d_Md_ofWork_118 : decode c_Md_ofWork 118 = .ok (.iaload, 1) := by decide +kernel
theorem d_Md_ofWork_119 : decode c_Md_ofWork 119 = .ok (.iload_n 1, 1) := by decide +kernel
theorem d_Md_ofWork_120 : decode c_Md_ofWork 120 = .ok (.if_icmp .ne 7, 3) := by decide +kernel
theorem d_Md_ofWork_123 : decode c_Md_ofWork 123 = .ok (.iconst 1, 1) := by decide +kernel
theorem d_Md_ofWork_124 : decode c_Md_ofWork 124 = .ok (.goto 4, 3) := by decide +kernel
theorem d_Md_ofWork_127 : decode c_Md_ofWork 127 = .ok (.iconst 0, 1) := by decide +kernel
theorem d_Md_ofWork_128 : decode c_Md_ofWork 128 = .ok (.iadd, 1) := by decide +kernel
theorem d_Md_ofWork_129 : decode c_Md_ofWork 129 = .ok (.istore 4, 2) := by decide +kernel
theorem d_Md_ofWork_131 : decode c_Md_ofWork 131 = .ok (.iinc 5 1, 3) := by decide +kernel
theorem d_Md_ofWork_134 : decode c_Md_ofWork 134 = .ok (.goto (-41), 3) := by decide +kernel
theorem d_Md_ofWork_137 : decode c_Md_ofWork 137 = .ok (.iload 4, 2) := by decide +kernel
theorem d_Md_ofWork_139 : decode c_Md_ofWork 139 = .ok (.ireturn, 1) := by decide +kernel
theorem d_Md_ofWork_140 : decode c_Md_ofWork 140 = .ok (.iload_n 3, 1) := by decide +kernel
theorem d_Md_ofWork_141 : decode c_Md_ofWork 141 = .ok (.ifCond .eq 14, 3) := by decide +kernel
theorem d_Md_ofWork_144 : decode c_Md_ofWork 144 = .ok (.aload_n 0, 1) := by decide +kernel
theorem d_Md_ofWork_145 : decode c_Md_ofWork 145 = .ok (.getfield 7, 3) := by decide +kernel
theorem d_Md_ofWork_148 : decode c_Md_ofWork 148 = .ok (.iload_n 1, 1) := by decide +kernel
theorem d_Md_ofWork_149 : decode c_Md_ofWork 149 = .ok (.invokestatic 51, 3) := by decide +kernel
theorem d_Md_ofWork_152 : decode c_Md_ofWork 152 = .ok (.goto 4, 3) := by decide +kernel
theorem d_Md_ofWork_155 : decode c_Md_ofWork 155 = .ok (.iconst 0, 1) := by decide +kernel
theorem d_Md_ofWork_156 : decode c_Md_ofWork 156 = .ok (.ireturn, 1) := by decide +kernel
theorem d_Md_ofWork_157 : decode c_Md_ofWork 157 = .ok (.iload_n 3, 1) := by decide +kernel
theorem d_Md_ofWork_158 : decode c_Md_ofWork 158 = .ok (.ifCond .eq 14, 3) := by decide +kernel
theorem d_Md_ofWork_161 : decode c_Md_ofWork 161 = .ok (.aload_n 0, 1) := by decide +kernel
theorem d_Md_ofWork_162 : decode c_Md_ofWork 162 = .ok (.getfield 7, 3) := by decide +kernel
theorem d_Md_ofWork_165 : decode c_Md_ofWork 165 = .ok (.iload_n 1, 1) := by decide +kernel
theorem d_Md_ofWork_166 : decode c_Md_ofWork 166 = .ok (.invokestatic 54, 3) := by decide +kernel
theorem d_Md_ofWork_169 : decode c_Md_ofWork 169 = .ok (.goto 4, 3) := by decide +kernel
theorem d_Md_ofWork_172 : decode c_Md_ofWork 172 = .ok (.iconst 0, 1) := by decide +kernel
theorem d_Md_ofWork_173 : decode c_Md_ofWork 173 = .ok (.ireturn, 1) := by decide +kernel
theorem d_Md_ofWork_174 : decode c_Md_ofWork 174 = .ok (.bipush (-2), 2) := by decide +kernel
theorem d_Md_ofWork_176 : decode c_Md_ofWork 176 = .ok (.ireturn, 1) := by decide +kernel
theorem d_Md_ofEntry_0 : decode c_Md_ofEntry 0 = .ok (.iload_n 1, 1) := by decide +kernel
theorem d_Md_ofEntry_1 : decode c_Md_ofEntry 1 = .ok (.i2l, 1) := by decide +kernel
theorem d_Md_ofEntry_2 : decode c_Md_ofEntry 2 = .ok (.lconst 1, 1) := by decide +kernel
theorem d_Md_ofEntry_3 : decode c_Md_ofEntry 3 = .ok (.aload_n 0, 1) := by decide +kernel
theorem d_Md_ofEntry_4 : decode c_Md_ofEntry 4 = .ok (.getfield 7, 3) := by decide +kernel
theorem d_Md_ofEntry_7 : decode c_Md_ofEntry 7 = .ok (.bipush 57, 2) := by decide +kernel
theorem d_Md_ofEntry_9 : decode c_Md_ofEntry 9 = .ok (.iaload, 1) := by decide +kernel
theorem d_Md_ofEntry_10 : decode c_Md_ofEntry 10 = .ok (.i2l, 1) := by decide +kernel
theorem d_Md_ofEntry_11 : decode c_Md_ofEntry 11 = .ok (.invokestatic 35, 3) := by decide +kernel
theorem d_Md_ofEntry_14 : decode c_Md_ofEntry 14 = .ok (.ifCond .ne 5, 3) := by decide +kernel
theorem d_Md_ofEntry_17 : decode c_Md_ofEntry 17 = .ok (.iconst (-1), 1) := by decide +kernel
theorem d_Md_ofEntry_18 : decode c_Md_ofEntry 18 = .ok (.ireturn, 1) := by decide +kernel
theorem d_Md_ofEntry_19 : decode c_Md_ofEntry 19 = .ok (.iload_n 2, 1) := by decide +kernel
theorem d_Md_ofEntry_20 : decode c_Md_ofEntry 20 = .ok (.i2l, 1) := by decide +kernel
theorem d_Md_ofEntry_21 : decode c_Md_ofEntry 21 = .ok (.lconst 0, 1) := by decide +kernel
theorem d_Md_ofEntry_22 : decode c_Md_ofEntry 22 = .ok (.ldc2_w 33, 3) := by decide +kernel
theorem d_Md_ofEntry_25 : decode c_Md_ofEntry 25 = .ok (.invokestatic 35, 3) := by decide +kernel
theorem d_Md_ofEntry_28 : decode c_Md_ofEntry 28 = .ok (.ifCond .ne 8, 3) := by decide +kernel
theorem d_Md_ofEntry_31 : decode c_Md_ofEntry 31 = .ok (.bipush (-2), 2) := by decide +kernel
theorem d_Md_ofEntry_33 : decode c_Md_ofEntry 33 = .ok (.goto 39, 3) := by decide +kernel
theorem d_Md_ofEntry_36 : decode c_Md_ofEntry 36 = .ok (.iload_n 2, 1) := by decide +kernel
theorem d_Md_ofEntry_37 : decode c_Md_ofEntry 37 = .ok (.bipush 7, 2) := by decide +kernel
theorem d_Md_ofEntry_39 : decode c_Md_ofEntry 39 = .ok (.if_icmp .ne 22, 3) := by decide +kernel
theorem d_Md_ofEntry_42 : decode c_Md_ofEntry 42 = .ok (.iload_n 1, 1) := by decide +kernel
theorem d_Md_ofEntry_43 : decode c_Md_ofEntry 43 = .ok (.aload_n 0, 1) := by decide +kernel
theorem d_Md_ofEntry_44 : decode c_Md_ofEntry 44 = .ok (.getfield 7, 3) := by decide +kernel
theorem d_Md_ofEntry_47 : decode c_Md_ofEntry 47 = .ok (.bipush 58, 2) := by decide +kernel
theorem d_Md_ofEntry_49 : decode c_Md_ofEntry 49 = .ok (.iaload, 1) := by decide +kernel
theorem d_Md_ofEntry_50 : decode c_Md_ofEntry 50 = .ok (.if_icmp .gt 7, 3) := by decide +kernel
theorem d_Md_ofEntry_53 : decode c_Md_ofEntry 53 = .ok (.iconst 1, 1) := by decide +kernel
theorem d_Md_ofEntry_54 : decode c_Md_ofEntry 54 = .ok (.goto 18, 3) := by decide +kernel
theorem d_Md_ofEntry_57 : decode c_Md_ofEntry 57 = .ok (.iconst 0, 1) := by decide +kernel
theorem d_Md_ofEntry_58 : decode c_Md_ofEntry 58 = .ok (.goto 14, 3) := by decide +kernel
theorem d_Md_ofEntry_61 : decode c_Md_ofEntry 61 = .ok (.aload_n 0, 1) := by decide +kernel
theorem d_Md_ofEntry_62 : decode c_Md_ofEntry 62 = .ok (.getfield 7, 3) := by decide +kernel
theorem d_Md_ofEntry_65 : decode c_Md_ofEntry 65 = .ok (.iload_n 1, 1) := by decide +kernel
theorem d_Md_ofEntry_66 : decode c_Md_ofEntry 66 = .ok (.invokestatic 43, 3) := by decide +kernel
theorem d_Md_ofEntry_69 : decode c_Md_ofEntry 69 = .ok (.iload_n 2, 1) := by decide +kernel
theorem d_Md_ofEntry_70 : decode c_Md_ofEntry 70 = .ok (.iadd, 1) := by decide +kernel
theorem d_Md_ofEntry_71 : decode c_Md_ofEntry 71 = .ok (.iaload, 1) := by decide +kernel
theorem d_Md_ofEntry_72 : decode c_Md_ofEntry 72 = .ok (.ireturn, 1) := by decide +kernel
theorem d_Md_count_0 : decode c_Md_count 0 = .ok (.iconst 0, 1) := by decide +kernel
theorem d_Md_count_1 : decode c_Md_count 1 = .ok (.istore_n 2, 1) := by decide +kernel
theorem d_Md_count_2 : decode c_Md_count 2 = .ok (.iload_n 1, 1) := by decide +kernel
theorem d_Md_count_3 : decode c_Md_count 3 = .ok (.tableswitch 200 0 10 #[57, 65, 73, 81, 89, 97, 105, 113, 147, 190, 195], 57) := by decide +kernel
theorem d_Md_count_60 : decode c_Md_count 60 = .ok (.aload_n 0, 1) := by decide +kernel
theorem d_Md_count_61 : decode c_Md_count 61 = .ok (.getfield 7, 3) := by decide +kernel
theorem d_Md_count_64 : decode c_Md_count 64 = .ok (.bipush 56, 2) := by decide +kernel
theorem d_Md_count_66 : decode c_Md_count 66 = .ok (.iaload, 1) := by decide +kernel
theorem d_Md_count_67 : decode c_Md_count 67 = .ok (.ireturn, 1) := by decide +kernel
theorem d_Md_count_68 : decode c_Md_count 68 = .ok (.aload_n 0, 1) := by decide +kernel
theorem d_Md_count_69 : decode c_Md_count 69 = .ok (.getfield 7, 3) := by decide +kernel
theorem d_Md_count_72 : decode c_Md_count 72 = .ok (.bipush 57, 2) := by decide +kernel
theorem d_Md_count_74 : decode c_Md_count 74 = .ok (.iaload, 1) := by decide +kernel
theorem d_Md_count_75 : decode c_Md_count 75 = .ok (.ireturn, 1) := by decide +kernel
theorem d_Md_count_76 : decode c_Md_count 76 = .ok (.aload_n 0, 1) := by decide +kernel
theorem d_Md_count_77 : decode c_Md_count 77 = .ok (.getfield 7, 3) := by decide +kernel
theorem d_Md_count_80 : decode c_Md_count 80 = .ok (.bipush 58, 2) := by decide +kernel
theorem d_Md_count_82 : decode c_Md_count 82 = .ok (.iaload, 1) := by decide +kernel
theorem d_Md_count_83 : decode c_Md_count 83 = .ok (.ireturn, 1) := by decide +kernel
theorem d_Md_count_84 : decode c_Md_count 84 = .ok (.aload_n 0, 1) := by decide +kernel
theorem d_Md_count_85 : decode c_Md_count 85 = .ok (.getfield 7, 3) := by decide +kernel
theorem d_Md_count_88 : decode c_Md_count 88 = .ok (.bipush 59, 2) := by decide +kernel
theorem d_Md_count_90 : decode c_Md_count 90 = .ok (.iaload, 1) := by decide +kernel
theorem d_Md_count_91 : decode c_Md_count 91 = .ok (.ireturn, 1) := by decide +kernel
theorem d_Md_count_92 : decode c_Md_count 92 = .ok (.aload_n 0, 1) := by decide +kernel
theorem d_Md_count_93 : decode c_Md_count 93 = .ok (.getfield 7, 3) := by decide +kernel
theorem d_Md_count_96 : decode c_Md_count 96 = .ok (.bipush 63, 2) := by decide +kernel
theorem d_Md_count_98 : decode c_Md_count 98 = .ok (.iaload, 1) := by decide +kernel
theorem d_Md_count_99 : decode c_Md_count 99 = .ok (.ireturn, 1) := by decide +kernel
theorem d_Md_count_100 : decode c_Md_count 100 = .ok (.aload_n 0, 1) := by decide +kernel
theorem d_Md_count_101 : decode c_Md_count 101 = .ok (.getfield 7, 3) := by decide +kernel
theorem d_Md_count_104 : decode c_Md_count 104 = .ok (.bipush 64, 2) := by decide +kernel
theorem d_Md_count_106 : decode c_Md_count 106 = .ok (.iaload, 1) := by decide +kernel
theorem d_Md_count_107 : decode c_Md_count 107 = .ok (.ireturn, 1) := by decide +kernel
theorem d_Md_count_108 : decode c_Md_count 108 = .ok (.aload_n 0, 1) := by decide +kernel
theorem d_Md_count_109 : decode c_Md_count 109 = .ok (.getfield 7, 3) := by decide +kernel
theorem d_Md_count_112 : decode c_Md_count 112 = .ok (.bipush 65, 2) := by decide +kernel
theorem d_Md_count_114 : decode c_Md_count 114 = .ok (.iaload, 1) := by decide +kernel
theorem d_Md_count_115 : decode c_Md_count 115 = .ok (.ireturn, 1) := by decide +kernel
theorem d_Md_count_116 : decode c_Md_count 116 = .ok (.iconst 0, 1) := by decide +kernel
theorem d_Md_count_117 : decode c_Md_count 117 = .ok (.istore_n 3, 1) := by decide +kernel
theorem d_Md_count_118 : decode c_Md_count 118 = .ok (.iload_n 3, 1) := by decide +kernel
theorem d_Md_count_119 : decode c_Md_count 119 = .ok (.bipush 8, 2) := by decide +kernel
theorem d_Md_count_121 : decode c_Md_count 121 = .ok (.if_icmp .ge 27, 3) := by decide +kernel
theorem d_Md_count_124 : decode c_Md_count 124 = .ok (.iload_n 2, 1) := by decide +kernel
theorem d_Md_count_125 : decode c_Md_count 125 = .ok (.aload_n 0, 1) := by decide +kernel
theorem d_Md_count_126 : decode c_Md_count 126 = .ok (.iload_n 3, 1) := by decide +kernel
theorem d_Md_count_127 : decode c_Md_count 127 = .ok (.invokevirtual 157, 3) := by decide +kernel
theorem d_Md_count_130 : decode c_Md_count 130 = .ok (.ifCond .eq 9, 3) := by decide +kernel
theorem d_Md_count_133 : decode c_Md_count 133 = .ok (.iconst 1, 1) := by decide +kernel
theorem d_Md_count_134 : decode c_Md_count 134 = .ok (.iload_n 3, 1) := by decide +kernel
theorem d_Md_count_135 : decode c_Md_count 135 = .ok (.ishl, 1) := by decide +kernel
theorem d_Md_count_136 : decode c_Md_count 136 = .ok (.goto 4, 3) := by decide +kernel
theorem d_Md_count_139 : decode c_Md_count 139 = .ok (.iconst 0, 1) := by decide +kernel
theorem d_Md_count_140 : decode c_Md_count 140 = .ok (.ior, 1) := by decide +kernel
theorem d_Md_count_141 : decode c_Md_count 141 = .ok (.istore_n 2, 1) := by decide +kernel
theorem d_Md_count_142 : decode c_Md_count 142 = .ok (.iinc 3 1, 3) := by decide +kernel
theorem d_Md_count_145 : decode c_Md_count 145 = .ok (.goto (-27), 3) := by decide +kernel
theorem d_Md_count_148 : decode c_Md_count 148 = .ok (.iload_n 2, 1) := by decide +kernel
theorem d_Md_count_149 : decode c_Md_count 149 = .ok (.ireturn, 1) := by decide +kernel
theorem d_Md_count_150 : decode c_Md_count 150 = .ok (.iconst 0, 1) := by decide +kernel
theorem d_Md_count_151 : decode c_Md_count 151 = .ok (.istore_n 3, 1) := by decide +kernel
theorem d_Md_count_152 : decode c_Md_count 152 = .ok (.iload_n 3, 1) := by decide +kernel
theorem d_Md_count_153 : decode c_Md_count 153 = .ok (.aload_n 0, 1) := by decide +kernel
theorem d_Md_count_154 : decode c_Md_count 154 = .ok (.getfield 7, 3) := by decide +kernel
theorem d_Md_count_157 : decode c_Md_count 157 = .ok (.bipush 56, 2) := by decide +kernel
theorem d_Md_count_159 : decode c_Md_count 159 = .ok (.iaload, 1) := by decide +kernel
theorem d_Md_count_160 : decode c_Md_count 160 = .ok (.if_icmp .ge 31, 3) := by decide +kernel
theorem d_Md_count_163 : decode c_Md_count 163 = .ok (.iload_n 2, 1) := by decide +kernel
theorem d_Md_count_164 : decode c_Md_count 164 = .ok (.aload_n 0, 1) := by decide +kernel
theorem d_Md_count_165 : decode c_Md_count 165 = .ok (.getfield 7, 3) := by decide +kernel
theorem d_Md_count_168 : decode c_Md_count 168 = .ok (.bipush 40, 2) := by decide +kernel
theorem d_Md_count_170 : decode c_Md_count 170 = .ok (.iload_n 3, 1) := by decide +kernel
theorem d_Md_count_171 : decode c_Md_count 171 = .ok (.iadd, 1) := by decide +kernel
theorem d_Md_count_172 : decode c_Md_count 172 = .ok (.iaload, 1) := by decide +kernel
theorem d_Md_count_173 : decode c_Md_count 173 = .ok (.ifCond .ne 9, 3) := by decide +kernel
theorem d_Md_count_176 : decode c_Md_count 176 = .ok (.iconst 1, 1) := by decide +kernel
theorem d_Md_count_177 : decode c_Md_count 177 = .ok (.iload_n 3, 1) := by decide +kernel
theorem d_Md_count_178 : decode c_Md_count 178 = .ok (.ishl, 1) := by decide +kernel
theorem d_Md_count_179 : decode c_Md_count 179 = .ok (.goto 4, 3) := by decide +kernel
theorem d_Md_count_182 : decode c_Md_count 182 = .ok (.iconst 0, 1) := by decide +kernel
theorem d_Md_count_183 : decode c_Md_count 183 = .ok (.ior, 1) := by decide +kernel
theorem d_Md_count_184 : decode c_Md_count 184 = .ok (.istore_n 2, 1) := by decide +kernel
theorem d_Md_count_185 : decode c_Md_count 185 = .ok (.iinc 3 1, 3) := by decide +kernel
theorem d_Md_count_188 : decode c_Md_count 188 = .ok (.goto (-36), 3) := by decide +kernel
theorem d_Md_count_191 : decode c_Md_count 191 = .ok (.iload_n 2, 1) := by decide +kernel
theorem d_Md_count_192 : decode c_Md_count 192 = .ok (.ireturn, 1) := by decide +kernel
theorem d_Md_count_193 : decode c_Md_count 193 = .ok (.aload_n 0, 1) := by decide +kernel
theorem d_Md_count_194 : decode c_Md_count 194 = .ok (.getfield 160, 3) := by decide +kernel
theorem d_Md_count_197 : decode c_Md_count 197 = .ok (.ireturn, 1) := by decide +kernel
theorem d_Md_count_198 : decode c_Md_count 198 = .ok (.aload_n 0, 1) := by decide +kernel
theorem d_Md_count_199 : decode c_Md_count 199 = .ok (.getfield 29, 3) := by decide +kernel
theorem d_Md_count_202 : decode c_Md_count 202 = .ok (.ireturn, 1) := by decide +kernel
theorem d_Md_count_203 : decode c_Md_count 203 = .ok (.bipush (-2), 2) := by decide +kernel
theorem d_Md_count_205 : decode c_Md_count 205 = .ok (.ireturn, 1) := by decide +kernel
theorem d_Md_mendAll_0 : decode c_Md_mendAll 0 = .ok (.aload_n 0, 1) := by decide +kernel
theorem d_Md_mendAll_1 : decode c_Md_mendAll 1 = .ok (.getfield 7, 3) := by decide +kernel
theorem d_Md_mendAll_4 : decode c_Md_mendAll 4 = .ok (.iconst 0, 1) := by decide +kernel
theorem d_Md_mendAll_5 : decode c_Md_mendAll 5 = .ok (.aload_n 0, 1) := by decide +kernel
theorem d_Md_mendAll_6 : decode c_Md_mendAll 6 = .ok (.getfield 13, 3) := by decide +kernel
theorem d_Md_mendAll_9 : decode c_Md_mendAll 9 = .ok (.iconst 0, 1) := by decide +kernel
theorem d_Md_mendAll_10 : decode c_Md_mendAll 10 = .ok (.invokestatic 86, 3) := by decide +kernel
theorem d_Md_mendAll_13 : decode c_Md_mendAll 13 = .ok (.aload_n 0, 1) := by decide +kernel
theorem d_Md_mendAll_14 : decode c_Md_mendAll 14 = .ok (.getfield 13, 3) := by decide +kernel
theorem d_Md_mendAll_17 : decode c_Md_mendAll 17 = .ok (.bipush 59, 2) := by decide +kernel
theorem d_Md_mendAll_19 : decode c_Md_mendAll 19 = .ok (.iaload, 1) := by decide +kernel
theorem d_Md_mendAll_20 : decode c_Md_mendAll 20 = .ok (.ifCond .ne 11, 3) := by decide +kernel
theorem d_Md_mendAll_23 : decode c_Md_mendAll 23 = .ok (.aload_n 0, 1) := by decide +kernel
theorem d_Md_mendAll_24 : decode c_Md_mendAll 24 = .ok (.getfield 13, 3) := by decide +kernel
theorem d_Md_mendAll_27 : decode c_Md_mendAll 27 = .ok (.invokestatic 149, 3) := by decide +kernel
theorem d_Md_mendAll_30 : decode c_Md_mendAll 30 = .ok (.pop, 1) := by decide +kernel
theorem d_Md_mendAll_31 : decode c_Md_mendAll 31 = .ok (.aload_n 0, 1) := by decide +kernel
theorem d_Md_mendAll_32 : decode c_Md_mendAll 32 = .ok (.getfield 13, 3) := by decide +kernel
theorem d_Md_mendAll_35 : decode c_Md_mendAll 35 = .ok (.bipush 64, 2) := by decide +kernel
theorem d_Md_mendAll_37 : decode c_Md_mendAll 37 = .ok (.iaload, 1) := by decide +kernel
theorem d_Md_mendAll_38 : decode c_Md_mendAll 38 = .ok (.istore_n 1, 1) := by decide +kernel
theorem d_Md_mendAll_39 : decode c_Md_mendAll 39 = .ok (.aload_n 0, 1) := by decide +kernel
theorem d_Md_mendAll_40 : decode c_Md_mendAll 40 = .ok (.getfield 13, 3) := by decide +kernel
theorem d_Md_mendAll_43 : decode c_Md_mendAll 43 = .ok (.bipush 59, 2) := by decide +kernel
theorem d_Md_mendAll_45 : decode c_Md_mendAll 45 = .ok (.iaload, 1) := by decide +kernel
theorem d_Md_mendAll_46 : decode c_Md_mendAll 46 = .ok (.iconst 1, 1) := by decide +kernel
theorem d_Md_mendAll_47 : decode c_Md_mendAll 47 = .ok (.if_icmp .ne 17, 3) := by decide +kernel
theorem d_Md_mendAll_50 : decode c_Md_mendAll 50 = .ok (.aload_n 0, 1) := by decide +kernel
theorem d_Md_mendAll_51 : decode c_Md_mendAll 51 = .ok (.getfield 13, 3) := by decide +kernel
theorem d_Md_mendAll_54 : decode c_Md_mendAll 54 = .ok (.sipush 999, 3) := by decide +kernel
theorem d_Md_mendAll_57 : decode c_Md_mendAll 57 = .ok (.invokestatic 154, 3) := by decide +kernel
theorem d_Md_mendAll_60 : decode c_Md_mendAll 60 = .ok (.pop, 1) := by decide +kernel
theorem d_Md_mendAll_61 : decode c_Md_mendAll 61 = .ok (.goto (-22), 3) := by decide +kernel
theorem d_Md_mendAll_64 : decode c_Md_mendAll 64 = .ok (.aload_n 0, 1) := by decide +kernel
theorem d_Md_mendAll_65 : decode c_Md_mendAll 65 = .ok (.getfield 13, 3) := by decide +kernel
theorem d_Md_mendAll_68 : decode c_Md_mendAll 68 = .ok (.bipush 64, 2) := by decide +kernel
theorem d_Md_mendAll_70 : decode c_Md_mendAll 70 = .ok (.iaload, 1) := by decide +kernel
theorem d_Md_mendAll_71 : decode c_Md_mendAll 71 = .ok (.iload_n 1, 1) := by decide +kernel
theorem d_Md_mendAll_72 : decode c_Md_mendAll 72 = .ok (.isub, 1) := by decide +kernel
theorem d_Md_mendAll_73 : decode c_Md_mendAll 73 = .ok (.ireturn, 1) := by decide +kernel
theorem d_Md_stepsToMend_0 : decode c_Md_stepsToMend 0 = .ok (.aload_n 0, 1) := by decide +kernel
theorem d_Md_stepsToMend_1 : decode c_Md_stepsToMend 1 = .ok (.invokevirtual 163, 3) := by decide +kernel
theorem d_Md_stepsToMend_4 : decode c_Md_stepsToMend 4 = .ok (.ireturn, 1) := by decide +kernel
theorem d_Md_wouldBe_0 : decode c_Md_wouldBe 0 = .ok (.iload_n 1, 1) := by decide +kernel
theorem d_Md_wouldBe_1 : decode c_Md_wouldBe 1 = .ok (.invokestatic 103, 3) := by decide +kernel
theorem d_Md_wouldBe_4 : decode c_Md_wouldBe 4 = .ok (.ifCond .ne 5, 3) := by decide +kernel
theorem d_Md_wouldBe_7 : decode c_Md_wouldBe 7 = .ok (.iconst (-1), 1) := by decide +kernel
theorem d_Md_wouldBe_8 : decode c_Md_wouldBe 8 = .ok (.ireturn, 1) := by decide +kernel
theorem d_Md_wouldBe_9 : decode c_Md_wouldBe 9 = .ok (.aload_n 0, 1) := by decide +kernel
theorem d_Md_wouldBe_10 : decode c_Md_wouldBe 10 = .ok (.invokevirtual 163, 3) := by decide +kernel
theorem d_Md_wouldBe_13 : decode c_Md_wouldBe 13 = .ok (.pop, 1) := by decide +kernel
theorem d_Md_wouldBe_14 : decode c_Md_wouldBe 14 = .ok (.aload_n 0, 1) := by decide +kernel
theorem d_Md_wouldBe_15 : decode c_Md_wouldBe 15 = .ok (.getfield 13, 3) := by decide +kernel
theorem d_Md_wouldBe_18 : decode c_Md_wouldBe 18 = .ok (.iload_n 1, 1) := by decide +kernel
theorem d_Md_wouldBe_19 : decode c_Md_wouldBe 19 = .ok (.invokestatic 167, 3) := by decide +kernel
theorem d_Md_wouldBe_22 : decode c_Md_wouldBe 22 = .ok (.ireturn, 1) := by decide +kernel
theorem d_Md_endsSaved_0 : decode c_Md_endsSaved 0 = .ok (.iconst 1, 1) := by decide +kernel
theorem d_Md_endsSaved_1 : decode c_Md_endsSaved 1 = .ok (.istore_n 2, 1) := by decide +kernel
theorem d_Md_endsSaved_2 : decode c_Md_endsSaved 2 = .ok (.iload_n 2, 1) := by decide +kernel
theorem d_Md_endsSaved_3 : decode c_Md_endsSaved 3 = .ok (.aload_n 0, 1) := by decide +kernel
theorem d_Md_endsSaved_4 : decode c_Md_endsSaved 4 = .ok (.getfield 7, 3) := by decide +kernel
theorem d_Md_endsSaved_7 : decode c_Md_endsSaved 7 = .ok (.bipush 58, 2) := by decide +kernel
theorem d_Md_endsSaved_9 : decode c_Md_endsSaved 9 = .ok (.iaload, 1) := by decide +kernel
theorem d_Md_endsSaved_10 : decode c_Md_endsSaved 10 = .ok (.if_icmp .gt 56, 3) := by decide +kernel
theorem d_Md_endsSaved_13 : decode c_Md_endsSaved 13 = .ok (.aload_n 0, 1) := by decide +kernel
theorem d_Md_endsSaved_14 : decode c_Md_endsSaved 14 = .ok (.getfield 7, 3) := by decide +kernel
theorem d_Md_endsSaved_17 : decode c_Md_endsSaved 17 = .ok (.iload_n 2, 1) := by decide +kernel
theorem d_Md_endsSaved_18 : decode c_Md_endsSaved 18 = .ok (.invokestatic 43, 3) := by decide +kernel
theorem d_Md_endsSaved_21 : decode c_Md_endsSaved 21 = .ok (.iconst 1, 1) := by decide +kernel
theorem d_Md_endsSaved_22 : decode c_Md_endsSaved 22 = .ok (.iadd, 1) := by decide +kernel
theorem d_Md_endsSaved_23 : decode c_Md_endsSaved 23 = .ok (.iaload, 1) := by decide +kernel
theorem d_Md_endsSaved_24 : decode c_Md_endsSaved 24 = .ok (.iload_n 1, 1) := by decide +kernel
theorem d_Md_endsSaved_25 : decode c_Md_endsSaved 25 = .ok (.if_icmp .ne 35, 3) := by decide +kernel
theorem d_Md_endsSaved_28 : decode c_Md_endsSaved 28 = .ok (.aload_n 0, 1) := by decide +kernel
theorem d_Md_endsSaved_29 : decode c_Md_endsSaved 29 = .ok (.getfield 7, 3) := by decide +kernel
theorem d_Md_endsSaved_32 : decode c_Md_endsSaved 32 = .ok (.iload_n 2, 1) := by decide +kernel
theorem d_Md_endsSaved_33 : decode c_Md_endsSaved 33 = .ok (.invokestatic 43, 3) := by decide +kernel
theorem d_Md_endsSaved_36 : decode c_Md_endsSaved 36 = .ok (.iconst 0, 1) := by decide +kernel
theorem d_Md_endsSaved_37 : decode c_Md_endsSaved 37 = .ok (.iadd, 1) := by decide +kernel
theorem d_Md_endsSaved_38 : decode c_Md_endsSaved 38 = .ok (.iaload, 1) := by decide +kernel
theorem d_Md_endsSaved_39 : decode c_Md_endsSaved 39 = .ok (.iconst 3, 1) := by decide +kernel
theorem d_Md_endsSaved_40 : decode c_Md_endsSaved 40 = .ok (.if_icmp .eq 18, 3) := by decide +kernel
theorem d_Md_endsSaved_43 : decode c_Md_endsSaved 43 = .ok (.aload_n 0, 1) := by decide +kernel
theorem d_Md_endsSaved_44 : decode c_Md_endsSaved 44 = .ok (.getfield 7, 3) := by decide +kernel
theorem d_Md_endsSaved_47 : decode c_Md_endsSaved 47 = .ok (.iload_n 2, 1) := by decide +kernel
theorem d_Md_endsSaved_48 : decode c_Md_endsSaved 48 = .ok (.invokestatic 43, 3) := by decide +kernel
theorem d_Md_endsSaved_51 : decode c_Md_endsSaved 51 = .ok (.iconst 0, 1) := by decide +kernel
theorem d_Md_endsSaved_52 : decode c_Md_endsSaved 52 = .ok (.iadd, 1) := by decide +kernel
theorem d_Md_endsSaved_53 : decode c_Md_endsSaved 53 = .ok (.iaload, 1) := by decide +kernel
theorem d_Md_endsSaved_54 : decode c_Md_endsSaved 54 = .ok (.iconst 4, 1) := by decide +kernel
theorem d_Md_endsSaved_55 : decode c_Md_endsSaved 55 = .ok (.if_icmp .ne 5, 3) := by decide +kernel
theorem d_Md_endsSaved_58 : decode c_Md_endsSaved 58 = .ok (.iconst 1, 1) := by decide +kernel
theorem d_Md_endsSaved_59 : decode c_Md_endsSaved 59 = .ok (.ireturn, 1) := by decide +kernel
theorem d_Md_endsSaved_60 : decode c_Md_endsSaved 60 = .ok (.iinc 2 1, 3) := by decide +kernel
theorem d_Md_endsSaved_63 : decode c_Md_endsSaved 63 = .ok (.goto (-61), 3) := by decide +kernel
theorem d_Md_endsSaved_66 : decode c_Md_endsSaved 66 = .ok (.iconst 0, 1) := by decide +kernel
theorem d_Md_endsSaved_67 : decode c_Md_endsSaved 67 = .ok (.ireturn, 1) := by decide +kernel
theorem d_Md_firstNeeded_0 : decode c_Md_firstNeeded 0 = .ok (.iconst 1, 1) := by decide +kernel
theorem d_Md_firstNeeded_1 : decode c_Md_firstNeeded 1 = .ok (.istore_n 1, 1) := by decide +kernel
theorem d_Md_firstNeeded_2 : decode c_Md_firstNeeded 2 = .ok (.iload_n 1, 1) := by decide +kernel
theorem d_Md_firstNeeded_3 : decode c_Md_firstNeeded 3 = .ok (.aload_n 0, 1) := by decide +kernel
theorem d_Md_firstNeeded_4 : decode c_Md_firstNeeded 4 = .ok (.getfield 7, 3) := by decide +kernel
theorem d_Md_firstNeeded_7 : decode c_Md_firstNeeded 7 = .ok (.bipush 58, 2) := by decide +kernel
theorem d_Md_firstNeeded_9 : decode c_Md_firstNeeded 9 = .ok (.iaload, 1) := by decide +kernel
theorem d_Md_firstNeeded_10 : decode c_Md_firstNeeded 10 = .ok (.if_icmp .gt 88, 3) := by decide +kernel
theorem d_Md_firstNeeded_13 : decode c_Md_firstNeeded 13 = .ok (.aload_n 0, 1) := by decide +kernel
theorem d_Md_firstNeeded_14 : decode c_Md_firstNeeded 14 = .ok (.getfield 7, 3) := by decide +kernel
theorem d_Md_firstNeeded_17 : decode c_Md_firstNeeded 17 = .ok (.iload_n 1, 1) := by decide +kernel
theorem d_Md_firstNeeded_18 : decode c_Md_firstNeeded 18 = .ok (.invokestatic 43, 3) := by decide +kernel
theorem d_Md_firstNeeded_21 : decode c_Md_firstNeeded 21 = .ok (.iconst 0, 1) := by decide +kernel
theorem d_Md_firstNeeded_22 : decode c_Md_firstNeeded 22 = .ok (.iadd, 1) := by decide +kernel
theorem d_Md_firstNeeded_23 : decode c_Md_firstNeeded 23 = .ok (.iaload, 1) := by decide +kernel
theorem d_Md_firstNeeded_24 : decode c_Md_firstNeeded 24 = .ok (.istore_n 2, 1) := by decide +kernel
theorem d_Md_firstNeeded_25 : decode c_Md_firstNeeded 25 = .ok (.iload_n 2, 1) := by decide +kernel
theorem d_Md_firstNeeded_26 : decode c_Md_firstNeeded 26 = .ok (.iconst 1, 1) := by decide +kernel
theorem d_Md_firstNeeded_27 : decode c_Md_firstNeeded 27 = .ok (.if_icmp .eq 8, 3) := by decide +kernel
theorem d_Md_firstNeeded_30 : decode c_Md_firstNeeded 30 = .ok (.iload_n 2, 1) := by decide +kernel
theorem d_Md_firstNeeded_31 : decode c_Md_firstNeeded 31 = .ok (.iconst 2, 1) := by decide +kernel
theorem d_Md_firstNeeded_32 : decode c_Md_firstNeeded 32 = .ok (.if_icmp .ne 30, 3) := by decide +kernel
theorem d_Md_firstNeeded_35 : decode c_Md_firstNeeded 35 = .ok (.iload_n 1, 1) := by decide +kernel
theorem d_Md_firstNeeded_36 : decode c_Md_firstNeeded 36 = .ok (.aload_n 0, 1) := by decide +kernel
theorem d_Md_firstNeeded_37 : decode c_Md_firstNeeded 37 = .ok (.getfield 7, 3) := by decide +kernel
theorem d_Md_firstNeeded_40 : decode c_Md_firstNeeded 40 = .ok (.bipush 8, 2) := by decide +kernel
theorem d_Md_firstNeeded_42 : decode c_Md_firstNeeded 42 = .ok (.aload_n 0, 1) := by decide +kernel
theorem d_Md_firstNeeded_43 : decode c_Md_firstNeeded 43 = .ok (.getfield 7, 3) := by decide +kernel
theorem d_Md_firstNeeded_46 : decode c_Md_firstNeeded 46 = .ok (.iload_n 1, 1) := by decide +kernel
theorem d_Md_firstNeeded_47 : decode c_Md_firstNeeded 47 = .ok (.invokestatic 43, 3) := by decide +kernel
theorem d_Md_firstNeeded_50 : decode c_Md_firstNeeded 50 = .ok (.iconst 3, 1) := by decide +kernel
theorem d_Md_firstNeeded_51 : decode c_Md_firstNeeded 51 = .ok (.iadd, 1) := by decide +kernel
theorem d_Md_firstNeeded_52 : decode c_Md_firstNeeded 52 = .ok (.iaload, 1) := by decide +kernel
theorem d_Md_firstNeeded_53 : decode c_Md_firstNeeded 53 = .ok (.iadd, 1) := by decide +kernel
theorem d_Md_firstNeeded_54 : decode c_Md_firstNeeded 54 = .ok (.iaload, 1) := by decide +kernel
theorem d_Md_firstNeeded_55 : decode c_Md_firstNeeded 55 = .ok (.if_icmp .le 7, 3) := by decide +kernel
theorem d_Md_firstNeeded_58 : decode c_Md_firstNeeded 58 = .ok (.iconst 1, 1) := by decide +kernel
theorem d_Md_firstNeeded_59 : decode c_Md_firstNeeded 59 = .ok (.goto 4, 3) := by decide +kernel
theorem d_Md_firstNeeded_62 : decode c_Md_firstNeeded 62 = .ok (.iconst 0, 1) := by decide +kernel
theorem d_Md_firstNeeded_63 : decode c_Md_firstNeeded 63 = .ok (.istore_n 3, 1) := by decide +kernel
theorem d_Md_firstNeeded_64 : decode c_Md_firstNeeded 64 = .ok (.iload_n 3, 1) := by decide +kernel
theorem d_Md_firstNeeded_65 : decode c_Md_firstNeeded 65 = .ok (.ifCond .ne 25, 3) := by decide +kernel
theorem d_Md_firstNeeded_68 : decode c_Md_firstNeeded 68 = .ok (.iload_n 2, 1) := by decide +kernel
theorem d_Md_firstNeeded_69 : decode c_Md_firstNeeded 69 = .ok (.ifCond .ne 23, 3) := by decide +kernel
theorem d_Md_firstNeeded_72 : decode c_Md_firstNeeded 72 = .ok (.aload_n 0, 1) := by decide +kernel
theorem d_Md_firstNeeded_73 : decode c_Md_firstNeeded 73 = .ok (.aload_n 0, 1) := by decide +kernel
theorem d_Md_firstNeeded_74 : decode c_Md_firstNeeded 74 = .ok (.getfield 7, 3) := by decide +kernel
theorem d_Md_firstNeeded_77 : decode c_Md_firstNeeded 77 = .ok (.iload_n 1, 1) := by decide +kernel
theorem d_Md_firstNeeded_78 : decode c_Md_firstNeeded 78 = .ok (.invokestatic 43, 3) := by decide +kernel
theorem d_Md_firstNeeded_81 : decode c_Md_firstNeeded 81 = .ok (.iconst 1, 1) := by decide +kernel
theorem d_Md_firstNeeded_82 : decode c_Md_firstNeeded 82 = .ok (.iadd, 1) := by decide +kernel
theorem d_Md_firstNeeded_83 : decode c_Md_firstNeeded 83 = .ok (.iaload, 1) := by decide +kernel
theorem d_Md_firstNeeded_84 : decode c_Md_firstNeeded 84 = .ok (.invokevirtual 170, 3) := by decide +kernel
theorem d_Md_firstNeeded_87 : decode c_Md_firstNeeded 87 = .ok (.ifCond .ne 5, 3) := by decide +kernel
theorem d_Md_firstNeeded_90 : decode c_Md_firstNeeded 90 = .ok (.iload_n 1, 1) := by decide +kernel
theorem d_Md_firstNeeded_91 : decode c_Md_firstNeeded 91 = .ok (.ireturn, 1) := by decide +kernel
theorem d_Md_firstNeeded_92 : decode c_Md_firstNeeded 92 = .ok (.iinc 1 1, 3) := by decide +kernel
theorem d_Md_firstNeeded_95 : decode c_Md_firstNeeded 95 = .ok (.goto (-93), 3) := by decide +kernel
theorem d_Md_firstNeeded_98 : decode c_Md_firstNeeded 98 = .ok (.bipush (-6), 2) := by decide +kernel
theorem d_Md_firstNeeded_100 : decode c_Md_firstNeeded 100 = .ok (.ireturn, 1) := by decide +kernel
theorem d_Md_settled_0 : decode c_Md_settled 0 = .ok (.iload_n 1, 1) := by decide +kernel
theorem d_Md_settled_1 : decode c_Md_settled 1 = .ok (.invokestatic 103, 3) := by decide +kernel
theorem d_Md_settled_4 : decode c_Md_settled 4 = .ok (.ifCond .ne 5, 3) := by decide +kernel
theorem d_Md_settled_7 : decode c_Md_settled 7 = .ok (.iconst (-1), 1) := by decide +kernel
theorem d_Md_settled_8 : decode c_Md_settled 8 = .ok (.ireturn, 1) := by decide +kernel
theorem d_Md_settled_9 : decode c_Md_settled 9 = .ok (.aload_n 0, 1) := by decide +kernel
theorem d_Md_settled_10 : decode c_Md_settled 10 = .ok (.getfield 7, 3) := by decide +kernel
theorem d_Md_settled_13 : decode c_Md_settled 13 = .ok (.bipush 59, 2) := by decide +kernel
theorem d_Md_settled_15 : decode c_Md_settled 15 = .ok (.iaload, 1) := by decide +kernel
theorem d_Md_settled_16 : decode c_Md_settled 16 = .ok (.iconst 1, 1) := by decide +kernel
theorem d_Md_settled_17 : decode c_Md_settled 17 = .ok (.if_icmp .ne 6, 3) := by decide +kernel
theorem d_Md_settled_20 : decode c_Md_settled 20 = .ok (.bipush (-5), 2) := by decide +kernel
theorem d_Md_settled_22 : decode c_Md_settled 22 = .ok (.ireturn, 1) := by decide +kernel
theorem d_Md_settled_23 : decode c_Md_settled 23 = .ok (.aload_n 0, 1) := by decide +kernel
theorem d_Md_settled_24 : decode c_Md_settled 24 = .ok (.getfield 7, 3) := by decide +kernel
theorem d_Md_settled_27 : decode c_Md_settled 27 = .ok (.iload_n 1, 1) := by decide +kernel
theorem d_Md_settled_28 : decode c_Md_settled 28 = .ok (.invokestatic 109, 3) := by decide +kernel
theorem d_Md_settled_31 : decode c_Md_settled 31 = .ok (.istore_n 2, 1) := by decide +kernel
theorem d_Md_settled_32 : decode c_Md_settled 32 = .ok (.iconst 1, 1) := by decide +kernel
theorem d_Md_settled_33 : decode c_Md_settled 33 = .ok (.istore_n 3, 1) := by decide +kernel
theorem d_Md_settled_34 : decode c_Md_settled 34 = .ok (.iload_n 3, 1) := by decide +kernel
theorem d_Md_settled_35 : decode c_Md_settled 35 = .ok (.aload_n 0, 1) := by decide +kernel
theorem d_Md_settled_36 : decode c_Md_settled 36 = .ok (.getfield 7, 3) := by decide +kernel
theorem d_Md_settled_39 : decode c_Md_settled 39 = .ok (.bipush 57, 2) := by decide +kernel
theorem d_Md_settled_41 : decode c_Md_settled 41 = .ok (.iaload, 1) := by decide +kernel
theorem d_Md_settled_42 : decode c_Md_settled 42 = .ok (.if_icmp .gt 66, 3) := by decide +kernel
theorem d_Md_settled_45 : decode c_Md_settled 45 = .ok (.aload_n 0, 1) := by decide +kernel
theorem d_Md_settled_46 : decode c_Md_settled 46 = .ok (.getfield 7, 3) := by decide +kernel
theorem d_Md_settled_49 : decode c_Md_settled 49 = .ok (.iload_n 3, 1) := by decide +kernel
theorem d_Md_settled_50 : decode c_Md_settled 50 = .ok (.invokestatic 43, 3) := by decide +kernel
theorem d_Md_settled_53 : decode c_Md_settled 53 = .ok (.iconst 1, 1) := by decide +kernel
theorem d_Md_settled_54 : decode c_Md_settled 54 = .ok (.iadd, 1) := by decide +kernel
theorem d_Md_settled_55 : decode c_Md_settled 55 = .ok (.iaload, 1) := by decide +kernel
theorem d_Md_settled_56 : decode c_Md_settled 56 = .ok (.iload_n 2, 1) := by decide +kernel
theorem d_Md_settled_57 : decode c_Md_settled 57 = .ok (.if_icmp .ne 45, 3) := by decide +kernel
theorem d_Md_settled_60 : decode c_Md_settled 60 = .ok (.aload_n 0, 1) := by decide +kernel
theorem d_Md_settled_61 : decode c_Md_settled 61 = .ok (.getfield 7, 3) := by decide +kernel
theorem d_Md_settled_64 : decode c_Md_settled 64 = .ok (.iload_n 3, 1) := by decide +kernel
theorem d_Md_settled_65 : decode c_Md_settled 65 = .ok (.invokestatic 43, 3) := by decide +kernel
theorem d_Md_settled_68 : decode c_Md_settled 68 = .ok (.iconst 0, 1) := by decide +kernel
theorem d_Md_settled_69 : decode c_Md_settled 69 = .ok (.iadd, 1) := by decide +kernel
theorem d_Md_settled_70 : decode c_Md_settled 70 = .ok (.iaload, 1) := by decide +kernel
theorem d_Md_settled_71 : decode c_Md_settled 71 = .ok (.iconst 1, 1) := by decide +kernel
theorem d_Md_settled_72 : decode c_Md_settled 72 = .ok (.if_icmp .ne 30, 3) := by decide +kernel
theorem d_Md_settled_75 : decode c_Md_settled 75 = .ok (.aload_n 0, 1) := by decide +kernel
theorem d_Md_settled_76 : decode c_Md_settled 76 = .ok (.getfield 7, 3) := by decide +kernel
theorem d_Md_settled_79 : decode c_Md_settled 79 = .ok (.iload_n 3, 1) := by decide +kernel
theorem d_Md_settled_80 : decode c_Md_settled 80 = .ok (.invokestatic 43, 3) := by decide +kernel
theorem d_Md_settled_83 : decode c_Md_settled 83 = .ok (.iconst 3, 1) := by decide +kernel
theorem d_Md_settled_84 : decode c_Md_settled 84 = .ok (.iadd, 1) := by decide +kernel
theorem d_Md_settled_85 : decode c_Md_settled 85 = .ok (.iaload, 1) := by decide +kernel
theorem d_Md_settled_86 : decode c_Md_settled 86 = .ok (.iload_n 1, 1) := by decide +kernel
theorem d_Md_settled_87 : decode c_Md_settled 87 = .ok (.if_icmp .ne 15, 3) := by decide +kernel
theorem d_Md_settled_90 : decode c_Md_settled 90 = .ok (.aload_n 0, 1) := by decide +kernel
theorem d_Md_settled_91 : decode c_Md_settled 91 = .ok (.getfield 7, 3) := by decide +kernel
theorem d_Md_settled_94 : decode c_Md_settled 94 = .ok (.iload_n 3, 1) := by decide +kernel
theorem d_Md_settled_95 : decode c_Md_settled 95 = .ok (.invokestatic 43, 3) := by decide +kernel
theorem d_Md_settled_98 : decode c_Md_settled 98 = .ok (.iconst 4, 1) := by decide +kernel
theorem d_Md_settled_99 : decode c_Md_settled 99 = .ok (.iadd, 1) := by decide +kernel
theorem d_Md_settled_100 : decode c_Md_settled 100 = .ok (.iaload, 1) := by decide +kernel
theorem d_Md_settled_101 : decode c_Md_settled 101 = .ok (.ireturn, 1) := by decide +kernel
theorem d_Md_settled_102 : decode c_Md_settled 102 = .ok (.iinc 3 1, 3) := by decide +kernel
theorem d_Md_settled_105 : decode c_Md_settled 105 = .ok (.goto (-71), 3) := by decide +kernel
theorem d_Md_settled_108 : decode c_Md_settled 108 = .ok (.aload_n 0, 1) := by decide +kernel
theorem d_Md_settled_109 : decode c_Md_settled 109 = .ok (.getfield 7, 3) := by decide +kernel
theorem d_Md_settled_112 : decode c_Md_settled 112 = .ok (.iload_n 1, 1) := by decide +kernel
theorem d_Md_settled_113 : decode c_Md_settled 113 = .ok (.invokestatic 167, 3) := by decide +kernel
theorem d_Md_settled_116 : decode c_Md_settled 116 = .ok (.ireturn, 1) := by decide +kernel
theorem d_Md_put_0 : decode c_Md_put 0 = .ok (.iconst 0, 1) := by decide +kernel
theorem d_Md_put_1 : decode c_Md_put 1 = .ok (.istore_n 3, 1) := by decide +kernel
theorem d_Md_put_2 : decode c_Md_put 2 = .ok (.lload_n 1, 1) := by decide +kernel
theorem d_Md_put_3 : decode c_Md_put 3 = .ok (.lstore 4, 2) := by decide +kernel
theorem d_Md_put_5 : decode c_Md_put 5 = .ok (.iload_n 3, 1) := by decide +kernel
theorem d_Md_put_6 : decode c_Md_put 6 = .ok (.bipush 8, 2) := by decide +kernel
theorem d_Md_put_8 : decode c_Md_put 8 = .ok (.if_icmp .ge 48, 3) := by decide +kernel
theorem d_Md_put_11 : decode c_Md_put 11 = .ok (.lload 4, 2) := by decide +kernel
theorem d_Md_put_13 : decode c_Md_put 13 = .ok (.ldc2_w 173, 3) := by decide +kernel
theorem d_Md_put_16 : decode c_Md_put 16 = .ok (.land, 1) := by decide +kernel
theorem d_Md_put_17 : decode c_Md_put 17 = .ok (.lconst 0, 1) := by decide +kernel
theorem d_Md_put_18 : decode c_Md_put 18 = .ok (.lcmp, 1) := by decide +kernel
theorem d_Md_put_19 : decode c_Md_put 19 = .ok (.ifCond .eq 37, 3) := by decide +kernel
theorem d_Md_put_22 : decode c_Md_put 22 = .ok (.lload 4, 2) := by decide +kernel
theorem d_Md_put_24 : decode c_Md_put 24 = .ok (.ldc2_w 173, 3) := by decide +kernel
theorem d_Md_put_27 : decode c_Md_put 27 = .ok (.land, 1) := by decide +kernel
theorem d_Md_put_28 : decode c_Md_put 28 = .ok (.ldc2_w 175, 3) := by decide +kernel
theorem d_Md_put_31 : decode c_Md_put 31 = .ok (.ldc2_w 177, 3) := by decide +kernel
theorem d_Md_put_34 : decode c_Md_put 34 = .ok (.invokestatic 35, 3) := by decide +kernel
theorem d_Md_put_37 : decode c_Md_put 37 = .ok (.ifCond .ne 6, 3) := by decide +kernel
theorem d_Md_put_40 : decode c_Md_put 40 = .ok (.bipush (-2), 2) := by decide +kernel
theorem d_Md_put_42 : decode c_Md_put 42 = .ok (.ireturn, 1) := by decide +kernel
theorem d_Md_put_43 : decode c_Md_put 43 = .ok (.iinc 3 1, 3) := by decide +kernel
theorem d_Md_put_46 : decode c_Md_put 46 = .ok (.lload 4, 2) := by decide +kernel
theorem d_Md_put_48 : decode c_Md_put 48 = .ok (.bipush 8, 2) := by decide +kernel
theorem d_Md_put_50 : decode c_Md_put 50 = .ok (.lushr, 1) := by decide +kernel
theorem d_Md_put_51 : decode c_Md_put 51 = .ok (.lstore 4, 2) := by decide +kernel
theorem d_Md_put_53 : decode c_Md_put 53 = .ok (.goto (-48), 3) := by decide +kernel
theorem d_Md_put_56 : decode c_Md_put 56 = .ok (.iload_n 3, 1) := by decide +kernel
theorem d_Md_put_57 : decode c_Md_put 57 = .ok (.ifCond .eq 10, 3) := by decide +kernel
theorem d_Md_put_60 : decode c_Md_put 60 = .ok (.lload 4, 2) := by decide +kernel
theorem d_Md_put_62 : decode c_Md_put 62 = .ok (.lconst 0, 1) := by decide +kernel
theorem d_Md_put_63 : decode c_Md_put 63 = .ok (.lcmp, 1) := by decide +kernel
theorem d_Md_put_64 : decode c_Md_put 64 = .ok (.ifCond .eq 6, 3) := by decide +kernel
theorem d_Md_put_67 : decode c_Md_put 67 = .ok (.bipush (-2), 2) := by decide +kernel
theorem d_Md_put_69 : decode c_Md_put 69 = .ok (.ireturn, 1) := by decide +kernel
theorem d_Md_put_70 : decode c_Md_put 70 = .ok (.aload_n 0, 1) := by decide +kernel
theorem d_Md_put_71 : decode c_Md_put 71 = .ok (.getfield 160, 3) := by decide +kernel
theorem d_Md_put_74 : decode c_Md_put 74 = .ok (.iload_n 3, 1) := by decide +kernel
theorem d_Md_put_75 : decode c_Md_put 75 = .ok (.iadd, 1) := by decide +kernel
theorem d_Md_put_76 : decode c_Md_put 76 = .ok (.bipush 80, 2) := by decide +kernel
theorem d_Md_put_78 : decode c_Md_put 78 = .ok (.if_icmp .le 6, 3) := by decide +kernel
theorem d_Md_put_81 : decode c_Md_put 81 = .ok (.bipush (-4), 2) := by decide +kernel
theorem d_Md_put_83 : decode c_Md_put 83 = .ok (.ireturn, 1) := by decide +kernel
theorem d_Md_put_84 : decode c_Md_put 84 = .ok (.iload_n 3, 1) := by decide +kernel
theorem d_Md_put_85 : decode c_Md_put 85 = .ok (.iconst 1, 1) := by decide +kernel
theorem d_Md_put_86 : decode c_Md_put 86 = .ok (.isub, 1) := by decide +kernel
theorem d_Md_put_87 : decode c_Md_put 87 = .ok (.istore 6, 2) := by decide +kernel
theorem d_Md_put_89 : decode c_Md_put 89 = .ok (.iload 6, 2) := by decide +kernel
theorem d_Md_put_91 : decode c_Md_put 91 = .ok (.ifCond .lt 40, 3) := by decide +kernel
theorem d_Md_put_94 : decode c_Md_put 94 = .ok (.aload_n 0, 1) := by decide +kernel
theorem d_Md_put_95 : decode c_Md_put 95 = .ok (.getfield 26, 3) := by decide +kernel
theorem d_Md_put_98 : decode c_Md_put 98 = .ok (.aload_n 0, 1) := by decide +kernel
theorem d_Md_put_99 : decode c_Md_put 99 = .ok (.getfield 160, 3) := by decide +kernel
theorem d_Md_put_102 : decode c_Md_put 102 = .ok (.lload_n 1, 1) := by decide +kernel
theorem d_Md_put_103 : decode c_Md_put 103 = .ok (.bipush 8, 2) := by decide +kernel
theorem d_Md_put_105 : decode c_Md_put 105 = .ok (.iload 6, 2) := by decide +kernel
theorem d_Md_put_107 : decode c_Md_put 107 = .ok (.imul, 1) := by decide +kernel
theorem d_Md_put_108 : decode c_Md_put 108 = .ok (.lushr, 1) := by decide +kernel
theorem d_Md_put_109 : decode c_Md_put 109 = .ok (.ldc2_w 173, 3) := by decide +kernel
theorem d_Md_put_112 : decode c_Md_put 112 = .ok (.land, 1) := by decide +kernel
theorem d_Md_put_113 : decode c_Md_put 113 = .ok (.l2i, 1) := by decide +kernel
theorem d_Md_put_114 : decode c_Md_put 114 = .ok (.iastore, 1) := by decide +kernel
theorem d_Md_put_115 : decode c_Md_put 115 = .ok (.aload_n 0, 1) := by decide +kernel
theorem d_Md_put_116 : decode c_Md_put 116 = .ok (.dup, 1) := by decide +kernel
theorem d_Md_put_117 : decode c_Md_put 117 = .ok (.getfield 160, 3) := by decide +kernel
theorem d_Md_put_120 : decode c_Md_put 120 = .ok (.iconst 1, 1) := by decide +kernel
theorem d_Md_put_121 : decode c_Md_put 121 = .ok (.iadd, 1) := by decide +kernel
theorem d_Md_put_122 : decode c_Md_put 122 = .ok (.putfield 160, 3) := by decide +kernel
theorem d_Md_put_125 : decode c_Md_put 125 = .ok (.iinc 6 (-1), 3) := by decide +kernel
theorem d_Md_put_128 : decode c_Md_put 128 = .ok (.goto (-39), 3) := by decide +kernel
theorem d_Md_put_131 : decode c_Md_put 131 = .ok (.aload_n 0, 1) := by decide +kernel
theorem d_Md_put_132 : decode c_Md_put 132 = .ok (.getfield 160, 3) := by decide +kernel
theorem d_Md_put_135 : decode c_Md_put 135 = .ok (.ireturn, 1) := by decide +kernel
theorem d_Md_wipe_0 : decode c_Md_wipe 0 = .ok (.aload_n 0, 1) := by decide +kernel
theorem d_Md_wipe_1 : decode c_Md_wipe 1 = .ok (.getfield 160, 3) := by decide +kernel
theorem d_Md_wipe_4 : decode c_Md_wipe 4 = .ok (.istore_n 1, 1) := by decide +kernel
theorem d_Md_wipe_5 : decode c_Md_wipe 5 = .ok (.aload_n 0, 1) := by decide +kernel
theorem d_Md_wipe_6 : decode c_Md_wipe 6 = .ok (.iconst 0, 1) := by decide +kernel
theorem d_Md_wipe_7 : decode c_Md_wipe 7 = .ok (.putfield 160, 3) := by decide +kernel
theorem d_Md_wipe_10 : decode c_Md_wipe 10 = .ok (.iload_n 1, 1) := by decide +kernel
theorem d_Md_wipe_11 : decode c_Md_wipe 11 = .ok (.ireturn, 1) := by decide +kernel
theorem d_Md_sign_0 : decode c_Md_sign 0 = .ok (.aload_n 0, 1) := by decide +kernel
theorem d_Md_sign_1 : decode c_Md_sign 1 = .ok (.getfield 179, 3) := by decide +kernel
theorem d_Md_sign_4 : decode c_Md_sign 4 = .ok (.aload_n 0, 1) := by decide +kernel
theorem d_Md_sign_5 : decode c_Md_sign 5 = .ok (.getfield 160, 3) := by decide +kernel
theorem d_Md_sign_8 : decode c_Md_sign 8 = .ok (.if_icmp .ge 15, 3) := by decide +kernel
theorem d_Md_sign_11 : decode c_Md_sign 11 = .ok (.aload_n 0, 1) := by decide +kernel
theorem d_Md_sign_12 : decode c_Md_sign 12 = .ok (.getfield 26, 3) := by decide +kernel
theorem d_Md_sign_15 : decode c_Md_sign 15 = .ok (.aload_n 0, 1) := by decide +kernel
theorem d_Md_sign_16 : decode c_Md_sign 16 = .ok (.getfield 179, 3) := by decide +kernel
theorem d_Md_sign_19 : decode c_Md_sign 19 = .ok (.iaload, 1) := by decide +kernel
theorem d_Md_sign_20 : decode c_Md_sign 20 = .ok (.goto 5, 3) := by decide +kernel
theorem d_Md_sign_23 : decode c_Md_sign 23 = .ok (.bipush (-6), 2) := by decide +kernel
theorem d_Md_sign_25 : decode c_Md_sign 25 = .ok (.ireturn, 1) := by decide +kernel
theorem d_Md_taken_0 : decode c_Md_taken 0 = .ok (.aload_n 0, 1) := by decide +kernel
theorem d_Md_taken_1 : decode c_Md_taken 1 = .ok (.invokevirtual 182, 3) := by decide +kernel
theorem d_Md_taken_4 : decode c_Md_taken 4 = .ok (.istore_n 3, 1) := by decide +kernel
theorem d_Md_taken_5 : decode c_Md_taken 5 = .ok (.iload_n 3, 1) := by decide +kernel
theorem d_Md_taken_6 : decode c_Md_taken 6 = .ok (.i2l, 1) := by decide +kernel
theorem d_Md_taken_7 : decode c_Md_taken 7 = .ok (.iload_n 1, 1) := by decide +kernel
theorem d_Md_taken_8 : decode c_Md_taken 8 = .ok (.i2l, 1) := by decide +kernel
theorem d_Md_taken_9 : decode c_Md_taken 9 = .ok (.iload_n 2, 1) := by decide +kernel
theorem d_Md_taken_10 : decode c_Md_taken 10 = .ok (.i2l, 1) := by decide +kernel
theorem d_Md_taken_11 : decode c_Md_taken 11 = .ok (.invokestatic 35, 3) := by decide +kernel
theorem d_Md_taken_14 : decode c_Md_taken 14 = .ok (.ifCond .ne 6, 3) := by decide +kernel
theorem d_Md_taken_17 : decode c_Md_taken 17 = .ok (.bipush (-6), 2) := by decide +kernel
theorem d_Md_taken_19 : decode c_Md_taken 19 = .ok (.ireturn, 1) := by decide +kernel
theorem d_Md_taken_20 : decode c_Md_taken 20 = .ok (.aload_n 0, 1) := by decide +kernel
theorem d_Md_taken_21 : decode c_Md_taken 21 = .ok (.dup, 1) := by decide +kernel
theorem d_Md_taken_22 : decode c_Md_taken 22 = .ok (.getfield 179, 3) := by decide +kernel
theorem d_Md_taken_25 : decode c_Md_taken 25 = .ok (.iconst 1, 1) := by decide +kernel
theorem d_Md_taken_26 : decode c_Md_taken 26 = .ok (.iadd, 1) := by decide +kernel
theorem d_Md_taken_27 : decode c_Md_taken 27 = .ok (.putfield 179, 3) := by decide +kernel
theorem d_Md_taken_30 : decode c_Md_taken 30 = .ok (.iload_n 3, 1) := by decide +kernel
theorem d_Md_taken_31 : decode c_Md_taken 31 = .ok (.iload_n 1, 1) := by decide +kernel
theorem d_Md_taken_32 : decode c_Md_taken 32 = .ok (.isub, 1) := by decide +kernel
theorem d_Md_taken_33 : decode c_Md_taken 33 = .ok (.ireturn, 1) := by decide +kernel
theorem d_Md_number_0 : decode c_Md_number 0 = .ok (.aload_n 0, 1) := by decide +kernel
theorem d_Md_number_1 : decode c_Md_number 1 = .ok (.bipush 48, 2) := by decide +kernel
theorem d_Md_number_3 : decode c_Md_number 3 = .ok (.bipush 57, 2) := by decide +kernel
theorem d_Md_number_5 : decode c_Md_number 5 = .ok (.invokevirtual 185, 3) := by decide +kernel
theorem d_Md_number_8 : decode c_Md_number 8 = .ok (.istore_n 1, 1) := by decide +kernel
theorem d_Md_number_9 : decode c_Md_number 9 = .ok (.iload_n 1, 1) := by decide +kernel
theorem d_Md_number_10 : decode c_Md_number 10 = .ok (.bipush (-6), 2) := by decide +kernel
theorem d_Md_number_12 : decode c_Md_number 12 = .ok (.if_icmp .eq 71, 3) := by decide +kernel
theorem d_Md_number_15 : decode c_Md_number 15 = .ok (.aload_n 0, 1) := by decide +kernel
theorem d_Md_number_16 : decode c_Md_number 16 = .ok (.invokevirtual 182, 3) := by decide +kernel
theorem d_Md_number_19 : decode c_Md_number 19 = .ok (.i2l, 1) := by decide +kernel
theorem d_Md_number_20 : decode c_Md_number 20 = .ok (.ldc2_w 189, 3) := by decide +kernel
theorem d_Md_number_23 : decode c_Md_number 23 = .ok (.ldc2_w 191, 3) := by decide +kernel
theorem d_Md_number_26 : decode c_Md_number 26 = .ok (.invokestatic 35, 3) := by decide +kernel
theorem d_Md_number_29 : decode c_Md_number 29 = .ok (.ifCond .eq 54, 3) := by decide +kernel
theorem d_Md_number_32 : decode c_Md_number 32 = .ok (.iload_n 1, 1) := by decide +kernel
theorem d_Md_number_33 : decode c_Md_number 33 = .ok (.ifCond .eq 21, 3) := by decide +kernel
theorem d_Md_number_36 : decode c_Md_number 36 = .ok (.bipush 10, 2) := by decide +kernel
theorem d_Md_number_38 : decode c_Md_number 38 = .ok (.iload_n 1, 1) := by decide +kernel
theorem d_Md_number_39 : decode c_Md_number 39 = .ok (.imul, 1) := by decide +kernel
theorem d_Md_number_40 : decode c_Md_number 40 = .ok (.aload_n 0, 1) := by decide +kernel
theorem d_Md_number_41 : decode c_Md_number 41 = .ok (.invokevirtual 182, 3) := by decide +kernel
theorem d_Md_number_44 : decode c_Md_number 44 = .ok (.iadd, 1) := by decide +kernel
theorem d_Md_number_45 : decode c_Md_number 45 = .ok (.bipush 48, 2) := by decide +kernel
theorem d_Md_number_47 : decode c_Md_number 47 = .ok (.isub, 1) := by decide +kernel
theorem d_Md_number_48 : decode c_Md_number 48 = .ok (.sipush 999, 3) := by decide +kernel
theorem d_Md_number_51 : decode c_Md_number 51 = .ok (.if_icmp .le 6, 3) := by decide +kernel
theorem d_Md_number_54 : decode c_Md_number 54 = .ok (.bipush (-6), 2) := by decide +kernel
theorem d_Md_number_56 : decode c_Md_number 56 = .ok (.ireturn, 1) := by decide +kernel
theorem d_Md_number_57 : decode c_Md_number 57 = .ok (.bipush 10, 2) := by decide +kernel
theorem d_Md_number_59 : decode c_Md_number 59 = .ok (.iload_n 1, 1) := by decide +kernel
theorem d_Md_number_60 : decode c_Md_number 60 = .ok (.imul, 1) := by decide +kernel
theorem d_Md_number_61 : decode c_Md_number 61 = .ok (.aload_n 0, 1) := by decide +kernel
theorem d_Md_number_62 : decode c_Md_number 62 = .ok (.invokevirtual 182, 3) := by decide +kernel
theorem d_Md_number_65 : decode c_Md_number 65 = .ok (.iadd, 1) := by decide +kernel
theorem d_Md_number_66 : decode c_Md_number 66 = .ok (.bipush 48, 2) := by decide +kernel
theorem d_Md_number_68 : decode c_Md_number 68 = .ok (.isub, 1) := by decide +kernel
theorem d_Md_number_69 : decode c_Md_number 69 = .ok (.istore_n 1, 1) := by decide +kernel
theorem d_Md_number_70 : decode c_Md_number 70 = .ok (.aload_n 0, 1) := by decide +kernel
theorem d_Md_number_71 : decode c_Md_number 71 = .ok (.dup, 1) := by decide +kernel
theorem d_Md_number_72 : decode c_Md_number 72 = .ok (.getfield 179, 3) := by decide +kernel
theorem d_Md_number_75 : decode c_Md_number 75 = .ok (.iconst 1, 1) := by decide +kernel
theorem d_Md_number_76 : decode c_Md_number 76 = .ok (.iadd, 1) := by decide +kernel
theorem d_Md_number_77 : decode c_Md_number 77 = .ok (.putfield 179, 3) := by decide +kernel
theorem d_Md_number_80 : decode c_Md_number 80 = .ok (.goto (-71), 3) := by decide +kernel
theorem d_Md_number_83 : decode c_Md_number 83 = .ok (.iload_n 1, 1) := by decide +kernel
theorem d_Md_number_84 : decode c_Md_number 84 = .ok (.ireturn, 1) := by decide +kernel
theorem d_Md_readOrder_0 : decode c_Md_readOrder 0 = .ok (.aload_n 0, 1) := by decide +kernel
theorem d_Md_readOrder_1 : decode c_Md_readOrder 1 = .ok (.invokevirtual 182, 3) := by decide +kernel
theorem d_Md_readOrder_4 : decode c_Md_readOrder 4 = .ok (.istore_n 1, 1) := by decide +kernel
theorem d_Md_readOrder_5 : decode c_Md_readOrder 5 = .ok (.iload_n 1, 1) := by decide +kernel
theorem d_Md_readOrder_6 : decode c_Md_readOrder 6 = .ok (.bipush 98, 2) := by decide +kernel
theorem d_Md_readOrder_8 : decode c_Md_readOrder 8 = .ok (.if_icmp .eq 47, 3) := by decide +kernel
theorem d_Md_readOrder_11 : decode c_Md_readOrder 11 = .ok (.iload_n 1, 1) := by decide +kernel
theorem d_Md_readOrder_12 : decode c_Md_readOrder 12 = .ok (.bipush 119, 2) := by decide +kernel
theorem d_Md_readOrder_14 : decode c_Md_readOrder 14 = .ok (.if_icmp .eq 41, 3) := by decide +kernel
theorem d_Md_readOrder_17 : decode c_Md_readOrder 17 = .ok (.iload_n 1, 1) := by decide +kernel
theorem d_Md_readOrder_18 : decode c_Md_readOrder 18 = .ok (.bipush 102, 2) := by decide +kernel
theorem d_Md_readOrder_20 : decode c_Md_readOrder 20 = .ok (.if_icmp .eq 35, 3) := by decide +kernel
theorem d_Md_readOrder_23 : decode c_Md_readOrder 23 = .ok (.iload_n 1, 1) := by decide +kernel
theorem d_Md_readOrder_24 : decode c_Md_readOrder 24 = .ok (.bipush 116, 2) := by decide +kernel
theorem d_Md_readOrder_26 : decode c_Md_readOrder 26 = .ok (.if_icmp .eq 29, 3) := by decide +kernel
theorem d_Md_readOrder_29 : decode c_Md_readOrder 29 = .ok (.iload_n 1, 1) := by decide +kernel
theorem d_Md_readOrder_30 : decode c_Md_readOrder 30 = .ok (.bipush 112, 2) := by decide +kernel
theorem d_Md_readOrder_32 : decode c_Md_readOrder 32 = .ok (.if_icmp .eq 23, 3) := by decide +kernel
theorem d_Md_readOrder_35 : decode c_Md_readOrder 35 = .ok (.iload_n 1, 1) := by decide +kernel
theorem d_Md_readOrder_36 : decode c_Md_readOrder 36 = .ok (.bipush 115, 2) := by decide +kernel
theorem d_Md_readOrder_38 : decode c_Md_readOrder 38 = .ok (.if_icmp .eq 17, 3) := by decide +kernel
theorem d_Md_readOrder_41 : decode c_Md_readOrder 41 = .ok (.iload_n 1, 1) := by decide +kernel
theorem d_Md_readOrder_42 : decode c_Md_readOrder 42 = .ok (.bipush 120, 2) := by decide +kernel
theorem d_Md_readOrder_44 : decode c_Md_readOrder 44 = .ok (.if_icmp .eq 11, 3) := by decide +kernel
theorem d_Md_readOrder_47 : decode c_Md_readOrder 47 = .ok (.iload_n 1, 1) := by decide +kernel
theorem d_Md_readOrder_48 : decode c_Md_readOrder 48 = .ok (.bipush 109, 2) := by decide +kernel
theorem d_Md_readOrder_50 : decode c_Md_readOrder 50 = .ok (.if_icmp .eq 5, 3) := by decide +kernel
theorem d_Md_readOrder_53 : decode c_Md_readOrder 53 = .ok (.iconst 0, 1) := by decide +kernel
theorem d_Md_readOrder_54 : decode c_Md_readOrder 54 = .ok (.ireturn, 1) := by decide +kernel
theorem d_Md_readOrder_55 : decode c_Md_readOrder 55 = .ok (.aload_n 0, 1) := by decide +kernel
theorem d_Md_readOrder_56 : decode c_Md_readOrder 56 = .ok (.dup, 1) := by decide +kernel
theorem d_Md_readOrder_57 : decode c_Md_readOrder 57 = .ok (.getfield 179, 3) := by decide +kernel
theorem d_Md_readOrder_60 : decode c_Md_readOrder 60 = .ok (.iconst 1, 1) := by decide +kernel
theorem d_Md_readOrder_61 : decode c_Md_readOrder 61 = .ok (.iadd, 1) := by decide +kernel
theorem d_Md_readOrder_62 : decode c_Md_readOrder 62 = .ok (.putfield 179, 3) := by decide +kernel
theorem d_Md_readOrder_65 : decode c_Md_readOrder 65 = .ok (.iload_n 1, 1) := by decide +kernel
theorem d_Md_readOrder_66 : decode c_Md_readOrder 66 = .ok (.bipush 98, 2) := by decide +kernel
theorem d_Md_readOrder_68 : decode c_Md_readOrder 68 = .ok (.if_icmp .eq 9, 3) := by decide +kernel
theorem d_Md_readOrder_71 : decode c_Md_readOrder 71 = .ok (.iload_n 1, 1) := by decide +kernel
theorem d_Md_readOrder_72 : decode c_Md_readOrder 72 = .ok (.bipush 120, 2) := by decide +kernel
theorem d_Md_readOrder_74 : decode c_Md_readOrder 74 = .ok (.if_icmp .ne 5, 3) := by decide +kernel
theorem d_Md_readOrder_77 : decode c_Md_readOrder 77 = .ok (.iconst 1, 1) := by decide +kernel
theorem d_Md_readOrder_78 : decode c_Md_readOrder 78 = .ok (.ireturn, 1) := by decide +kernel
theorem d_Md_readOrder_79 : decode c_Md_readOrder 79 = .ok (.iload_n 1, 1) := by decide +kernel
theorem d_Md_readOrder_80 : decode c_Md_readOrder 80 = .ok (.bipush 112, 2) := by decide +kernel
theorem d_Md_readOrder_82 : decode c_Md_readOrder 82 = .ok (.if_icmp .ne 22, 3) := by decide +kernel
theorem d_Md_readOrder_85 : decode c_Md_readOrder 85 = .ok (.aload_n 0, 1) := by decide +kernel
theorem d_Md_readOrder_86 : decode c_Md_readOrder 86 = .ok (.bipush 48, 2) := by decide +kernel
theorem d_Md_readOrder_88 : decode c_Md_readOrder 88 = .ok (.bipush 55, 2) := by decide +kernel
theorem d_Md_readOrder_90 : decode c_Md_readOrder 90 = .ok (.invokevirtual 185, 3) := by decide +kernel
theorem d_Md_readOrder_93 : decode c_Md_readOrder 93 = .ok (.bipush (-6), 2) := by decide +kernel
theorem d_Md_readOrder_95 : decode c_Md_readOrder 95 = .ok (.if_icmp .eq 7, 3) := by decide +kernel
theorem d_Md_readOrder_98 : decode c_Md_readOrder 98 = .ok (.iconst 1, 1) := by decide +kernel
theorem d_Md_readOrder_99 : decode c_Md_readOrder 99 = .ok (.goto 4, 3) := by decide +kernel
theorem d_Md_readOrder_102 : decode c_Md_readOrder 102 = .ok (.iconst 0, 1) := by decide +kernel
theorem d_Md_readOrder_103 : decode c_Md_readOrder 103 = .ok (.ireturn, 1) := by decide +kernel
theorem d_Md_readOrder_104 : decode c_Md_readOrder 104 = .ok (.aload_n 0, 1) := by decide +kernel
theorem d_Md_readOrder_105 : decode c_Md_readOrder 105 = .ok (.invokevirtual 193, 3) := by decide +kernel
theorem d_Md_readOrder_108 : decode c_Md_readOrder 108 = .ok (.bipush (-6), 2) := by decide +kernel
theorem d_Md_readOrder_110 : decode c_Md_readOrder 110 = .ok (.if_icmp .eq 7, 3) := by decide +kernel
theorem d_Md_readOrder_113 : decode c_Md_readOrder 113 = .ok (.iconst 1, 1) := by decide +kernel
theorem d_Md_readOrder_114 : decode c_Md_readOrder 114 = .ok (.goto 4, 3) := by decide +kernel
theorem d_Md_readOrder_117 : decode c_Md_readOrder 117 = .ok (.iconst 0, 1) := by decide +kernel
theorem d_Md_readOrder_118 : decode c_Md_readOrder 118 = .ok (.istore_n 2, 1) := by decide +kernel
theorem d_Md_readOrder_119 : decode c_Md_readOrder 119 = .ok (.iload_n 2, 1) := by decide +kernel
theorem d_Md_readOrder_120 : decode c_Md_readOrder 120 = .ok (.ifCond .eq 61, 3) := by decide +kernel
theorem d_Md_readOrder_123 : decode c_Md_readOrder 123 = .ok (.iload_n 1, 1) := by decide +kernel
theorem d_Md_readOrder_124 : decode c_Md_readOrder 124 = .ok (.bipush 119, 2) := by decide +kernel
theorem d_Md_readOrder_126 : decode c_Md_readOrder 126 = .ok (.if_icmp .ne 51, 3) := by decide +kernel
theorem d_Md_readOrder_129 : decode c_Md_readOrder 129 = .ok (.aload_n 0, 1) := by decide +kernel
theorem d_Md_readOrder_130 : decode c_Md_readOrder 130 = .ok (.bipush 62, 2) := by decide +kernel
theorem d_Md_readOrder_132 : decode c_Md_readOrder 132 = .ok (.bipush 62, 2) := by decide +kernel
theorem d_Md_readOrder_134 : decode c_Md_readOrder 134 = .ok (.invokevirtual 185, 3) := by decide +kernel
theorem d_Md_readOrder_137 : decode c_Md_readOrder 137 = .ok (.bipush (-6), 2) := by decide +kernel
theorem d_Md_readOrder_139 : decode c_Md_readOrder 139 = .ok (.if_icmp .eq 42, 3) := by decide +kernel
theorem d_Md_readOrder_142 : decode c_Md_readOrder 142 = .ok (.aload_n 0, 1) := by decide +kernel
theorem d_Md_readOrder_143 : decode c_Md_readOrder 143 = .ok (.bipush 48, 2) := by decide +kernel
theorem d_Md_readOrder_145 : decode c_Md_readOrder 145 = .ok (.bipush 55, 2) := by decide +kernel
theorem d_Md_readOrder_147 : decode c_Md_readOrder 147 = .ok (.invokevirtual 185, 3) := by decide +kernel
theorem d_Md_readOrder_150 : decode c_Md_readOrder 150 = .ok (.bipush (-6), 2) := by decide +kernel
theorem d_Md_readOrder_152 : decode c_Md_readOrder 152 = .ok (.if_icmp .eq 29, 3) := by decide +kernel
theorem d_Md_readOrder_155 : decode c_Md_readOrder 155 = .ok (.aload_n 0, 1) := by decide +kernel
theorem d_Md_readOrder_156 : decode c_Md_readOrder 156 = .ok (.bipush 61, 2) := by decide +kernel
theorem d_Md_readOrder_158 : decode c_Md_readOrder 158 = .ok (.bipush 61, 2) := by decide +kernel
theorem d_Md_readOrder_160 : decode c_Md_readOrder 160 = .ok (.invokevirtual 185, 3) := by decide +kernel
theorem d_Md_readOrder_163 : decode c_Md_readOrder 163 = .ok (.bipush (-6), 2) := by decide +kernel
theorem d_Md_readOrder_165 : decode c_Md_readOrder 165 = .ok (.if_icmp .eq 16, 3) := by decide +kernel
theorem d_Md_readOrder_168 : decode c_Md_readOrder 168 = .ok (.aload_n 0, 1) := by decide +kernel
theorem d_Md_readOrder_169 : decode c_Md_readOrder 169 = .ok (.invokevirtual 193, 3) := by decide +kernel
theorem d_Md_readOrder_172 : decode c_Md_readOrder 172 = .ok (.bipush (-6), 2) := by decide +kernel
theorem d_Md_readOrder_174 : decode c_Md_readOrder 174 = .ok (.if_icmp .eq 7, 3) := by decide +kernel
theorem d_Md_readOrder_177 : decode c_Md_readOrder 177 = .ok (.iconst 1, 1) := by decide +kernel
theorem d_Md_readOrder_178 : decode c_Md_readOrder 178 = .ok (.goto 4, 3) := by decide +kernel
theorem d_Md_readOrder_181 : decode c_Md_readOrder 181 = .ok (.iconst 0, 1) := by decide +kernel
theorem d_Md_readOrder_182 : decode c_Md_readOrder 182 = .ok (.ireturn, 1) := by decide +kernel
theorem d_Md_fault_0 : decode c_Md_fault 0 = .ok (.aload_n 0, 1) := by decide +kernel
theorem d_Md_fault_1 : decode c_Md_fault 1 = .ok (.iconst 0, 1) := by decide +kernel
theorem d_Md_fault_2 : decode c_Md_fault 2 = .ok (.putfield 179, 3) := by decide +kernel
theorem d_Md_fault_5 : decode c_Md_fault 5 = .ok (.iconst 1, 1) := by decide +kernel
theorem d_Md_fault_6 : decode c_Md_fault 6 = .ok (.istore_n 1, 1) := by decide +kernel
theorem d_Md_fault_7 : decode c_Md_fault 7 = .ok (.iload_n 1, 1) := by decide +kernel
theorem d_Md_fault_8 : decode c_Md_fault 8 = .ok (.ifCond .eq 37, 3) := by decide +kernel
theorem d_Md_fault_11 : decode c_Md_fault 11 = .ok (.aload_n 0, 1) := by decide +kernel
theorem d_Md_fault_12 : decode c_Md_fault 12 = .ok (.invokevirtual 196, 3) := by decide +kernel
theorem d_Md_fault_15 : decode c_Md_fault 15 = .ok (.ifCond .ne 8, 3) := by decide +kernel
theorem d_Md_fault_18 : decode c_Md_fault 18 = .ok (.aload_n 0, 1) := by decide +kernel
theorem d_Md_fault_19 : decode c_Md_fault 19 = .ok (.getfield 179, 3) := by decide +kernel
theorem d_Md_fault_22 : decode c_Md_fault 22 = .ok (.ireturn, 1) := by decide +kernel
theorem d_Md_fault_23 : decode c_Md_fault 23 = .ok (.aload_n 0, 1) := by decide +kernel
theorem d_Md_fault_24 : decode c_Md_fault 24 = .ok (.bipush 59, 2) := by decide +kernel
theorem d_Md_fault_26 : decode c_Md_fault 26 = .ok (.bipush 59, 2) := by decide +kernel
theorem d_Md_fault_28 : decode c_Md_fault 28 = .ok (.invokevirtual 185, 3) := by decide +kernel
theorem d_Md_fault_31 : decode c_Md_fault 31 = .ok (.bipush (-6), 2) := by decide +kernel
theorem d_Md_fault_33 : decode c_Md_fault 33 = .ok (.if_icmp .eq 7, 3) := by decide +kernel
theorem d_Md_fault_36 : decode c_Md_fault 36 = .ok (.iconst 1, 1) := by decide +kernel
theorem d_Md_fault_37 : decode c_Md_fault 37 = .ok (.goto 4, 3) := by decide +kernel
theorem d_Md_fault_40 : decode c_Md_fault 40 = .ok (.iconst 0, 1) := by decide +kernel
theorem d_Md_fault_41 : decode c_Md_fault 41 = .ok (.istore_n 1, 1) := by decide +kernel
theorem d_Md_fault_42 : decode c_Md_fault 42 = .ok (.goto (-35), 3) := by decide +kernel
theorem d_Md_fault_45 : decode c_Md_fault 45 = .ok (.aload_n 0, 1) := by decide +kernel
theorem d_Md_fault_46 : decode c_Md_fault 46 = .ok (.getfield 179, 3) := by decide +kernel
theorem d_Md_fault_49 : decode c_Md_fault 49 = .ok (.aload_n 0, 1) := by decide +kernel
theorem d_Md_fault_50 : decode c_Md_fault 50 = .ok (.getfield 160, 3) := by decide +kernel
theorem d_Md_fault_53 : decode c_Md_fault 53 = .ok (.if_icmp .ge 10, 3) := by decide +kernel
theorem d_Md_fault_56 : decode c_Md_fault 56 = .ok (.aload_n 0, 1) := by decide +kernel
theorem d_Md_fault_57 : decode c_Md_fault 57 = .ok (.getfield 179, 3) := by decide +kernel
theorem d_Md_fault_60 : decode c_Md_fault 60 = .ok (.goto 5, 3) := by decide +kernel
theorem d_Md_fault_63 : decode c_Md_fault 63 = .ok (.bipush (-6), 2) := by decide +kernel
theorem d_Md_fault_65 : decode c_Md_fault 65 = .ok (.ireturn, 1) := by decide +kernel
theorem d_Md_doOrder_0 : decode c_Md_doOrder 0 = .ok (.aload_n 0, 1) := by decide +kernel
theorem d_Md_doOrder_1 : decode c_Md_doOrder 1 = .ok (.invokevirtual 182, 3) := by decide +kernel
theorem d_Md_doOrder_4 : decode c_Md_doOrder 4 = .ok (.istore_n 1, 1) := by decide +kernel
theorem d_Md_doOrder_5 : decode c_Md_doOrder 5 = .ok (.aload_n 0, 1) := by decide +kernel
theorem d_Md_doOrder_6 : decode c_Md_doOrder 6 = .ok (.dup, 1) := by decide +kernel
theorem d_Md_doOrder_7 : decode c_Md_doOrder 7 = .ok (.getfield 179, 3) := by decide +kernel
theorem d_Md_doOrder_10 : decode c_Md_doOrder 10 = .ok (.iconst 1, 1) := by decide +kernel
theorem d_Md_doOrder_11 : decode c_Md_doOrder 11 = .ok (.iadd, 1) := by decide +kernel
theorem d_Md_doOrder_12 : decode c_Md_doOrder 12 = .ok (.putfield 179, 3) := by decide +kernel
theorem d_Md_doOrder_15 : decode c_Md_doOrder 15 = .ok (.iload_n 1, 1) := by decide +kernel
theorem d_Md_doOrder_16 : decode c_Md_doOrder 16 = .ok (.bipush 98, 2) := by decide +kernel
theorem d_Md_doOrder_18 : decode c_Md_doOrder 18 = .ok (.if_icmp .eq 9, 3) := by decide +kernel
theorem d_Md_doOrder_21 : decode c_Md_doOrder 21 = .ok (.iload_n 1, 1) := by decide +kernel
theorem d_Md_doOrder_22 : decode c_Md_doOrder 22 = .ok (.bipush 120, 2) := by decide +kernel
theorem d_Md_doOrder_24 : decode c_Md_doOrder 24 = .ok (.if_icmp .ne 7, 3) := by decide +kernel
theorem d_Md_doOrder_27 : decode c_Md_doOrder 27 = .ok (.iconst 0, 1) := by decide +kernel
theorem d_Md_doOrder_28 : decode c_Md_doOrder 28 = .ok (.goto 24, 3) := by decide +kernel
theorem d_Md_doOrder_31 : decode c_Md_doOrder 31 = .ok (.iload_n 1, 1) := by decide +kernel
theorem d_Md_doOrder_32 : decode c_Md_doOrder 32 = .ok (.bipush 112, 2) := by decide +kernel
theorem d_Md_doOrder_34 : decode c_Md_doOrder 34 = .ok (.if_icmp .ne 14, 3) := by decide +kernel
theorem d_Md_doOrder_37 : decode c_Md_doOrder 37 = .ok (.aload_n 0, 1) := by decide +kernel
theorem d_Md_doOrder_38 : decode c_Md_doOrder 38 = .ok (.bipush 48, 2) := by decide +kernel
theorem d_Md_doOrder_40 : decode c_Md_doOrder 40 = .ok (.bipush 55, 2) := by decide +kernel
theorem d_Md_doOrder_42 : decode c_Md_doOrder 42 = .ok (.invokevirtual 185, 3) := by decide +kernel
theorem d_Md_doOrder_45 : decode c_Md_doOrder 45 = .ok (.goto 7, 3) := by decide +kernel
theorem d_Md_doOrder_48 : decode c_Md_doOrder 48 = .ok (.aload_n 0, 1) := by decide +kernel
theorem d_Md_doOrder_49 : decode c_Md_doOrder 49 = .ok (.invokevirtual 193, 3) := by decide +kernel
theorem d_Md_doOrder_52 : decode c_Md_doOrder 52 = .ok (.istore_n 2, 1) := by decide +kernel
theorem d_Md_doOrder_53 : decode c_Md_doOrder 53 = .ok (.iload_n 1, 1) := by decide +kernel
theorem d_Md_doOrder_54 : decode c_Md_doOrder 54 = .ok (.tableswitch 349 98 120 #[106, 349, 349, 349, 212, 349, 349, 349, 349, 349, 349, 349, 349, 349, 276, 349, 349, 308, 244, 349, 349, 136, 339], 106) := by decide +kernel
theorem d_Md_doOrder_160 : decode c_Md_doOrder 160 = .ok (.aload_n 0, 1) := by decide +kernel
theorem d_Md_doOrder_161 : decode c_Md_doOrder 161 = .ok (.getfield 7, 3) := by decide +kernel
theorem d_Md_doOrder_164 : decode c_Md_doOrder 164 = .ok (.invokestatic 90, 3) := by decide +kernel
theorem d_Md_doOrder_167 : decode c_Md_doOrder 167 = .ok (.ifCond .ne 7, 3) := by decide +kernel
theorem d_Md_doOrder_170 : decode c_Md_doOrder 170 = .ok (.iconst 1, 1) := by decide +kernel
theorem d_Md_doOrder_171 : decode c_Md_doOrder 171 = .ok (.goto 4, 3) := by decide +kernel
theorem d_Md_doOrder_174 : decode c_Md_doOrder 174 = .ok (.iconst 0, 1) := by decide +kernel
theorem d_Md_doOrder_175 : decode c_Md_doOrder 175 = .ok (.istore_n 3, 1) := by decide +kernel
theorem d_Md_doOrder_176 : decode c_Md_doOrder 176 = .ok (.iload_n 3, 1) := by decide +kernel
theorem d_Md_doOrder_177 : decode c_Md_doOrder 177 = .ok (.ifCond .eq 11, 3) := by decide +kernel
theorem d_Md_doOrder_180 : decode c_Md_doOrder 180 = .ok (.aload_n 0, 1) := by decide +kernel
theorem d_Md_doOrder_181 : decode c_Md_doOrder 181 = .ok (.getfield 7, 3) := by decide +kernel
theorem d_Md_doOrder_184 : decode c_Md_doOrder 184 = .ok (.invokestatic 96, 3) := by decide +kernel
theorem d_Md_doOrder_187 : decode c_Md_doOrder 187 = .ok (.pop, 1) := by decide +kernel
theorem d_Md_doOrder_188 : decode c_Md_doOrder 188 = .ok (.iload_n 3, 1) := by decide +kernel
theorem d_Md_doOrder_189 : decode c_Md_doOrder 189 = .ok (.ireturn, 1) := by decide +kernel
theorem d_Md_doOrder_190 : decode c_Md_doOrder 190 = .ok (.aload_n 0, 1) := by decide +kernel
theorem d_Md_doOrder_191 : decode c_Md_doOrder 191 = .ok (.dup, 1) := by decide +kernel
theorem d_Md_doOrder_192 : decode c_Md_doOrder 192 = .ok (.getfield 179, 3) := by decide +kernel
theorem d_Md_doOrder_195 : decode c_Md_doOrder 195 = .ok (.iconst 1, 1) := by decide +kernel
theorem d_Md_doOrder_196 : decode c_Md_doOrder 196 = .ok (.iadd, 1) := by decide +kernel
theorem d_Md_doOrder_197 : decode c_Md_doOrder 197 = .ok (.putfield 179, 3) := by decide +kernel
theorem d_Md_doOrder_200 : decode c_Md_doOrder 200 = .ok (.aload_n 0, 1) := by decide +kernel
theorem d_Md_doOrder_201 : decode c_Md_doOrder 201 = .ok (.bipush 48, 2) := by decide +kernel
theorem d_Md_doOrder_203 : decode c_Md_doOrder 203 = .ok (.bipush 55, 2) := by decide +kernel
theorem d_Md_doOrder_205 : decode c_Md_doOrder 205 = .ok (.invokevirtual 185, 3) := by decide +kernel
theorem d_Md_doOrder_208 : decode c_Md_doOrder 208 = .ok (.istore 4, 2) := by decide +kernel
theorem d_Md_doOrder_210 : decode c_Md_doOrder 210 = .ok (.aload_n 0, 1) := by decide +kernel
theorem d_Md_doOrder_211 : decode c_Md_doOrder 211 = .ok (.dup, 1) := by decide +kernel
theorem d_Md_doOrder_212 : decode c_Md_doOrder 212 = .ok (.getfield 179, 3) := by decide +kernel
theorem d_Md_doOrder_215 : decode c_Md_doOrder 215 = .ok (.iconst 1, 1) := by decide +kernel
theorem d_Md_doOrder_216 : decode c_Md_doOrder 216 = .ok (.iadd, 1) := by decide +kernel
theorem d_Md_doOrder_217 : decode c_Md_doOrder 217 = .ok (.putfield 179, 3) := by decide +kernel
theorem d_Md_doOrder_220 : decode c_Md_doOrder 220 = .ok (.aload_n 0, 1) := by decide +kernel
theorem d_Md_doOrder_221 : decode c_Md_doOrder 221 = .ok (.invokevirtual 193, 3) := by decide +kernel
theorem d_Md_doOrder_224 : decode c_Md_doOrder 224 = .ok (.istore 5, 2) := by decide +kernel
theorem d_Md_doOrder_226 : decode c_Md_doOrder 226 = .ok (.aload_n 0, 1) := by decide +kernel
theorem d_Md_doOrder_227 : decode c_Md_doOrder 227 = .ok (.getfield 7, 3) := by decide +kernel
theorem d_Md_doOrder_230 : decode c_Md_doOrder 230 = .ok (.iload_n 2, 1) := by decide +kernel
theorem d_Md_doOrder_231 : decode c_Md_doOrder 231 = .ok (.iload 4, 2) := by decide +kernel
theorem d_Md_doOrder_233 : decode c_Md_doOrder 233 = .ok (.iload 5, 2) := by decide +kernel
theorem d_Md_doOrder_235 : decode c_Md_doOrder 235 = .ok (.invokestatic 115, 3) := by decide +kernel
theorem d_Md_doOrder_238 : decode c_Md_doOrder 238 = .ok (.ifCond .ne 7, 3) := by decide +kernel
theorem d_Md_doOrder_241 : decode c_Md_doOrder 241 = .ok (.iconst 1, 1) := by decide +kernel
theorem d_Md_doOrder_242 : decode c_Md_doOrder 242 = .ok (.goto 4, 3) := by decide +kernel
theorem d_Md_doOrder_245 : decode c_Md_doOrder 245 = .ok (.iconst 0, 1) := by decide +kernel
theorem d_Md_doOrder_246 : decode c_Md_doOrder 246 = .ok (.istore_n 3, 1) := by decide +kernel
theorem d_Md_doOrder_247 : decode c_Md_doOrder 247 = .ok (.iload_n 3, 1) := by decide +kernel
theorem d_Md_doOrder_248 : decode c_Md_doOrder 248 = .ok (.ifCond .eq 16, 3) := by decide +kernel
theorem d_Md_doOrder_251 : decode c_Md_doOrder 251 = .ok (.aload_n 0, 1) := by decide +kernel
theorem d_Md_doOrder_252 : decode c_Md_doOrder 252 = .ok (.getfield 7, 3) := by decide +kernel
theorem d_Md_doOrder_255 : decode c_Md_doOrder 255 = .ok (.iload_n 2, 1) := by decide +kernel
theorem d_Md_doOrder_256 : decode c_Md_doOrder 256 = .ok (.iload 4, 2) := by decide +kernel
theorem d_Md_doOrder_258 : decode c_Md_doOrder 258 = .ok (.iload 5, 2) := by decide +kernel
theorem d_Md_doOrder_260 : decode c_Md_doOrder 260 = .ok (.invokestatic 119, 3) := by decide +kernel
theorem d_Md_doOrder_263 : decode c_Md_doOrder 263 = .ok (.pop, 1) := by decide +kernel
theorem d_Md_doOrder_264 : decode c_Md_doOrder 264 = .ok (.iload_n 3, 1) := by decide +kernel
theorem d_Md_doOrder_265 : decode c_Md_doOrder 265 = .ok (.ireturn, 1) := by decide +kernel
theorem d_Md_doOrder_266 : decode c_Md_doOrder 266 = .ok (.aload_n 0, 1) := by decide +kernel
theorem d_Md_doOrder_267 : decode c_Md_doOrder 267 = .ok (.getfield 7, 3) := by decide +kernel
theorem d_Md_doOrder_270 : decode c_Md_doOrder 270 = .ok (.iload_n 2, 1) := by decide +kernel
theorem d_Md_doOrder_271 : decode c_Md_doOrder 271 = .ok (.invokestatic 125, 3) := by decide +kernel
theorem d_Md_doOrder_274 : decode c_Md_doOrder 274 = .ok (.ifCond .ne 7, 3) := by decide +kernel
theorem d_Md_doOrder_277 : decode c_Md_doOrder 277 = .ok (.iconst 1, 1) := by decide +kernel
theorem d_Md_doOrder_278 : decode c_Md_doOrder 278 = .ok (.goto 4, 3) := by decide +kernel
theorem d_Md_doOrder_281 : decode c_Md_doOrder 281 = .ok (.iconst 0, 1) := by decide +kernel
theorem d_Md_doOrder_282 : decode c_Md_doOrder 282 = .ok (.istore_n 3, 1) := by decide +kernel
theorem d_Md_doOrder_283 : decode c_Md_doOrder 283 = .ok (.iload_n 3, 1) := by decide +kernel
theorem d_Md_doOrder_284 : decode c_Md_doOrder 284 = .ok (.ifCond .eq 12, 3) := by decide +kernel
theorem d_Md_doOrder_287 : decode c_Md_doOrder 287 = .ok (.aload_n 0, 1) := by decide +kernel
theorem d_Md_doOrder_288 : decode c_Md_doOrder 288 = .ok (.getfield 7, 3) := by decide +kernel
theorem d_Md_doOrder_291 : decode c_Md_doOrder 291 = .ok (.iload_n 2, 1) := by decide +kernel
theorem d_Md_doOrder_292 : decode c_Md_doOrder 292 = .ok (.invokestatic 128, 3) := by decide +kernel
theorem d_Md_doOrder_295 : decode c_Md_doOrder 295 = .ok (.pop, 1) := by decide +kernel
theorem d_Md_doOrder_296 : decode c_Md_doOrder 296 = .ok (.iload_n 3, 1) := by decide +kernel
theorem d_Md_doOrder_297 : decode c_Md_doOrder 297 = .ok (.ireturn, 1) := by decide +kernel
theorem d_Md_doOrder_298 : decode c_Md_doOrder 298 = .ok (.aload_n 0, 1) := by decide +kernel
theorem d_Md_doOrder_299 : decode c_Md_doOrder 299 = .ok (.getfield 7, 3) := by decide +kernel
theorem d_Md_doOrder_302 : decode c_Md_doOrder 302 = .ok (.iload_n 2, 1) := by decide +kernel
theorem d_Md_doOrder_303 : decode c_Md_doOrder 303 = .ok (.invokestatic 134, 3) := by decide +kernel
theorem d_Md_doOrder_306 : decode c_Md_doOrder 306 = .ok (.ifCond .ne 7, 3) := by decide +kernel
theorem d_Md_doOrder_309 : decode c_Md_doOrder 309 = .ok (.iconst 1, 1) := by decide +kernel
theorem d_Md_doOrder_310 : decode c_Md_doOrder 310 = .ok (.goto 4, 3) := by decide +kernel
theorem d_Md_doOrder_313 : decode c_Md_doOrder 313 = .ok (.iconst 0, 1) := by decide +kernel
theorem d_Md_doOrder_314 : decode c_Md_doOrder 314 = .ok (.istore_n 3, 1) := by decide +kernel
theorem d_Md_doOrder_315 : decode c_Md_doOrder 315 = .ok (.iload_n 3, 1) := by decide +kernel
theorem d_Md_doOrder_316 : decode c_Md_doOrder 316 = .ok (.ifCond .eq 12, 3) := by decide +kernel
theorem d_Md_doOrder_319 : decode c_Md_doOrder 319 = .ok (.aload_n 0, 1) := by decide +kernel
theorem d_Md_doOrder_320 : decode c_Md_doOrder 320 = .ok (.getfield 7, 3) := by decide +kernel
theorem d_Md_doOrder_323 : decode c_Md_doOrder 323 = .ok (.iload_n 2, 1) := by decide +kernel
theorem d_Md_doOrder_324 : decode c_Md_doOrder 324 = .ok (.invokestatic 137, 3) := by decide +kernel
theorem d_Md_doOrder_327 : decode c_Md_doOrder 327 = .ok (.pop, 1) := by decide +kernel
theorem d_Md_doOrder_328 : decode c_Md_doOrder 328 = .ok (.iload_n 3, 1) := by decide +kernel
theorem d_Md_doOrder_329 : decode c_Md_doOrder 329 = .ok (.ireturn, 1) := by decide +kernel
theorem d_Md_doOrder_330 : decode c_Md_doOrder 330 = .ok (.aload_n 0, 1) := by decide +kernel
theorem d_Md_doOrder_331 : decode c_Md_doOrder 331 = .ok (.getfield 7, 3) := by decide +kernel
theorem d_Md_doOrder_334 : decode c_Md_doOrder 334 = .ok (.iload_n 2, 1) := by decide +kernel
theorem d_Md_doOrder_335 : decode c_Md_doOrder 335 = .ok (.invokestatic 143, 3) := by decide +kernel
theorem d_Md_doOrder_338 : decode c_Md_doOrder 338 = .ok (.ifCond .ne 7, 3) := by decide +kernel
theorem d_Md_doOrder_341 : decode c_Md_doOrder 341 = .ok (.iconst 1, 1) := by decide +kernel
theorem d_Md_doOrder_342 : decode c_Md_doOrder 342 = .ok (.goto 4, 3) := by decide +kernel
theorem d_Md_doOrder_345 : decode c_Md_doOrder 345 = .ok (.iconst 0, 1) := by decide +kernel
theorem d_Md_doOrder_346 : decode c_Md_doOrder 346 = .ok (.istore_n 3, 1) := by decide +kernel
theorem d_Md_doOrder_347 : decode c_Md_doOrder 347 = .ok (.iload_n 3, 1) := by decide +kernel
theorem d_Md_doOrder_348 : decode c_Md_doOrder 348 = .ok (.ifCond .eq 12, 3) := by decide +kernel
theorem d_Md_doOrder_351 : decode c_Md_doOrder 351 = .ok (.aload_n 0, 1) := by decide +kernel
theorem d_Md_doOrder_352 : decode c_Md_doOrder 352 = .ok (.getfield 7, 3) := by decide +kernel
theorem d_Md_doOrder_355 : decode c_Md_doOrder 355 = .ok (.iload_n 2, 1) := by decide +kernel
theorem d_Md_doOrder_356 : decode c_Md_doOrder 356 = .ok (.invokestatic 146, 3) := by decide +kernel
theorem d_Md_doOrder_359 : decode c_Md_doOrder 359 = .ok (.pop, 1) := by decide +kernel
theorem d_Md_doOrder_360 : decode c_Md_doOrder 360 = .ok (.iload_n 3, 1) := by decide +kernel
theorem d_Md_doOrder_361 : decode c_Md_doOrder 361 = .ok (.ireturn, 1) := by decide +kernel
theorem d_Md_doOrder_362 : decode c_Md_doOrder 362 = .ok (.aload_n 0, 1) := by decide +kernel
theorem d_Md_doOrder_363 : decode c_Md_doOrder 363 = .ok (.getfield 7, 3) := by decide +kernel
theorem d_Md_doOrder_366 : decode c_Md_doOrder 366 = .ok (.iload_n 2, 1) := by decide +kernel
theorem d_Md_doOrder_367 : decode c_Md_doOrder 367 = .ok (.invokestatic 140, 3) := by decide +kernel
theorem d_Md_doOrder_370 : decode c_Md_doOrder 370 = .ok (.ifCond .ne 7, 3) := by decide +kernel
theorem d_Md_doOrder_373 : decode c_Md_doOrder 373 = .ok (.iconst 1, 1) := by decide +kernel
theorem d_Md_doOrder_374 : decode c_Md_doOrder 374 = .ok (.goto 4, 3) := by decide +kernel
theorem d_Md_doOrder_377 : decode c_Md_doOrder 377 = .ok (.iconst 0, 1) := by decide +kernel
theorem d_Md_doOrder_378 : decode c_Md_doOrder 378 = .ok (.istore_n 3, 1) := by decide +kernel
theorem d_Md_doOrder_379 : decode c_Md_doOrder 379 = .ok (.iload_n 3, 1) := by decide +kernel
theorem d_Md_doOrder_380 : decode c_Md_doOrder 380 = .ok (.ifCond .eq 11, 3) := by decide +kernel
theorem d_Md_doOrder_383 : decode c_Md_doOrder 383 = .ok (.aload_n 0, 1) := by decide +kernel
theorem d_Md_doOrder_384 : decode c_Md_doOrder 384 = .ok (.getfield 7, 3) := by decide +kernel
theorem d_Md_doOrder_387 : decode c_Md_doOrder 387 = .ok (.iload_n 2, 1) := by decide +kernel
theorem d_Md_doOrder_388 : decode c_Md_doOrder 388 = .ok (.invokestatic 122, 3) := by decide +kernel
theorem d_Md_doOrder_391 : decode c_Md_doOrder 391 = .ok (.iload_n 3, 1) := by decide +kernel
theorem d_Md_doOrder_392 : decode c_Md_doOrder 392 = .ok (.ireturn, 1) := by decide +kernel
theorem d_Md_doOrder_393 : decode c_Md_doOrder 393 = .ok (.aload_n 0, 1) := by decide +kernel
theorem d_Md_doOrder_394 : decode c_Md_doOrder 394 = .ok (.getfield 7, 3) := by decide +kernel
theorem d_Md_doOrder_397 : decode c_Md_doOrder 397 = .ok (.invokestatic 149, 3) := by decide +kernel
theorem d_Md_doOrder_400 : decode c_Md_doOrder 400 = .ok (.pop, 1) := by decide +kernel
theorem d_Md_doOrder_401 : decode c_Md_doOrder 401 = .ok (.iconst 1, 1) := by decide +kernel
theorem d_Md_doOrder_402 : decode c_Md_doOrder 402 = .ok (.ireturn, 1) := by decide +kernel
theorem d_Md_doOrder_403 : decode c_Md_doOrder 403 = .ok (.iload_n 2, 1) := by decide +kernel
theorem d_Md_doOrder_404 : decode c_Md_doOrder 404 = .ok (.ifCond .le 18, 3) := by decide +kernel
theorem d_Md_doOrder_407 : decode c_Md_doOrder 407 = .ok (.aload_n 0, 1) := by decide +kernel
theorem d_Md_doOrder_408 : decode c_Md_doOrder 408 = .ok (.getfield 7, 3) := by decide +kernel
theorem d_Md_doOrder_411 : decode c_Md_doOrder 411 = .ok (.bipush 59, 2) := by decide +kernel
theorem d_Md_doOrder_413 : decode c_Md_doOrder 413 = .ok (.iaload, 1) := by decide +kernel
theorem d_Md_doOrder_414 : decode c_Md_doOrder 414 = .ok (.iconst 1, 1) := by decide +kernel
theorem d_Md_doOrder_415 : decode c_Md_doOrder 415 = .ok (.if_icmp .ne 7, 3) := by decide +kernel
theorem d_Md_doOrder_418 : decode c_Md_doOrder 418 = .ok (.iconst 1, 1) := by decide +kernel
theorem d_Md_doOrder_419 : decode c_Md_doOrder 419 = .ok (.goto 4, 3) := by decide +kernel
theorem d_Md_doOrder_422 : decode c_Md_doOrder 422 = .ok (.iconst 0, 1) := by decide +kernel
theorem d_Md_doOrder_423 : decode c_Md_doOrder 423 = .ok (.istore_n 3, 1) := by decide +kernel
theorem d_Md_doOrder_424 : decode c_Md_doOrder 424 = .ok (.iload_n 3, 1) := by decide +kernel
theorem d_Md_doOrder_425 : decode c_Md_doOrder 425 = .ok (.ifCond .eq 12, 3) := by decide +kernel
theorem d_Md_doOrder_428 : decode c_Md_doOrder 428 = .ok (.aload_n 0, 1) := by decide +kernel
theorem d_Md_doOrder_429 : decode c_Md_doOrder 429 = .ok (.getfield 7, 3) := by decide +kernel
theorem d_Md_doOrder_432 : decode c_Md_doOrder 432 = .ok (.iload_n 2, 1) := by decide +kernel
theorem d_Md_doOrder_433 : decode c_Md_doOrder 433 = .ok (.invokestatic 154, 3) := by decide +kernel
theorem d_Md_doOrder_436 : decode c_Md_doOrder 436 = .ok (.pop, 1) := by decide +kernel
theorem d_Md_doOrder_437 : decode c_Md_doOrder 437 = .ok (.iload_n 3, 1) := by decide +kernel
theorem d_Md_doOrder_438 : decode c_Md_doOrder 438 = .ok (.ireturn, 1) := by decide +kernel
theorem d_Md_carryOut_0 : decode c_Md_carryOut 0 = .ok (.aload_n 0, 1) := by decide +kernel
theorem d_Md_carryOut_1 : decode c_Md_carryOut 1 = .ok (.invokevirtual 200, 3) := by decide +kernel
theorem d_Md_carryOut_4 : decode c_Md_carryOut 4 = .ok (.bipush (-6), 2) := by decide +kernel
theorem d_Md_carryOut_6 : decode c_Md_carryOut 6 = .ok (.if_icmp .eq 6, 3) := by decide +kernel
theorem d_Md_carryOut_9 : decode c_Md_carryOut 9 = .ok (.bipush (-3), 2) := by decide +kernel
theorem d_Md_carryOut_11 : decode c_Md_carryOut 11 = .ok (.ireturn, 1) := by decide +kernel
theorem d_Md_carryOut_12 : decode c_Md_carryOut 12 = .ok (.aload_n 0, 1) := by decide +kernel
theorem d_Md_carryOut_13 : decode c_Md_carryOut 13 = .ok (.invokevirtual 93, 3) := by decide +kernel
theorem d_Md_carryOut_16 : decode c_Md_carryOut 16 = .ok (.aload_n 0, 1) := by decide +kernel
theorem d_Md_carryOut_17 : decode c_Md_carryOut 17 = .ok (.iconst 0, 1) := by decide +kernel
theorem d_Md_carryOut_18 : decode c_Md_carryOut 18 = .ok (.putfield 179, 3) := by decide +kernel
theorem d_Md_carryOut_21 : decode c_Md_carryOut 21 = .ok (.iconst 0, 1) := by decide +kernel
theorem d_Md_carryOut_22 : decode c_Md_carryOut 22 = .ok (.istore_n 1, 1) := by decide +kernel
theorem d_Md_carryOut_23 : decode c_Md_carryOut 23 = .ok (.iconst 1, 1) := by decide +kernel
theorem d_Md_carryOut_24 : decode c_Md_carryOut 24 = .ok (.istore_n 2, 1) := by decide +kernel
theorem d_Md_carryOut_25 : decode c_Md_carryOut 25 = .ok (.iload_n 2, 1) := by decide +kernel
theorem d_Md_carryOut_26 : decode c_Md_carryOut 26 = .ok (.ifCond .eq 35, 3) := by decide +kernel
theorem d_Md_carryOut_29 : decode c_Md_carryOut 29 = .ok (.aload_n 0, 1) := by decide +kernel
theorem d_Md_carryOut_30 : decode c_Md_carryOut 30 = .ok (.invokevirtual 203, 3) := by decide +kernel
theorem d_Md_carryOut_33 : decode c_Md_carryOut 33 = .ok (.ifCond .eq 28, 3) := by decide +kernel
theorem d_Md_carryOut_36 : decode c_Md_carryOut 36 = .ok (.iinc 1 1, 3) := by decide +kernel
theorem d_Md_carryOut_39 : decode c_Md_carryOut 39 = .ok (.aload_n 0, 1) := by decide +kernel
theorem d_Md_carryOut_40 : decode c_Md_carryOut 40 = .ok (.bipush 59, 2) := by decide +kernel
theorem d_Md_carryOut_42 : decode c_Md_carryOut 42 = .ok (.bipush 59, 2) := by decide +kernel
theorem d_Md_carryOut_44 : decode c_Md_carryOut 44 = .ok (.invokevirtual 185, 3) := by decide +kernel
theorem d_Md_carryOut_47 : decode c_Md_carryOut 47 = .ok (.bipush (-6), 2) := by decide +kernel
theorem d_Md_carryOut_49 : decode c_Md_carryOut 49 = .ok (.if_icmp .eq 7, 3) := by decide +kernel
theorem d_Md_carryOut_52 : decode c_Md_carryOut 52 = .ok (.iconst 1, 1) := by decide +kernel
theorem d_Md_carryOut_53 : decode c_Md_carryOut 53 = .ok (.goto 4, 3) := by decide +kernel
theorem d_Md_carryOut_56 : decode c_Md_carryOut 56 = .ok (.iconst 0, 1) := by decide +kernel
theorem d_Md_carryOut_57 : decode c_Md_carryOut 57 = .ok (.istore_n 2, 1) := by decide +kernel
theorem d_Md_carryOut_58 : decode c_Md_carryOut 58 = .ok (.goto (-33), 3) := by decide +kernel
theorem d_Md_carryOut_61 : decode c_Md_carryOut 61 = .ok (.aload_n 0, 1) := by decide +kernel
theorem d_Md_carryOut_62 : decode c_Md_carryOut 62 = .ok (.iconst 0, 1) := by decide +kernel
theorem d_Md_carryOut_63 : decode c_Md_carryOut 63 = .ok (.putfield 160, 3) := by decide +kernel
theorem d_Md_carryOut_66 : decode c_Md_carryOut 66 = .ok (.iload_n 1, 1) := by decide +kernel
theorem d_Md_carryOut_67 : decode c_Md_carryOut 67 = .ok (.ireturn, 1) := by decide +kernel
theorem d_Md_undo_0 : decode c_Md_undo 0 = .ok (.aload_n 0, 1) := by decide +kernel
theorem d_Md_undo_1 : decode c_Md_undo 1 = .ok (.getfield 29, 3) := by decide +kernel
theorem d_Md_undo_4 : decode c_Md_undo 4 = .ok (.ifCond .ne 6, 3) := by decide +kernel
theorem d_Md_undo_7 : decode c_Md_undo 7 = .ok (.bipush (-5), 2) := by decide +kernel
theorem d_Md_undo_9 : decode c_Md_undo 9 = .ok (.ireturn, 1) := by decide +kernel
theorem d_Md_undo_10 : decode c_Md_undo 10 = .ok (.aload_n 0, 1) := by decide +kernel
theorem d_Md_undo_11 : decode c_Md_undo 11 = .ok (.dup, 1) := by decide +kernel
theorem d_Md_undo_12 : decode c_Md_undo 12 = .ok (.getfield 29, 3) := by decide +kernel
theorem d_Md_undo_15 : decode c_Md_undo 15 = .ok (.iconst 1, 1) := by decide +kernel
theorem d_Md_undo_16 : decode c_Md_undo 16 = .ok (.isub, 1) := by decide +kernel
theorem d_Md_undo_17 : decode c_Md_undo 17 = .ok (.putfield 29, 3) := by decide +kernel
theorem d_Md_undo_20 : decode c_Md_undo 20 = .ok (.aload_n 0, 1) := by decide +kernel
theorem d_Md_undo_21 : decode c_Md_undo 21 = .ok (.getfield 16, 3) := by decide +kernel
theorem d_Md_undo_24 : decode c_Md_undo 24 = .ok (.sipush 2400, 3) := by decide +kernel
theorem d_Md_undo_27 : decode c_Md_undo 27 = .ok (.aload_n 0, 1) := by decide +kernel
theorem d_Md_undo_28 : decode c_Md_undo 28 = .ok (.getfield 29, 3) := by decide +kernel
theorem d_Md_undo_31 : decode c_Md_undo 31 = .ok (.imul, 1) := by decide +kernel
theorem d_Md_undo_32 : decode c_Md_undo 32 = .ok (.aload_n 0, 1) := by decide +kernel
theorem d_Md_undo_33 : decode c_Md_undo 33 = .ok (.getfield 7, 3) := by decide +kernel
theorem d_Md_undo_36 : decode c_Md_undo 36 = .ok (.iconst 0, 1) := by decide +kernel
theorem d_Md_undo_37 : decode c_Md_undo 37 = .ok (.invokestatic 86, 3) := by decide +kernel
theorem d_Md_undo_40 : decode c_Md_undo 40 = .ok (.aload_n 0, 1) := by decide +kernel
theorem d_Md_undo_41 : decode c_Md_undo 41 = .ok (.getfield 29, 3) := by decide +kernel
theorem d_Md_undo_44 : decode c_Md_undo 44 = .ok (.ireturn, 1) := by decide +kernel
theorem d_Md_keep_0 : decode c_Md_keep 0 = .ok (.iload_n 1, 1) := by decide +kernel
theorem d_Md_keep_1 : decode c_Md_keep 1 = .ok (.i2l, 1) := by decide +kernel
theorem d_Md_keep_2 : decode c_Md_keep 2 = .ok (.lconst 0, 1) := by decide +kernel
theorem d_Md_keep_3 : decode c_Md_keep 3 = .ok (.lconst 1, 1) := by decide +kernel
theorem d_Md_keep_4 : decode c_Md_keep 4 = .ok (.invokestatic 35, 3) := by decide +kernel
theorem d_Md_keep_7 : decode c_Md_keep 7 = .ok (.ifCond .ne 6, 3) := by decide +kernel
theorem d_Md_keep_10 : decode c_Md_keep 10 = .ok (.bipush (-2), 2) := by decide +kernel
theorem d_Md_keep_12 : decode c_Md_keep 12 = .ok (.ireturn, 1) := by decide +kernel
theorem d_Md_keep_13 : decode c_Md_keep 13 = .ok (.aload_n 0, 1) := by decide +kernel
theorem d_Md_keep_14 : decode c_Md_keep 14 = .ok (.getfield 7, 3) := by decide +kernel
theorem d_Md_keep_17 : decode c_Md_keep 17 = .ok (.iconst 0, 1) := by decide +kernel
theorem d_Md_keep_18 : decode c_Md_keep 18 = .ok (.aload_n 0, 1) := by decide +kernel
theorem d_Md_keep_19 : decode c_Md_keep 19 = .ok (.getfield 19, 3) := by decide +kernel
theorem d_Md_keep_22 : decode c_Md_keep 22 = .ok (.sipush 2400, 3) := by decide +kernel
theorem d_Md_keep_25 : decode c_Md_keep 25 = .ok (.iload_n 1, 1) := by decide +kernel
theorem d_Md_keep_26 : decode c_Md_keep 26 = .ok (.imul, 1) := by decide +kernel
theorem d_Md_keep_27 : decode c_Md_keep 27 = .ok (.invokestatic 86, 3) := by decide +kernel
theorem d_Md_keep_30 : decode c_Md_keep 30 = .ok (.aload_n 0, 1) := by decide +kernel
theorem d_Md_keep_31 : decode c_Md_keep 31 = .ok (.getfield 22, 3) := by decide +kernel
theorem d_Md_keep_34 : decode c_Md_keep 34 = .ok (.iload_n 1, 1) := by decide +kernel
theorem d_Md_keep_35 : decode c_Md_keep 35 = .ok (.iconst 1, 1) := by decide +kernel
theorem d_Md_keep_36 : decode c_Md_keep 36 = .ok (.bastore, 1) := by decide +kernel
theorem d_Md_keep_37 : decode c_Md_keep 37 = .ok (.aload_n 0, 1) := by decide +kernel
theorem d_Md_keep_38 : decode c_Md_keep 38 = .ok (.getfield 7, 3) := by decide +kernel
theorem d_Md_keep_41 : decode c_Md_keep 41 = .ok (.bipush 57, 2) := by decide +kernel
theorem d_Md_keep_43 : decode c_Md_keep 43 = .ok (.iaload, 1) := by decide +kernel
theorem d_Md_keep_44 : decode c_Md_keep 44 = .ok (.ireturn, 1) := by decide +kernel
theorem d_Md_bring_0 : decode c_Md_bring 0 = .ok (.iload_n 1, 1) := by decide +kernel
theorem d_Md_bring_1 : decode c_Md_bring 1 = .ok (.i2l, 1) := by decide +kernel
theorem d_Md_bring_2 : decode c_Md_bring 2 = .ok (.lconst 0, 1) := by decide +kernel
theorem d_Md_bring_3 : decode c_Md_bring 3 = .ok (.lconst 1, 1) := by decide +kernel
theorem d_Md_bring_4 : decode c_Md_bring 4 = .ok (.invokestatic 35, 3) := by decide +kernel
theorem d_Md_bring_7 : decode c_Md_bring 7 = .ok (.ifCond .ne 6, 3) := by decide +kernel
theorem d_Md_bring_10 : decode c_Md_bring 10 = .ok (.bipush (-2), 2) := by decide +kernel
theorem d_Md_bring_12 : decode c_Md_bring 12 = .ok (.ireturn, 1) := by decide +kernel
theorem d_Md_bring_13 : decode c_Md_bring 13 = .ok (.aload_n 0, 1) := by decide +kernel
theorem d_Md_bring_14 : decode c_Md_bring 14 = .ok (.getfield 22, 3) := by decide +kernel
theorem d_Md_bring_17 : decode c_Md_bring 17 = .ok (.iload_n 1, 1) := by decide +kernel
theorem d_Md_bring_18 : decode c_Md_bring 18 = .ok (.baload, 1) := by decide +kernel
theorem d_Md_bring_19 : decode c_Md_bring 19 = .ok (.ifCond .ne 6, 3) := by decide +kernel
theorem d_Md_bring_22 : decode c_Md_bring 22 = .ok (.bipush (-5), 2) := by decide +kernel
theorem d_Md_bring_24 : decode c_Md_bring 24 = .ok (.ireturn, 1) := by decide +kernel
theorem d_Md_bring_25 : decode c_Md_bring 25 = .ok (.aload_n 0, 1) := by decide +kernel
theorem d_Md_bring_26 : decode c_Md_bring 26 = .ok (.invokevirtual 93, 3) := by decide +kernel
theorem d_Md_bring_29 : decode c_Md_bring 29 = .ok (.aload_n 0, 1) := by decide +kernel
theorem d_Md_bring_30 : decode c_Md_bring 30 = .ok (.getfield 19, 3) := by decide +kernel
theorem d_Md_bring_33 : decode c_Md_bring 33 = .ok (.sipush 2400, 3) := by decide +kernel
theorem d_Md_bring_36 : decode c_Md_bring 36 = .ok (.iload_n 1, 1) := by decide +kernel
theorem d_Md_bring_37 : decode c_Md_bring 37 = .ok (.imul, 1) := by decide +kernel
theorem d_Md_bring_38 : decode c_Md_bring 38 = .ok (.aload_n 0, 1) := by decide +kernel
theorem d_Md_bring_39 : decode c_Md_bring 39 = .ok (.getfield 7, 3) := by decide +kernel
theorem d_Md_bring_42 : decode c_Md_bring 42 = .ok (.iconst 0, 1) := by decide +kernel
theorem d_Md_bring_43 : decode c_Md_bring 43 = .ok (.invokestatic 86, 3) := by decide +kernel
theorem d_Md_bring_46 : decode c_Md_bring 46 = .ok (.aload_n 0, 1) := by decide +kernel
theorem d_Md_bring_47 : decode c_Md_bring 47 = .ok (.getfield 7, 3) := by decide +kernel
theorem d_Md_bring_50 : decode c_Md_bring 50 = .ok (.bipush 57, 2) := by decide +kernel
theorem d_Md_bring_52 : decode c_Md_bring 52 = .ok (.iaload, 1) := by decide +kernel
theorem d_Md_bring_53 : decode c_Md_bring 53 = .ok (.ireturn, 1) := by decide +kernel

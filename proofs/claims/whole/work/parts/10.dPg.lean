theorem d_Fd_isPage_0 : decode c_Fd_isPage 0 = .ok (.iload_n 0, 1) := by decide +kernel
theorem d_Fd_isPage_1 : decode c_Fd_isPage 1 = .ok (.ifCond .lt 13, 3) := by decide +kernel
theorem d_Fd_isPage_4 : decode c_Fd_isPage 4 = .ok (.iload_n 0, 1) := by decide +kernel
theorem d_Fd_isPage_5 : decode c_Fd_isPage 5 = .ok (.bipush 8, 2) := by decide +kernel
theorem d_Fd_isPage_7 : decode c_Fd_isPage 7 = .ok (.if_icmp .ge 7, 3) := by decide +kernel
theorem d_Fd_isPage_10 : decode c_Fd_isPage 10 = .ok (.iconst 1, 1) := by decide +kernel
theorem d_Fd_isPage_11 : decode c_Fd_isPage 11 = .ok (.goto 4, 3) := by decide +kernel
theorem d_Fd_isPage_14 : decode c_Fd_isPage 14 = .ok (.iconst 0, 1) := by decide +kernel
theorem d_Fd_isPage_15 : decode c_Fd_isPage 15 = .ok (.ireturn, 1) := by decide +kernel
theorem d_Fd_isSlot_0 : decode c_Fd_isSlot 0 = .ok (.iload_n 0, 1) := by decide +kernel
theorem d_Fd_isSlot_1 : decode c_Fd_isSlot 1 = .ok (.ifCond .lt 12, 3) := by decide +kernel
theorem d_Fd_isSlot_4 : decode c_Fd_isSlot 4 = .ok (.iload_n 0, 1) := by decide +kernel
theorem d_Fd_isSlot_5 : decode c_Fd_isSlot 5 = .ok (.iconst 2, 1) := by decide +kernel
theorem d_Fd_isSlot_6 : decode c_Fd_isSlot 6 = .ok (.if_icmp .ge 7, 3) := by decide +kernel
theorem d_Fd_isSlot_9 : decode c_Fd_isSlot 9 = .ok (.iconst 1, 1) := by decide +kernel
theorem d_Fd_isSlot_10 : decode c_Fd_isSlot 10 = .ok (.goto 4, 3) := by decide +kernel
theorem d_Fd_isSlot_13 : decode c_Fd_isSlot 13 = .ok (.iconst 0, 1) := by decide +kernel
theorem d_Fd_isSlot_14 : decode c_Fd_isSlot 14 = .ok (.ireturn, 1) := by decide +kernel
theorem d_Fd_isChange_0 : decode c_Fd_isChange 0 = .ok (.iload_n 0, 1) := by decide +kernel
theorem d_Fd_isChange_1 : decode c_Fd_isChange 1 = .ok (.iconst 1, 1) := by decide +kernel
theorem d_Fd_isChange_2 : decode c_Fd_isChange 2 = .ok (.if_icmp .eq 8, 3) := by decide +kernel
theorem d_Fd_isChange_5 : decode c_Fd_isChange 5 = .ok (.iload_n 0, 1) := by decide +kernel
theorem d_Fd_isChange_6 : decode c_Fd_isChange 6 = .ok (.iconst 2, 1) := by decide +kernel
theorem d_Fd_isChange_7 : decode c_Fd_isChange 7 = .ok (.if_icmp .ne 7, 3) := by decide +kernel
theorem d_Fd_isChange_10 : decode c_Fd_isChange 10 = .ok (.iconst 1, 1) := by decide +kernel
theorem d_Fd_isChange_11 : decode c_Fd_isChange 11 = .ok (.goto 4, 3) := by decide +kernel
theorem d_Fd_isChange_14 : decode c_Fd_isChange 14 = .ok (.iconst 0, 1) := by decide +kernel
theorem d_Fd_isChange_15 : decode c_Fd_isChange 15 = .ok (.ireturn, 1) := by decide +kernel
theorem d_Fd_asNumber_0 : decode c_Fd_asNumber 0 = .ok (.iload_n 0, 1) := by decide +kernel
theorem d_Fd_asNumber_1 : decode c_Fd_asNumber 1 = .ok (.ifCond .eq 7, 3) := by decide +kernel
theorem d_Fd_asNumber_4 : decode c_Fd_asNumber 4 = .ok (.iconst 1, 1) := by decide +kernel
theorem d_Fd_asNumber_5 : decode c_Fd_asNumber 5 = .ok (.goto 4, 3) := by decide +kernel
theorem d_Fd_asNumber_8 : decode c_Fd_asNumber 8 = .ok (.iconst 0, 1) := by decide +kernel
theorem d_Fd_asNumber_9 : decode c_Fd_asNumber 9 = .ok (.ireturn, 1) := by decide +kernel
theorem d_Fd_charactersIn_0 : decode c_Fd_charactersIn 0 = .ok (.lload_n 0, 1) := by decide +kernel
theorem d_Fd_charactersIn_1 : decode c_Fd_charactersIn 1 = .ok (.lstore_n 2, 1) := by decide +kernel
theorem d_Fd_charactersIn_2 : decode c_Fd_charactersIn 2 = .ok (.iconst 0, 1) := by decide +kernel
theorem d_Fd_charactersIn_3 : decode c_Fd_charactersIn 3 = .ok (.istore 4, 2) := by decide +kernel
theorem d_Fd_charactersIn_5 : decode c_Fd_charactersIn 5 = .ok (.iload 4, 2) := by decide +kernel
theorem d_Fd_charactersIn_7 : decode c_Fd_charactersIn 7 = .ok (.bipush 8, 2) := by decide +kernel
theorem d_Fd_charactersIn_9 : decode c_Fd_charactersIn 9 = .ok (.if_icmp .ge 44, 3) := by decide +kernel
theorem d_Fd_charactersIn_12 : decode c_Fd_charactersIn 12 = .ok (.lload_n 2, 1) := by decide +kernel
theorem d_Fd_charactersIn_13 : decode c_Fd_charactersIn 13 = .ok (.lconst 0, 1) := by decide +kernel
theorem d_Fd_charactersIn_14 : decode c_Fd_charactersIn 14 = .ok (.lcmp, 1) := by decide +kernel
theorem d_Fd_charactersIn_15 : decode c_Fd_charactersIn 15 = .ok (.ifCond .eq 38, 3) := by decide +kernel
theorem d_Fd_charactersIn_18 : decode c_Fd_charactersIn 18 = .ok (.lload_n 2, 1) := by decide +kernel
theorem d_Fd_charactersIn_19 : decode c_Fd_charactersIn 19 = .ok (.ldc2_w 190, 3) := by decide +kernel
theorem d_Fd_charactersIn_22 : decode c_Fd_charactersIn 22 = .ok (.land, 1) := by decide +kernel
theorem d_Fd_charactersIn_23 : decode c_Fd_charactersIn 23 = .ok (.l2i, 1) := by decide +kernel
theorem d_Fd_charactersIn_24 : decode c_Fd_charactersIn 24 = .ok (.istore 5, 2) := by decide +kernel
theorem d_Fd_charactersIn_26 : decode c_Fd_charactersIn 26 = .ok (.iload 5, 2) := by decide +kernel
theorem d_Fd_charactersIn_28 : decode c_Fd_charactersIn 28 = .ok (.bipush 33, 2) := by decide +kernel
theorem d_Fd_charactersIn_30 : decode c_Fd_charactersIn 30 = .ok (.if_icmp .lt 10, 3) := by decide +kernel
theorem d_Fd_charactersIn_33 : decode c_Fd_charactersIn 33 = .ok (.iload 5, 2) := by decide +kernel
theorem d_Fd_charactersIn_35 : decode c_Fd_charactersIn 35 = .ok (.bipush 126, 2) := by decide +kernel
theorem d_Fd_charactersIn_37 : decode c_Fd_charactersIn 37 = .ok (.if_icmp .le 5, 3) := by decide +kernel
theorem d_Fd_charactersIn_40 : decode c_Fd_charactersIn 40 = .ok (.iconst 0, 1) := by decide +kernel
theorem d_Fd_charactersIn_41 : decode c_Fd_charactersIn 41 = .ok (.ireturn, 1) := by decide +kernel
theorem d_Fd_charactersIn_42 : decode c_Fd_charactersIn 42 = .ok (.lload_n 2, 1) := by decide +kernel
theorem d_Fd_charactersIn_43 : decode c_Fd_charactersIn 43 = .ok (.bipush 8, 2) := by decide +kernel
theorem d_Fd_charactersIn_45 : decode c_Fd_charactersIn 45 = .ok (.lushr, 1) := by decide +kernel
theorem d_Fd_charactersIn_46 : decode c_Fd_charactersIn 46 = .ok (.lstore_n 2, 1) := by decide +kernel
theorem d_Fd_charactersIn_47 : decode c_Fd_charactersIn 47 = .ok (.iinc 4 1, 3) := by decide +kernel
theorem d_Fd_charactersIn_50 : decode c_Fd_charactersIn 50 = .ok (.goto (-45), 3) := by decide +kernel
theorem d_Fd_charactersIn_53 : decode c_Fd_charactersIn 53 = .ok (.iload 4, 2) := by decide +kernel
theorem d_Fd_charactersIn_55 : decode c_Fd_charactersIn 55 = .ok (.ireturn, 1) := by decide +kernel
theorem d_Pg_isInHand_0 : decode c_Pg_isInHand 0 = .ok (.iload_n 1, 1) := by decide +kernel
theorem d_Pg_isInHand_1 : decode c_Pg_isInHand 1 = .ok (.invokestatic 34, 3) := by decide +kernel
theorem d_Pg_isInHand_4 : decode c_Pg_isInHand 4 = .ok (.ifCond .eq 19, 3) := by decide +kernel
theorem d_Pg_isInHand_7 : decode c_Pg_isInHand 7 = .ok (.aload_n 0, 1) := by decide +kernel
theorem d_Pg_isInHand_8 : decode c_Pg_isInHand 8 = .ok (.getfield 24, 3) := by decide +kernel
theorem d_Pg_isInHand_11 : decode c_Pg_isInHand 11 = .ok (.iload_n 1, 1) := by decide +kernel
theorem d_Pg_isInHand_12 : decode c_Pg_isInHand 12 = .ok (.ishr, 1) := by decide +kernel
theorem d_Pg_isInHand_13 : decode c_Pg_isInHand 13 = .ok (.iconst 1, 1) := by decide +kernel
theorem d_Pg_isInHand_14 : decode c_Pg_isInHand 14 = .ok (.iand, 1) := by decide +kernel
theorem d_Pg_isInHand_15 : decode c_Pg_isInHand 15 = .ok (.iconst 1, 1) := by decide +kernel
theorem d_Pg_isInHand_16 : decode c_Pg_isInHand 16 = .ok (.if_icmp .ne 7, 3) := by decide +kernel
theorem d_Pg_isInHand_19 : decode c_Pg_isInHand 19 = .ok (.iconst 1, 1) := by decide +kernel
theorem d_Pg_isInHand_20 : decode c_Pg_isInHand 20 = .ok (.goto 4, 3) := by decide +kernel
theorem d_Pg_isInHand_23 : decode c_Pg_isInHand 23 = .ok (.iconst 0, 1) := by decide +kernel
theorem d_Pg_isInHand_24 : decode c_Pg_isInHand 24 = .ok (.ireturn, 1) := by decide +kernel
theorem d_Pg_isDirty_0 : decode c_Pg_isDirty 0 = .ok (.aload_n 0, 1) := by decide +kernel
theorem d_Pg_isDirty_1 : decode c_Pg_isDirty 1 = .ok (.iload_n 1, 1) := by decide +kernel
theorem d_Pg_isDirty_2 : decode c_Pg_isDirty 2 = .ok (.invokevirtual 38, 3) := by decide +kernel
theorem d_Pg_isDirty_5 : decode c_Pg_isDirty 5 = .ok (.ifCond .eq 22, 3) := by decide +kernel
theorem d_Pg_isDirty_8 : decode c_Pg_isDirty 8 = .ok (.aload_n 0, 1) := by decide +kernel
theorem d_Pg_isDirty_9 : decode c_Pg_isDirty 9 = .ok (.getfield 21, 3) := by decide +kernel
theorem d_Pg_isDirty_12 : decode c_Pg_isDirty 12 = .ok (.iload_n 1, 1) := by decide +kernel
theorem d_Pg_isDirty_13 : decode c_Pg_isDirty 13 = .ok (.iaload, 1) := by decide +kernel
theorem d_Pg_isDirty_14 : decode c_Pg_isDirty 14 = .ok (.aload_n 0, 1) := by decide +kernel
theorem d_Pg_isDirty_15 : decode c_Pg_isDirty 15 = .ok (.getfield 15, 3) := by decide +kernel
theorem d_Pg_isDirty_18 : decode c_Pg_isDirty 18 = .ok (.iload_n 1, 1) := by decide +kernel
theorem d_Pg_isDirty_19 : decode c_Pg_isDirty 19 = .ok (.iaload, 1) := by decide +kernel
theorem d_Pg_isDirty_20 : decode c_Pg_isDirty 20 = .ok (.if_icmp .eq 7, 3) := by decide +kernel
theorem d_Pg_isDirty_23 : decode c_Pg_isDirty 23 = .ok (.iconst 1, 1) := by decide +kernel
theorem d_Pg_isDirty_24 : decode c_Pg_isDirty 24 = .ok (.goto 4, 3) := by decide +kernel
theorem d_Pg_isDirty_27 : decode c_Pg_isDirty 27 = .ok (.iconst 0, 1) := by decide +kernel
theorem d_Pg_isDirty_28 : decode c_Pg_isDirty 28 = .ok (.ireturn, 1) := by decide +kernel
theorem d_Pg_dirtySet_0 : decode c_Pg_dirtySet 0 = .ok (.iconst 0, 1) := by decide +kernel
theorem d_Pg_dirtySet_1 : decode c_Pg_dirtySet 1 = .ok (.istore_n 1, 1) := by decide +kernel
theorem d_Pg_dirtySet_2 : decode c_Pg_dirtySet 2 = .ok (.iconst 0, 1) := by decide +kernel
theorem d_Pg_dirtySet_3 : decode c_Pg_dirtySet 3 = .ok (.istore_n 2, 1) := by decide +kernel
theorem d_Pg_dirtySet_4 : decode c_Pg_dirtySet 4 = .ok (.iload_n 2, 1) := by decide +kernel
theorem d_Pg_dirtySet_5 : decode c_Pg_dirtySet 5 = .ok (.bipush 8, 2) := by decide +kernel
theorem d_Pg_dirtySet_7 : decode c_Pg_dirtySet 7 = .ok (.if_icmp .ge 23, 3) := by decide +kernel
theorem d_Pg_dirtySet_10 : decode c_Pg_dirtySet 10 = .ok (.aload_n 0, 1) := by decide +kernel
theorem d_Pg_dirtySet_11 : decode c_Pg_dirtySet 11 = .ok (.iload_n 2, 1) := by decide +kernel
theorem d_Pg_dirtySet_12 : decode c_Pg_dirtySet 12 = .ok (.invokevirtual 41, 3) := by decide +kernel
theorem d_Pg_dirtySet_15 : decode c_Pg_dirtySet 15 = .ok (.ifCond .eq 9, 3) := by decide +kernel
theorem d_Pg_dirtySet_18 : decode c_Pg_dirtySet 18 = .ok (.iload_n 1, 1) := by decide +kernel
theorem d_Pg_dirtySet_19 : decode c_Pg_dirtySet 19 = .ok (.iconst 1, 1) := by decide +kernel
theorem d_Pg_dirtySet_20 : decode c_Pg_dirtySet 20 = .ok (.iload_n 2, 1) := by decide +kernel
theorem d_Pg_dirtySet_21 : decode c_Pg_dirtySet 21 = .ok (.ishl, 1) := by decide +kernel
theorem d_Pg_dirtySet_22 : decode c_Pg_dirtySet 22 = .ok (.ior, 1) := by decide +kernel
theorem d_Pg_dirtySet_23 : decode c_Pg_dirtySet 23 = .ok (.istore_n 1, 1) := by decide +kernel
theorem d_Pg_dirtySet_24 : decode c_Pg_dirtySet 24 = .ok (.iinc 2 1, 3) := by decide +kernel
theorem d_Pg_dirtySet_27 : decode c_Pg_dirtySet 27 = .ok (.goto (-23), 3) := by decide +kernel
theorem d_Pg_dirtySet_30 : decode c_Pg_dirtySet 30 = .ok (.iload_n 1, 1) := by decide +kernel
theorem d_Pg_dirtySet_31 : decode c_Pg_dirtySet 31 = .ok (.ireturn, 1) := by decide +kernel
theorem d_Pg_valueOnShelf_0 : decode c_Pg_valueOnShelf 0 = .ok (.iload_n 1, 1) := by decide +kernel
theorem d_Pg_valueOnShelf_1 : decode c_Pg_valueOnShelf 1 = .ok (.invokestatic 34, 3) := by decide +kernel
theorem d_Pg_valueOnShelf_4 : decode c_Pg_valueOnShelf 4 = .ok (.ifCond .eq 12, 3) := by decide +kernel
theorem d_Pg_valueOnShelf_7 : decode c_Pg_valueOnShelf 7 = .ok (.aload_n 0, 1) := by decide +kernel
theorem d_Pg_valueOnShelf_8 : decode c_Pg_valueOnShelf 8 = .ok (.getfield 9, 3) := by decide +kernel
theorem d_Pg_valueOnShelf_11 : decode c_Pg_valueOnShelf 11 = .ok (.iload_n 1, 1) := by decide +kernel
theorem d_Pg_valueOnShelf_12 : decode c_Pg_valueOnShelf 12 = .ok (.iaload, 1) := by decide +kernel
theorem d_Pg_valueOnShelf_13 : decode c_Pg_valueOnShelf 13 = .ok (.goto 5, 3) := by decide +kernel
theorem d_Pg_valueOnShelf_16 : decode c_Pg_valueOnShelf 16 = .ok (.bipush (-6), 2) := by decide +kernel
theorem d_Pg_valueOnShelf_18 : decode c_Pg_valueOnShelf 18 = .ok (.ireturn, 1) := by decide +kernel
theorem d_Pg_markOnShelf_0 : decode c_Pg_markOnShelf 0 = .ok (.iload_n 1, 1) := by decide +kernel
theorem d_Pg_markOnShelf_1 : decode c_Pg_markOnShelf 1 = .ok (.invokestatic 34, 3) := by decide +kernel
theorem d_Pg_markOnShelf_4 : decode c_Pg_markOnShelf 4 = .ok (.ifCond .eq 12, 3) := by decide +kernel
theorem d_Pg_markOnShelf_7 : decode c_Pg_markOnShelf 7 = .ok (.aload_n 0, 1) := by decide +kernel
theorem d_Pg_markOnShelf_8 : decode c_Pg_markOnShelf 8 = .ok (.getfield 15, 3) := by decide +kernel
theorem d_Pg_markOnShelf_11 : decode c_Pg_markOnShelf 11 = .ok (.iload_n 1, 1) := by decide +kernel
theorem d_Pg_markOnShelf_12 : decode c_Pg_markOnShelf 12 = .ok (.iaload, 1) := by decide +kernel
theorem d_Pg_markOnShelf_13 : decode c_Pg_markOnShelf 13 = .ok (.goto 5, 3) := by decide +kernel
theorem d_Pg_markOnShelf_16 : decode c_Pg_markOnShelf 16 = .ok (.bipush (-6), 2) := by decide +kernel
theorem d_Pg_markOnShelf_18 : decode c_Pg_markOnShelf 18 = .ok (.ireturn, 1) := by decide +kernel
theorem d_Pg_valueInHand_0 : decode c_Pg_valueInHand 0 = .ok (.aload_n 0, 1) := by decide +kernel
theorem d_Pg_valueInHand_1 : decode c_Pg_valueInHand 1 = .ok (.iload_n 1, 1) := by decide +kernel
theorem d_Pg_valueInHand_2 : decode c_Pg_valueInHand 2 = .ok (.invokevirtual 38, 3) := by decide +kernel
theorem d_Pg_valueInHand_5 : decode c_Pg_valueInHand 5 = .ok (.ifCond .eq 12, 3) := by decide +kernel
theorem d_Pg_valueInHand_8 : decode c_Pg_valueInHand 8 = .ok (.aload_n 0, 1) := by decide +kernel
theorem d_Pg_valueInHand_9 : decode c_Pg_valueInHand 9 = .ok (.getfield 18, 3) := by decide +kernel
theorem d_Pg_valueInHand_12 : decode c_Pg_valueInHand 12 = .ok (.iload_n 1, 1) := by decide +kernel
theorem d_Pg_valueInHand_13 : decode c_Pg_valueInHand 13 = .ok (.iaload, 1) := by decide +kernel
theorem d_Pg_valueInHand_14 : decode c_Pg_valueInHand 14 = .ok (.goto 5, 3) := by decide +kernel
theorem d_Pg_valueInHand_17 : decode c_Pg_valueInHand 17 = .ok (.bipush (-6), 2) := by decide +kernel
theorem d_Pg_valueInHand_19 : decode c_Pg_valueInHand 19 = .ok (.ireturn, 1) := by decide +kernel
theorem d_Pg_markInHand_0 : decode c_Pg_markInHand 0 = .ok (.aload_n 0, 1) := by decide +kernel
theorem d_Pg_markInHand_1 : decode c_Pg_markInHand 1 = .ok (.iload_n 1, 1) := by decide +kernel
theorem d_Pg_markInHand_2 : decode c_Pg_markInHand 2 = .ok (.invokevirtual 38, 3) := by decide +kernel
theorem d_Pg_markInHand_5 : decode c_Pg_markInHand 5 = .ok (.ifCond .eq 12, 3) := by decide +kernel
theorem d_Pg_markInHand_8 : decode c_Pg_markInHand 8 = .ok (.aload_n 0, 1) := by decide +kernel
theorem d_Pg_markInHand_9 : decode c_Pg_markInHand 9 = .ok (.getfield 21, 3) := by decide +kernel
theorem d_Pg_markInHand_12 : decode c_Pg_markInHand 12 = .ok (.iload_n 1, 1) := by decide +kernel
theorem d_Pg_markInHand_13 : decode c_Pg_markInHand 13 = .ok (.iaload, 1) := by decide +kernel
theorem d_Pg_markInHand_14 : decode c_Pg_markInHand 14 = .ok (.goto 5, 3) := by decide +kernel
theorem d_Pg_markInHand_17 : decode c_Pg_markInHand 17 = .ok (.bipush (-6), 2) := by decide +kernel
theorem d_Pg_markInHand_19 : decode c_Pg_markInHand 19 = .ok (.ireturn, 1) := by decide +kernel
theorem d_Pg_change_0 : decode c_Pg_change 0 = .ok (.iload_n 1, 1) := by decide +kernel
theorem d_Pg_change_1 : decode c_Pg_change 1 = .ok (.invokestatic 34, 3) := by decide +kernel
theorem d_Pg_change_4 : decode c_Pg_change 4 = .ok (.ifCond .eq 29, 3) := by decide +kernel
theorem d_Pg_change_7 : decode c_Pg_change 7 = .ok (.aload_n 0, 1) := by decide +kernel
theorem d_Pg_change_8 : decode c_Pg_change 8 = .ok (.getfield 18, 3) := by decide +kernel
theorem d_Pg_change_11 : decode c_Pg_change 11 = .ok (.iload_n 1, 1) := by decide +kernel
theorem d_Pg_change_12 : decode c_Pg_change 12 = .ok (.iload_n 2, 1) := by decide +kernel
theorem d_Pg_change_13 : decode c_Pg_change 13 = .ok (.iastore, 1) := by decide +kernel
theorem d_Pg_change_14 : decode c_Pg_change 14 = .ok (.aload_n 0, 1) := by decide +kernel
theorem d_Pg_change_15 : decode c_Pg_change 15 = .ok (.getfield 21, 3) := by decide +kernel
theorem d_Pg_change_18 : decode c_Pg_change 18 = .ok (.iload_n 1, 1) := by decide +kernel
theorem d_Pg_change_19 : decode c_Pg_change 19 = .ok (.iload_n 3, 1) := by decide +kernel
theorem d_Pg_change_20 : decode c_Pg_change 20 = .ok (.iastore, 1) := by decide +kernel
theorem d_Pg_change_21 : decode c_Pg_change 21 = .ok (.aload_n 0, 1) := by decide +kernel
theorem d_Pg_change_22 : decode c_Pg_change 22 = .ok (.dup, 1) := by decide +kernel
theorem d_Pg_change_23 : decode c_Pg_change 23 = .ok (.getfield 24, 3) := by decide +kernel
theorem d_Pg_change_26 : decode c_Pg_change 26 = .ok (.iconst 1, 1) := by decide +kernel
theorem d_Pg_change_27 : decode c_Pg_change 27 = .ok (.iload_n 1, 1) := by decide +kernel
theorem d_Pg_change_28 : decode c_Pg_change 28 = .ok (.ishl, 1) := by decide +kernel
theorem d_Pg_change_29 : decode c_Pg_change 29 = .ok (.ior, 1) := by decide +kernel
theorem d_Pg_change_30 : decode c_Pg_change 30 = .ok (.putfield 24, 3) := by decide +kernel
theorem d_Pg_change_33 : decode c_Pg_change 33 = .ok (.return_, 1) := by decide +kernel
theorem d_Pg_takeIntoHand_0 : decode c_Pg_takeIntoHand 0 = .ok (.iload_n 1, 1) := by decide +kernel
theorem d_Pg_takeIntoHand_1 : decode c_Pg_takeIntoHand 1 = .ok (.invokestatic 34, 3) := by decide +kernel
theorem d_Pg_takeIntoHand_4 : decode c_Pg_takeIntoHand 4 = .ok (.ifCond .eq 28, 3) := by decide +kernel
theorem d_Pg_takeIntoHand_7 : decode c_Pg_takeIntoHand 7 = .ok (.aload_n 0, 1) := by decide +kernel
theorem d_Pg_takeIntoHand_8 : decode c_Pg_takeIntoHand 8 = .ok (.iload_n 1, 1) := by decide +kernel
theorem d_Pg_takeIntoHand_9 : decode c_Pg_takeIntoHand 9 = .ok (.invokevirtual 38, 3) := by decide +kernel
theorem d_Pg_takeIntoHand_12 : decode c_Pg_takeIntoHand 12 = .ok (.ifCond .ne 20, 3) := by decide +kernel
theorem d_Pg_takeIntoHand_15 : decode c_Pg_takeIntoHand 15 = .ok (.aload_n 0, 1) := by decide +kernel
theorem d_Pg_takeIntoHand_16 : decode c_Pg_takeIntoHand 16 = .ok (.iload_n 1, 1) := by decide +kernel
theorem d_Pg_takeIntoHand_17 : decode c_Pg_takeIntoHand 17 = .ok (.aload_n 0, 1) := by decide +kernel
theorem d_Pg_takeIntoHand_18 : decode c_Pg_takeIntoHand 18 = .ok (.getfield 9, 3) := by decide +kernel
theorem d_Pg_takeIntoHand_21 : decode c_Pg_takeIntoHand 21 = .ok (.iload_n 1, 1) := by decide +kernel
theorem d_Pg_takeIntoHand_22 : decode c_Pg_takeIntoHand 22 = .ok (.iaload, 1) := by decide +kernel
theorem d_Pg_takeIntoHand_23 : decode c_Pg_takeIntoHand 23 = .ok (.aload_n 0, 1) := by decide +kernel
theorem d_Pg_takeIntoHand_24 : decode c_Pg_takeIntoHand 24 = .ok (.getfield 15, 3) := by decide +kernel
theorem d_Pg_takeIntoHand_27 : decode c_Pg_takeIntoHand 27 = .ok (.iload_n 1, 1) := by decide +kernel
theorem d_Pg_takeIntoHand_28 : decode c_Pg_takeIntoHand 28 = .ok (.iaload, 1) := by decide +kernel
theorem d_Pg_takeIntoHand_29 : decode c_Pg_takeIntoHand 29 = .ok (.invokevirtual 44, 3) := by decide +kernel
theorem d_Pg_takeIntoHand_32 : decode c_Pg_takeIntoHand 32 = .ok (.return_, 1) := by decide +kernel
theorem d_Pg_shelve_0 : decode c_Pg_shelve 0 = .ok (.aload_n 0, 1) := by decide +kernel
theorem d_Pg_shelve_1 : decode c_Pg_shelve 1 = .ok (.iload_n 1, 1) := by decide +kernel
theorem d_Pg_shelve_2 : decode c_Pg_shelve 2 = .ok (.invokevirtual 38, 3) := by decide +kernel
theorem d_Pg_shelve_5 : decode c_Pg_shelve 5 = .ok (.ifCond .eq 27, 3) := by decide +kernel
theorem d_Pg_shelve_8 : decode c_Pg_shelve 8 = .ok (.aload_n 0, 1) := by decide +kernel
theorem d_Pg_shelve_9 : decode c_Pg_shelve 9 = .ok (.getfield 9, 3) := by decide +kernel
theorem d_Pg_shelve_12 : decode c_Pg_shelve 12 = .ok (.iload_n 1, 1) := by decide +kernel
theorem d_Pg_shelve_13 : decode c_Pg_shelve 13 = .ok (.aload_n 0, 1) := by decide +kernel
theorem d_Pg_shelve_14 : decode c_Pg_shelve 14 = .ok (.getfield 18, 3) := by decide +kernel
theorem d_Pg_shelve_17 : decode c_Pg_shelve 17 = .ok (.iload_n 1, 1) := by decide +kernel
theorem d_Pg_shelve_18 : decode c_Pg_shelve 18 = .ok (.iaload, 1) := by decide +kernel
theorem d_Pg_shelve_19 : decode c_Pg_shelve 19 = .ok (.iastore, 1) := by decide +kernel
theorem d_Pg_shelve_20 : decode c_Pg_shelve 20 = .ok (.aload_n 0, 1) := by decide +kernel
theorem d_Pg_shelve_21 : decode c_Pg_shelve 21 = .ok (.getfield 15, 3) := by decide +kernel
theorem d_Pg_shelve_24 : decode c_Pg_shelve 24 = .ok (.iload_n 1, 1) := by decide +kernel
theorem d_Pg_shelve_25 : decode c_Pg_shelve 25 = .ok (.aload_n 0, 1) := by decide +kernel
theorem d_Pg_shelve_26 : decode c_Pg_shelve 26 = .ok (.getfield 21, 3) := by decide +kernel
theorem d_Pg_shelve_29 : decode c_Pg_shelve 29 = .ok (.iload_n 1, 1) := by decide +kernel
theorem d_Pg_shelve_30 : decode c_Pg_shelve 30 = .ok (.iaload, 1) := by decide +kernel
theorem d_Pg_shelve_31 : decode c_Pg_shelve 31 = .ok (.iastore, 1) := by decide +kernel
theorem d_Pg_shelve_32 : decode c_Pg_shelve 32 = .ok (.return_, 1) := by decide +kernel
theorem d_Pg_leaveHand_0 : decode c_Pg_leaveHand 0 = .ok (.aload_n 0, 1) := by decide +kernel
theorem d_Pg_leaveHand_1 : decode c_Pg_leaveHand 1 = .ok (.iconst 0, 1) := by decide +kernel
theorem d_Pg_leaveHand_2 : decode c_Pg_leaveHand 2 = .ok (.putfield 24, 3) := by decide +kernel
theorem d_Pg_leaveHand_5 : decode c_Pg_leaveHand 5 = .ok (.return_, 1) := by decide +kernel
theorem d_Pg_highestShelfMark_0 : decode c_Pg_highestShelfMark 0 = .ok (.iconst 0, 1) := by decide +kernel
theorem d_Pg_highestShelfMark_1 : decode c_Pg_highestShelfMark 1 = .ok (.istore_n 1, 1) := by decide +kernel
theorem d_Pg_highestShelfMark_2 : decode c_Pg_highestShelfMark 2 = .ok (.iconst 0, 1) := by decide +kernel
theorem d_Pg_highestShelfMark_3 : decode c_Pg_highestShelfMark 3 = .ok (.istore_n 2, 1) := by decide +kernel
theorem d_Pg_highestShelfMark_4 : decode c_Pg_highestShelfMark 4 = .ok (.iload_n 2, 1) := by decide +kernel
theorem d_Pg_highestShelfMark_5 : decode c_Pg_highestShelfMark 5 = .ok (.bipush 8, 2) := by decide +kernel
theorem d_Pg_highestShelfMark_7 : decode c_Pg_highestShelfMark 7 = .ok (.if_icmp .ge 20, 3) := by decide +kernel
theorem d_Pg_highestShelfMark_10 : decode c_Pg_highestShelfMark 10 = .ok (.iload_n 1, 1) := by decide +kernel
theorem d_Pg_highestShelfMark_11 : decode c_Pg_highestShelfMark 11 = .ok (.aload_n 0, 1) := by decide +kernel
theorem d_Pg_highestShelfMark_12 : decode c_Pg_highestShelfMark 12 = .ok (.getfield 15, 3) := by decide +kernel
theorem d_Pg_highestShelfMark_15 : decode c_Pg_highestShelfMark 15 = .ok (.iload_n 2, 1) := by decide +kernel
theorem d_Pg_highestShelfMark_16 : decode c_Pg_highestShelfMark 16 = .ok (.iaload, 1) := by decide +kernel
theorem d_Pg_highestShelfMark_17 : decode c_Pg_highestShelfMark 17 = .ok (.invokestatic 48, 3) := by decide +kernel
theorem d_Pg_highestShelfMark_20 : decode c_Pg_highestShelfMark 20 = .ok (.istore_n 1, 1) := by decide +kernel
theorem d_Pg_highestShelfMark_21 : decode c_Pg_highestShelfMark 21 = .ok (.iinc 2 1, 3) := by decide +kernel
theorem d_Pg_highestShelfMark_24 : decode c_Pg_highestShelfMark 24 = .ok (.goto (-20), 3) := by decide +kernel
theorem d_Pg_highestShelfMark_27 : decode c_Pg_highestShelfMark 27 = .ok (.iload_n 1, 1) := by decide +kernel
theorem d_Pg_highestShelfMark_28 : decode c_Pg_highestShelfMark 28 = .ok (.ireturn, 1) := by decide +kernel
theorem d_Pg_become_0 : decode c_Pg_become 0 = .ok (.aload_n 1, 1) := by decide +kernel
theorem d_Pg_become_1 : decode c_Pg_become 1 = .ok (.getfield 9, 3) := by decide +kernel
theorem d_Pg_become_4 : decode c_Pg_become 4 = .ok (.iconst 0, 1) := by decide +kernel
theorem d_Pg_become_5 : decode c_Pg_become 5 = .ok (.aload_n 0, 1) := by decide +kernel
theorem d_Pg_become_6 : decode c_Pg_become 6 = .ok (.getfield 9, 3) := by decide +kernel
theorem d_Pg_become_9 : decode c_Pg_become 9 = .ok (.iconst 0, 1) := by decide +kernel
theorem d_Pg_become_10 : decode c_Pg_become 10 = .ok (.bipush 8, 2) := by decide +kernel
theorem d_Pg_become_12 : decode c_Pg_become 12 = .ok (.invokestatic 28, 3) := by decide +kernel
theorem d_Pg_become_15 : decode c_Pg_become 15 = .ok (.aload_n 1, 1) := by decide +kernel
theorem d_Pg_become_16 : decode c_Pg_become 16 = .ok (.getfield 15, 3) := by decide +kernel
theorem d_Pg_become_19 : decode c_Pg_become 19 = .ok (.iconst 0, 1) := by decide +kernel
theorem d_Pg_become_20 : decode c_Pg_become 20 = .ok (.aload_n 0, 1) := by decide +kernel
theorem d_Pg_become_21 : decode c_Pg_become 21 = .ok (.getfield 15, 3) := by decide +kernel
theorem d_Pg_become_24 : decode c_Pg_become 24 = .ok (.iconst 0, 1) := by decide +kernel
theorem d_Pg_become_25 : decode c_Pg_become 25 = .ok (.bipush 8, 2) := by decide +kernel
theorem d_Pg_become_27 : decode c_Pg_become 27 = .ok (.invokestatic 28, 3) := by decide +kernel
theorem d_Pg_become_30 : decode c_Pg_become 30 = .ok (.aload_n 1, 1) := by decide +kernel
theorem d_Pg_become_31 : decode c_Pg_become 31 = .ok (.getfield 18, 3) := by decide +kernel
theorem d_Pg_become_34 : decode c_Pg_become 34 = .ok (.iconst 0, 1) := by decide +kernel
theorem d_Pg_become_35 : decode c_Pg_become 35 = .ok (.aload_n 0, 1) := by decide +kernel
theorem d_Pg_become_36 : decode c_Pg_become 36 = .ok (.getfield 18, 3) := by decide +kernel
theorem d_Pg_become_39 : decode c_Pg_become 39 = .ok (.iconst 0, 1) := by decide +kernel
theorem d_Pg_become_40 : decode c_Pg_become 40 = .ok (.bipush 8, 2) := by decide +kernel
theorem d_Pg_become_42 : decode c_Pg_become 42 = .ok (.invokestatic 28, 3) := by decide +kernel
theorem d_Pg_become_45 : decode c_Pg_become 45 = .ok (.aload_n 1, 1) := by decide +kernel
theorem d_Pg_become_46 : decode c_Pg_become 46 = .ok (.getfield 21, 3) := by decide +kernel
theorem d_Pg_become_49 : decode c_Pg_become 49 = .ok (.iconst 0, 1) := by decide +kernel
theorem d_Pg_become_50 : decode c_Pg_become 50 = .ok (.aload_n 0, 1) := by decide +kernel
theorem d_Pg_become_51 : decode c_Pg_become 51 = .ok (.getfield 21, 3) := by decide +kernel
theorem d_Pg_become_54 : decode c_Pg_become 54 = .ok (.iconst 0, 1) := by decide +kernel
theorem d_Pg_become_55 : decode c_Pg_become 55 = .ok (.bipush 8, 2) := by decide +kernel
theorem d_Pg_become_57 : decode c_Pg_become 57 = .ok (.invokestatic 28, 3) := by decide +kernel
theorem d_Pg_become_60 : decode c_Pg_become 60 = .ok (.aload_n 0, 1) := by decide +kernel
theorem d_Pg_become_61 : decode c_Pg_become 61 = .ok (.aload_n 1, 1) := by decide +kernel
theorem d_Pg_become_62 : decode c_Pg_become 62 = .ok (.getfield 24, 3) := by decide +kernel
theorem d_Pg_become_65 : decode c_Pg_become 65 = .ok (.putfield 24, 3) := by decide +kernel
theorem d_Pg_become_68 : decode c_Pg_become 68 = .ok (.return_, 1) := by decide +kernel

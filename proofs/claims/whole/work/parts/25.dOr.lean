theorem d_Or_isDigit_0 : decode c_Or_isDigit 0 = .ok (.iload_n 0, 1) := by decide +kernel
theorem d_Or_isDigit_1 : decode c_Or_isDigit 1 = .ok (.bipush 48, 2) := by decide +kernel
theorem d_Or_isDigit_3 : decode c_Or_isDigit 3 = .ok (.if_icmp .lt 13, 3) := by decide +kernel
theorem d_Or_isDigit_6 : decode c_Or_isDigit 6 = .ok (.iload_n 0, 1) := by decide +kernel
theorem d_Or_isDigit_7 : decode c_Or_isDigit 7 = .ok (.bipush 57, 2) := by decide +kernel
theorem d_Or_isDigit_9 : decode c_Or_isDigit 9 = .ok (.if_icmp .gt 7, 3) := by decide +kernel
theorem d_Or_isDigit_12 : decode c_Or_isDigit 12 = .ok (.iconst 1, 1) := by decide +kernel
theorem d_Or_isDigit_13 : decode c_Or_isDigit 13 = .ok (.goto 4, 3) := by decide +kernel
theorem d_Or_isDigit_16 : decode c_Or_isDigit 16 = .ok (.iconst 0, 1) := by decide +kernel
theorem d_Or_isDigit_17 : decode c_Or_isDigit 17 = .ok (.ireturn, 1) := by decide +kernel
theorem d_Or_firstFault_0 : decode c_Or_firstFault 0 = .ok (.aload_n 0, 1) := by decide +kernel
theorem d_Or_firstFault_1 : decode c_Or_firstFault 1 = .ok (.getfield 31, 3) := by decide +kernel
theorem d_Or_firstFault_4 : decode c_Or_firstFault 4 = .ok (.ireturn, 1) := by decide +kernel
theorem d_Or_length_0 : decode c_Or_length 0 = .ok (.aload_n 0, 1) := by decide +kernel
theorem d_Or_length_1 : decode c_Or_length 1 = .ok (.getfield 24, 3) := by decide +kernel
theorem d_Or_length_4 : decode c_Or_length 4 = .ok (.ireturn, 1) := by decide +kernel
theorem d_Or_expect_0 : decode c_Or_expect 0 = .ok (.aload_n 0, 1) := by decide +kernel
theorem d_Or_expect_1 : decode c_Or_expect 1 = .ok (.getfield 31, 3) := by decide +kernel
theorem d_Or_expect_4 : decode c_Or_expect 4 = .ok (.bipush (-6), 2) := by decide +kernel
theorem d_Or_expect_6 : decode c_Or_expect 6 = .ok (.if_icmp .eq 4, 3) := by decide +kernel
theorem d_Or_expect_9 : decode c_Or_expect 9 = .ok (.return_, 1) := by decide +kernel
theorem d_Or_expect_10 : decode c_Or_expect 10 = .ok (.aload_n 1, 1) := by decide +kernel
theorem d_Or_expect_11 : decode c_Or_expect 11 = .ok (.aload_n 0, 1) := by decide +kernel
theorem d_Or_expect_12 : decode c_Or_expect 12 = .ok (.getfield 28, 3) := by decide +kernel
theorem d_Or_expect_15 : decode c_Or_expect 15 = .ok (.invokevirtual 76, 3) := by decide +kernel
theorem d_Or_expect_18 : decode c_Or_expect 18 = .ok (.iload_n 2, 1) := by decide +kernel
theorem d_Or_expect_19 : decode c_Or_expect 19 = .ok (.if_icmp .ne 16, 3) := by decide +kernel
theorem d_Or_expect_22 : decode c_Or_expect 22 = .ok (.aload_n 0, 1) := by decide +kernel
theorem d_Or_expect_23 : decode c_Or_expect 23 = .ok (.dup, 1) := by decide +kernel
theorem d_Or_expect_24 : decode c_Or_expect 24 = .ok (.getfield 28, 3) := by decide +kernel
theorem d_Or_expect_27 : decode c_Or_expect 27 = .ok (.iconst 1, 1) := by decide +kernel
theorem d_Or_expect_28 : decode c_Or_expect 28 = .ok (.iadd, 1) := by decide +kernel
theorem d_Or_expect_29 : decode c_Or_expect 29 = .ok (.putfield 28, 3) := by decide +kernel
theorem d_Or_expect_32 : decode c_Or_expect 32 = .ok (.goto 11, 3) := by decide +kernel
theorem d_Or_expect_35 : decode c_Or_expect 35 = .ok (.aload_n 0, 1) := by decide +kernel
theorem d_Or_expect_36 : decode c_Or_expect 36 = .ok (.aload_n 0, 1) := by decide +kernel
theorem d_Or_expect_37 : decode c_Or_expect 37 = .ok (.getfield 28, 3) := by decide +kernel
theorem d_Or_expect_40 : decode c_Or_expect 40 = .ok (.putfield 31, 3) := by decide +kernel
theorem d_Or_expect_43 : decode c_Or_expect 43 = .ok (.return_, 1) := by decide +kernel
theorem d_Or_readPage_0 : decode c_Or_readPage 0 = .ok (.aload_n 1, 1) := by decide +kernel
theorem d_Or_readPage_1 : decode c_Or_readPage 1 = .ok (.aload_n 0, 1) := by decide +kernel
theorem d_Or_readPage_2 : decode c_Or_readPage 2 = .ok (.getfield 28, 3) := by decide +kernel
theorem d_Or_readPage_5 : decode c_Or_readPage 5 = .ok (.invokevirtual 76, 3) := by decide +kernel
theorem d_Or_readPage_8 : decode c_Or_readPage 8 = .ok (.bipush 48, 2) := by decide +kernel
theorem d_Or_readPage_10 : decode c_Or_readPage 10 = .ok (.isub, 1) := by decide +kernel
theorem d_Or_readPage_11 : decode c_Or_readPage 11 = .ok (.istore_n 2, 1) := by decide +kernel
theorem d_Or_readPage_12 : decode c_Or_readPage 12 = .ok (.aload_n 0, 1) := by decide +kernel
theorem d_Or_readPage_13 : decode c_Or_readPage 13 = .ok (.getfield 31, 3) := by decide +kernel
theorem d_Or_readPage_16 : decode c_Or_readPage 16 = .ok (.bipush (-6), 2) := by decide +kernel
theorem d_Or_readPage_18 : decode c_Or_readPage 18 = .ok (.if_icmp .ne 18, 3) := by decide +kernel
theorem d_Or_readPage_21 : decode c_Or_readPage 21 = .ok (.iload_n 2, 1) := by decide +kernel
theorem d_Or_readPage_22 : decode c_Or_readPage 22 = .ok (.invokestatic 86, 3) := by decide +kernel
theorem d_Or_readPage_25 : decode c_Or_readPage 25 = .ok (.ifCond .ne 11, 3) := by decide +kernel
theorem d_Or_readPage_28 : decode c_Or_readPage 28 = .ok (.aload_n 0, 1) := by decide +kernel
theorem d_Or_readPage_29 : decode c_Or_readPage 29 = .ok (.aload_n 0, 1) := by decide +kernel
theorem d_Or_readPage_30 : decode c_Or_readPage 30 = .ok (.getfield 28, 3) := by decide +kernel
theorem d_Or_readPage_33 : decode c_Or_readPage 33 = .ok (.putfield 31, 3) := by decide +kernel
theorem d_Or_readPage_36 : decode c_Or_readPage 36 = .ok (.aload_n 0, 1) := by decide +kernel
theorem d_Or_readPage_37 : decode c_Or_readPage 37 = .ok (.getfield 31, 3) := by decide +kernel
theorem d_Or_readPage_40 : decode c_Or_readPage 40 = .ok (.bipush (-6), 2) := by decide +kernel
theorem d_Or_readPage_42 : decode c_Or_readPage 42 = .ok (.if_icmp .eq 5, 3) := by decide +kernel
theorem d_Or_readPage_45 : decode c_Or_readPage 45 = .ok (.iconst 0, 1) := by decide +kernel
theorem d_Or_readPage_46 : decode c_Or_readPage 46 = .ok (.ireturn, 1) := by decide +kernel
theorem d_Or_readPage_47 : decode c_Or_readPage 47 = .ok (.aload_n 0, 1) := by decide +kernel
theorem d_Or_readPage_48 : decode c_Or_readPage 48 = .ok (.dup, 1) := by decide +kernel
theorem d_Or_readPage_49 : decode c_Or_readPage 49 = .ok (.getfield 28, 3) := by decide +kernel
theorem d_Or_readPage_52 : decode c_Or_readPage 52 = .ok (.iconst 1, 1) := by decide +kernel
theorem d_Or_readPage_53 : decode c_Or_readPage 53 = .ok (.iadd, 1) := by decide +kernel
theorem d_Or_readPage_54 : decode c_Or_readPage 54 = .ok (.putfield 28, 3) := by decide +kernel
theorem d_Or_readPage_57 : decode c_Or_readPage 57 = .ok (.iload_n 2, 1) := by decide +kernel
theorem d_Or_readPage_58 : decode c_Or_readPage 58 = .ok (.ireturn, 1) := by decide +kernel
theorem d_Or_readNumber_0 : decode c_Or_readNumber 0 = .ok (.aload_n 0, 1) := by decide +kernel
theorem d_Or_readNumber_1 : decode c_Or_readNumber 1 = .ok (.getfield 31, 3) := by decide +kernel
theorem d_Or_readNumber_4 : decode c_Or_readNumber 4 = .ok (.bipush (-6), 2) := by decide +kernel
theorem d_Or_readNumber_6 : decode c_Or_readNumber 6 = .ok (.if_icmp .ne 25, 3) := by decide +kernel
theorem d_Or_readNumber_9 : decode c_Or_readNumber 9 = .ok (.aload_n 1, 1) := by decide +kernel
theorem d_Or_readNumber_10 : decode c_Or_readNumber 10 = .ok (.aload_n 0, 1) := by decide +kernel
theorem d_Or_readNumber_11 : decode c_Or_readNumber 11 = .ok (.getfield 28, 3) := by decide +kernel
theorem d_Or_readNumber_14 : decode c_Or_readNumber 14 = .ok (.invokevirtual 76, 3) := by decide +kernel
theorem d_Or_readNumber_17 : decode c_Or_readNumber 17 = .ok (.invokestatic 90, 3) := by decide +kernel
theorem d_Or_readNumber_20 : decode c_Or_readNumber 20 = .ok (.ifCond .ne 11, 3) := by decide +kernel
theorem d_Or_readNumber_23 : decode c_Or_readNumber 23 = .ok (.aload_n 0, 1) := by decide +kernel
theorem d_Or_readNumber_24 : decode c_Or_readNumber 24 = .ok (.aload_n 0, 1) := by decide +kernel
theorem d_Or_readNumber_25 : decode c_Or_readNumber 25 = .ok (.getfield 28, 3) := by decide +kernel
theorem d_Or_readNumber_28 : decode c_Or_readNumber 28 = .ok (.putfield 31, 3) := by decide +kernel
theorem d_Or_readNumber_31 : decode c_Or_readNumber 31 = .ok (.aload_n 0, 1) := by decide +kernel
theorem d_Or_readNumber_32 : decode c_Or_readNumber 32 = .ok (.getfield 31, 3) := by decide +kernel
theorem d_Or_readNumber_35 : decode c_Or_readNumber 35 = .ok (.bipush (-6), 2) := by decide +kernel
theorem d_Or_readNumber_37 : decode c_Or_readNumber 37 = .ok (.if_icmp .eq 5, 3) := by decide +kernel
theorem d_Or_readNumber_40 : decode c_Or_readNumber 40 = .ok (.iconst 0, 1) := by decide +kernel
theorem d_Or_readNumber_41 : decode c_Or_readNumber 41 = .ok (.ireturn, 1) := by decide +kernel
theorem d_Or_readNumber_42 : decode c_Or_readNumber 42 = .ok (.aload_n 1, 1) := by decide +kernel
theorem d_Or_readNumber_43 : decode c_Or_readNumber 43 = .ok (.aload_n 0, 1) := by decide +kernel
theorem d_Or_readNumber_44 : decode c_Or_readNumber 44 = .ok (.getfield 28, 3) := by decide +kernel
theorem d_Or_readNumber_47 : decode c_Or_readNumber 47 = .ok (.invokevirtual 76, 3) := by decide +kernel
theorem d_Or_readNumber_50 : decode c_Or_readNumber 50 = .ok (.bipush 48, 2) := by decide +kernel
theorem d_Or_readNumber_52 : decode c_Or_readNumber 52 = .ok (.isub, 1) := by decide +kernel
theorem d_Or_readNumber_53 : decode c_Or_readNumber 53 = .ok (.istore_n 2, 1) := by decide +kernel
theorem d_Or_readNumber_54 : decode c_Or_readNumber 54 = .ok (.aload_n 0, 1) := by decide +kernel
theorem d_Or_readNumber_55 : decode c_Or_readNumber 55 = .ok (.dup, 1) := by decide +kernel
theorem d_Or_readNumber_56 : decode c_Or_readNumber 56 = .ok (.getfield 28, 3) := by decide +kernel
theorem d_Or_readNumber_59 : decode c_Or_readNumber 59 = .ok (.iconst 1, 1) := by decide +kernel
theorem d_Or_readNumber_60 : decode c_Or_readNumber 60 = .ok (.iadd, 1) := by decide +kernel
theorem d_Or_readNumber_61 : decode c_Or_readNumber 61 = .ok (.putfield 28, 3) := by decide +kernel
theorem d_Or_readNumber_64 : decode c_Or_readNumber 64 = .ok (.iconst 1, 1) := by decide +kernel
theorem d_Or_readNumber_65 : decode c_Or_readNumber 65 = .ok (.istore_n 3, 1) := by decide +kernel
theorem d_Or_readNumber_66 : decode c_Or_readNumber 66 = .ok (.iload_n 3, 1) := by decide +kernel
theorem d_Or_readNumber_67 : decode c_Or_readNumber 67 = .ok (.iconst 3, 1) := by decide +kernel
theorem d_Or_readNumber_68 : decode c_Or_readNumber 68 = .ok (.if_icmp .ge 54, 3) := by decide +kernel
theorem d_Or_readNumber_71 : decode c_Or_readNumber 71 = .ok (.iload_n 2, 1) := by decide +kernel
theorem d_Or_readNumber_72 : decode c_Or_readNumber 72 = .ok (.ifCond .le 50, 3) := by decide +kernel
theorem d_Or_readNumber_75 : decode c_Or_readNumber 75 = .ok (.aload_n 1, 1) := by decide +kernel
theorem d_Or_readNumber_76 : decode c_Or_readNumber 76 = .ok (.aload_n 0, 1) := by decide +kernel
theorem d_Or_readNumber_77 : decode c_Or_readNumber 77 = .ok (.getfield 28, 3) := by decide +kernel
theorem d_Or_readNumber_80 : decode c_Or_readNumber 80 = .ok (.invokevirtual 76, 3) := by decide +kernel
theorem d_Or_readNumber_83 : decode c_Or_readNumber 83 = .ok (.invokestatic 90, 3) := by decide +kernel
theorem d_Or_readNumber_86 : decode c_Or_readNumber 86 = .ok (.ifCond .eq 36, 3) := by decide +kernel
theorem d_Or_readNumber_89 : decode c_Or_readNumber 89 = .ok (.bipush 10, 2) := by decide +kernel
theorem d_Or_readNumber_91 : decode c_Or_readNumber 91 = .ok (.iload_n 2, 1) := by decide +kernel
theorem d_Or_readNumber_92 : decode c_Or_readNumber 92 = .ok (.imul, 1) := by decide +kernel
theorem d_Or_readNumber_93 : decode c_Or_readNumber 93 = .ok (.aload_n 1, 1) := by decide +kernel
theorem d_Or_readNumber_94 : decode c_Or_readNumber 94 = .ok (.aload_n 0, 1) := by decide +kernel
theorem d_Or_readNumber_95 : decode c_Or_readNumber 95 = .ok (.getfield 28, 3) := by decide +kernel
theorem d_Or_readNumber_98 : decode c_Or_readNumber 98 = .ok (.invokevirtual 76, 3) := by decide +kernel
theorem d_Or_readNumber_101 : decode c_Or_readNumber 101 = .ok (.iadd, 1) := by decide +kernel
theorem d_Or_readNumber_102 : decode c_Or_readNumber 102 = .ok (.bipush 48, 2) := by decide +kernel
theorem d_Or_readNumber_104 : decode c_Or_readNumber 104 = .ok (.isub, 1) := by decide +kernel
theorem d_Or_readNumber_105 : decode c_Or_readNumber 105 = .ok (.istore_n 2, 1) := by decide +kernel
theorem d_Or_readNumber_106 : decode c_Or_readNumber 106 = .ok (.aload_n 0, 1) := by decide +kernel
theorem d_Or_readNumber_107 : decode c_Or_readNumber 107 = .ok (.dup, 1) := by decide +kernel
theorem d_Or_readNumber_108 : decode c_Or_readNumber 108 = .ok (.getfield 28, 3) := by decide +kernel
theorem d_Or_readNumber_111 : decode c_Or_readNumber 111 = .ok (.iconst 1, 1) := by decide +kernel
theorem d_Or_readNumber_112 : decode c_Or_readNumber 112 = .ok (.iadd, 1) := by decide +kernel
theorem d_Or_readNumber_113 : decode c_Or_readNumber 113 = .ok (.putfield 28, 3) := by decide +kernel
theorem d_Or_readNumber_116 : decode c_Or_readNumber 116 = .ok (.iinc 3 1, 3) := by decide +kernel
theorem d_Or_readNumber_119 : decode c_Or_readNumber 119 = .ok (.goto (-53), 3) := by decide +kernel
theorem d_Or_readNumber_122 : decode c_Or_readNumber 122 = .ok (.iload_n 2, 1) := by decide +kernel
theorem d_Or_readNumber_123 : decode c_Or_readNumber 123 = .ok (.ireturn, 1) := by decide +kernel
theorem d_Or_readOrder_0 : decode c_Or_readOrder 0 = .ok (.aload_n 1, 1) := by decide +kernel
theorem d_Or_readOrder_1 : decode c_Or_readOrder 1 = .ok (.aload_n 0, 1) := by decide +kernel
theorem d_Or_readOrder_2 : decode c_Or_readOrder 2 = .ok (.getfield 28, 3) := by decide +kernel
theorem d_Or_readOrder_5 : decode c_Or_readOrder 5 = .ok (.invokevirtual 76, 3) := by decide +kernel
theorem d_Or_readOrder_8 : decode c_Or_readOrder 8 = .ok (.istore_n 2, 1) := by decide +kernel
theorem d_Or_readOrder_9 : decode c_Or_readOrder 9 = .ok (.aload_n 0, 1) := by decide +kernel
theorem d_Or_readOrder_10 : decode c_Or_readOrder 10 = .ok (.getfield 31, 3) := by decide +kernel
theorem d_Or_readOrder_13 : decode c_Or_readOrder 13 = .ok (.bipush (-6), 2) := by decide +kernel
theorem d_Or_readOrder_15 : decode c_Or_readOrder 15 = .ok (.if_icmp .ne 12, 3) := by decide +kernel
theorem d_Or_readOrder_18 : decode c_Or_readOrder 18 = .ok (.aload_n 0, 1) := by decide +kernel
theorem d_Or_readOrder_19 : decode c_Or_readOrder 19 = .ok (.getfield 24, 3) := by decide +kernel
theorem d_Or_readOrder_22 : decode c_Or_readOrder 22 = .ok (.bipush 80, 2) := by decide +kernel
theorem d_Or_readOrder_24 : decode c_Or_readOrder 24 = .ok (.if_icmp .lt 4, 3) := by decide +kernel
theorem d_Or_readOrder_27 : decode c_Or_readOrder 27 = .ok (.return_, 1) := by decide +kernel
theorem d_Or_readOrder_28 : decode c_Or_readOrder 28 = .ok (.aload_n 0, 1) := by decide +kernel
theorem d_Or_readOrder_29 : decode c_Or_readOrder 29 = .ok (.getfield 9, 3) := by decide +kernel
theorem d_Or_readOrder_32 : decode c_Or_readOrder 32 = .ok (.aload_n 0, 1) := by decide +kernel
theorem d_Or_readOrder_33 : decode c_Or_readOrder 33 = .ok (.getfield 24, 3) := by decide +kernel
theorem d_Or_readOrder_36 : decode c_Or_readOrder 36 = .ok (.iload_n 2, 1) := by decide +kernel
theorem d_Or_readOrder_37 : decode c_Or_readOrder 37 = .ok (.iastore, 1) := by decide +kernel
theorem d_Or_readOrder_38 : decode c_Or_readOrder 38 = .ok (.aload_n 0, 1) := by decide +kernel
theorem d_Or_readOrder_39 : decode c_Or_readOrder 39 = .ok (.dup, 1) := by decide +kernel
theorem d_Or_readOrder_40 : decode c_Or_readOrder 40 = .ok (.getfield 28, 3) := by decide +kernel
theorem d_Or_readOrder_43 : decode c_Or_readOrder 43 = .ok (.iconst 1, 1) := by decide +kernel
theorem d_Or_readOrder_44 : decode c_Or_readOrder 44 = .ok (.iadd, 1) := by decide +kernel
theorem d_Or_readOrder_45 : decode c_Or_readOrder 45 = .ok (.putfield 28, 3) := by decide +kernel
theorem d_Or_readOrder_48 : decode c_Or_readOrder 48 = .ok (.iload_n 2, 1) := by decide +kernel
theorem d_Or_readOrder_49 : decode c_Or_readOrder 49 = .ok (.tableswitch 203 98 120 #[107, 203, 203, 203, 186, 203, 203, 203, 203, 203, 203, 186, 203, 203, 169, 203, 203, 186, 186, 203, 203, 110, 107], 107) := by decide +kernel
theorem d_Or_readOrder_156 : decode c_Or_readOrder 156 = .ok (.goto 107, 3) := by decide +kernel
theorem d_Or_readOrder_159 : decode c_Or_readOrder 159 = .ok (.aload_n 0, 1) := by decide +kernel
theorem d_Or_readOrder_160 : decode c_Or_readOrder 160 = .ok (.getfield 15, 3) := by decide +kernel
theorem d_Or_readOrder_163 : decode c_Or_readOrder 163 = .ok (.aload_n 0, 1) := by decide +kernel
theorem d_Or_readOrder_164 : decode c_Or_readOrder 164 = .ok (.getfield 24, 3) := by decide +kernel
theorem d_Or_readOrder_167 : decode c_Or_readOrder 167 = .ok (.aload_n 0, 1) := by decide +kernel
theorem d_Or_readOrder_168 : decode c_Or_readOrder 168 = .ok (.aload_n 1, 1) := by decide +kernel
theorem d_Or_readOrder_169 : decode c_Or_readOrder 169 = .ok (.invokevirtual 79, 3) := by decide +kernel
theorem d_Or_readOrder_172 : decode c_Or_readOrder 172 = .ok (.iastore, 1) := by decide +kernel
theorem d_Or_readOrder_173 : decode c_Or_readOrder 173 = .ok (.aload_n 0, 1) := by decide +kernel
theorem d_Or_readOrder_174 : decode c_Or_readOrder 174 = .ok (.aload_n 1, 1) := by decide +kernel
theorem d_Or_readOrder_175 : decode c_Or_readOrder 175 = .ok (.bipush 62, 2) := by decide +kernel
theorem d_Or_readOrder_177 : decode c_Or_readOrder 177 = .ok (.invokevirtual 44, 3) := by decide +kernel
theorem d_Or_readOrder_180 : decode c_Or_readOrder 180 = .ok (.aload_n 0, 1) := by decide +kernel
theorem d_Or_readOrder_181 : decode c_Or_readOrder 181 = .ok (.getfield 18, 3) := by decide +kernel
theorem d_Or_readOrder_184 : decode c_Or_readOrder 184 = .ok (.aload_n 0, 1) := by decide +kernel
theorem d_Or_readOrder_185 : decode c_Or_readOrder 185 = .ok (.getfield 24, 3) := by decide +kernel
theorem d_Or_readOrder_188 : decode c_Or_readOrder 188 = .ok (.aload_n 0, 1) := by decide +kernel
theorem d_Or_readOrder_189 : decode c_Or_readOrder 189 = .ok (.aload_n 1, 1) := by decide +kernel
theorem d_Or_readOrder_190 : decode c_Or_readOrder 190 = .ok (.invokevirtual 83, 3) := by decide +kernel
theorem d_Or_readOrder_193 : decode c_Or_readOrder 193 = .ok (.iastore, 1) := by decide +kernel
theorem d_Or_readOrder_194 : decode c_Or_readOrder 194 = .ok (.aload_n 0, 1) := by decide +kernel
theorem d_Or_readOrder_195 : decode c_Or_readOrder 195 = .ok (.aload_n 1, 1) := by decide +kernel
theorem d_Or_readOrder_196 : decode c_Or_readOrder 196 = .ok (.bipush 61, 2) := by decide +kernel
theorem d_Or_readOrder_198 : decode c_Or_readOrder 198 = .ok (.invokevirtual 44, 3) := by decide +kernel
theorem d_Or_readOrder_201 : decode c_Or_readOrder 201 = .ok (.aload_n 0, 1) := by decide +kernel
theorem d_Or_readOrder_202 : decode c_Or_readOrder 202 = .ok (.getfield 21, 3) := by decide +kernel
theorem d_Or_readOrder_205 : decode c_Or_readOrder 205 = .ok (.aload_n 0, 1) := by decide +kernel
theorem d_Or_readOrder_206 : decode c_Or_readOrder 206 = .ok (.getfield 24, 3) := by decide +kernel
theorem d_Or_readOrder_209 : decode c_Or_readOrder 209 = .ok (.aload_n 0, 1) := by decide +kernel
theorem d_Or_readOrder_210 : decode c_Or_readOrder 210 = .ok (.aload_n 1, 1) := by decide +kernel
theorem d_Or_readOrder_211 : decode c_Or_readOrder 211 = .ok (.invokevirtual 79, 3) := by decide +kernel
theorem d_Or_readOrder_214 : decode c_Or_readOrder 214 = .ok (.iastore, 1) := by decide +kernel
theorem d_Or_readOrder_215 : decode c_Or_readOrder 215 = .ok (.goto 48, 3) := by decide +kernel
theorem d_Or_readOrder_218 : decode c_Or_readOrder 218 = .ok (.aload_n 0, 1) := by decide +kernel
theorem d_Or_readOrder_219 : decode c_Or_readOrder 219 = .ok (.getfield 18, 3) := by decide +kernel
theorem d_Or_readOrder_222 : decode c_Or_readOrder 222 = .ok (.aload_n 0, 1) := by decide +kernel
theorem d_Or_readOrder_223 : decode c_Or_readOrder 223 = .ok (.getfield 24, 3) := by decide +kernel
theorem d_Or_readOrder_226 : decode c_Or_readOrder 226 = .ok (.aload_n 0, 1) := by decide +kernel
theorem d_Or_readOrder_227 : decode c_Or_readOrder 227 = .ok (.aload_n 1, 1) := by decide +kernel
theorem d_Or_readOrder_228 : decode c_Or_readOrder 228 = .ok (.invokevirtual 83, 3) := by decide +kernel
theorem d_Or_readOrder_231 : decode c_Or_readOrder 231 = .ok (.iastore, 1) := by decide +kernel
theorem d_Or_readOrder_232 : decode c_Or_readOrder 232 = .ok (.goto 31, 3) := by decide +kernel
theorem d_Or_readOrder_235 : decode c_Or_readOrder 235 = .ok (.aload_n 0, 1) := by decide +kernel
theorem d_Or_readOrder_236 : decode c_Or_readOrder 236 = .ok (.getfield 15, 3) := by decide +kernel
theorem d_Or_readOrder_239 : decode c_Or_readOrder 239 = .ok (.aload_n 0, 1) := by decide +kernel
theorem d_Or_readOrder_240 : decode c_Or_readOrder 240 = .ok (.getfield 24, 3) := by decide +kernel
theorem d_Or_readOrder_243 : decode c_Or_readOrder 243 = .ok (.aload_n 0, 1) := by decide +kernel
theorem d_Or_readOrder_244 : decode c_Or_readOrder 244 = .ok (.aload_n 1, 1) := by decide +kernel
theorem d_Or_readOrder_245 : decode c_Or_readOrder 245 = .ok (.invokevirtual 79, 3) := by decide +kernel
theorem d_Or_readOrder_248 : decode c_Or_readOrder 248 = .ok (.iastore, 1) := by decide +kernel
theorem d_Or_readOrder_249 : decode c_Or_readOrder 249 = .ok (.goto 14, 3) := by decide +kernel
theorem d_Or_readOrder_252 : decode c_Or_readOrder 252 = .ok (.aload_n 0, 1) := by decide +kernel
theorem d_Or_readOrder_253 : decode c_Or_readOrder 253 = .ok (.aload_n 0, 1) := by decide +kernel
theorem d_Or_readOrder_254 : decode c_Or_readOrder 254 = .ok (.getfield 28, 3) := by decide +kernel
theorem d_Or_readOrder_257 : decode c_Or_readOrder 257 = .ok (.iconst 1, 1) := by decide +kernel
theorem d_Or_readOrder_258 : decode c_Or_readOrder 258 = .ok (.isub, 1) := by decide +kernel
theorem d_Or_readOrder_259 : decode c_Or_readOrder 259 = .ok (.putfield 31, 3) := by decide +kernel
theorem d_Or_readOrder_262 : decode c_Or_readOrder 262 = .ok (.return_, 1) := by decide +kernel
theorem d_Or_readOrder_263 : decode c_Or_readOrder 263 = .ok (.aload_n 0, 1) := by decide +kernel
theorem d_Or_readOrder_264 : decode c_Or_readOrder 264 = .ok (.dup, 1) := by decide +kernel
theorem d_Or_readOrder_265 : decode c_Or_readOrder 265 = .ok (.getfield 24, 3) := by decide +kernel
theorem d_Or_readOrder_268 : decode c_Or_readOrder 268 = .ok (.iconst 1, 1) := by decide +kernel
theorem d_Or_readOrder_269 : decode c_Or_readOrder 269 = .ok (.iadd, 1) := by decide +kernel
theorem d_Or_readOrder_270 : decode c_Or_readOrder 270 = .ok (.putfield 24, 3) := by decide +kernel
theorem d_Or_readOrder_273 : decode c_Or_readOrder 273 = .ok (.return_, 1) := by decide +kernel
theorem d_Or_read_0 : decode c_Or_read 0 = .ok (.aload_n 0, 1) := by decide +kernel
theorem d_Or_read_1 : decode c_Or_read 1 = .ok (.iconst 0, 1) := by decide +kernel
theorem d_Or_read_2 : decode c_Or_read 2 = .ok (.putfield 24, 3) := by decide +kernel
theorem d_Or_read_5 : decode c_Or_read 5 = .ok (.aload_n 0, 1) := by decide +kernel
theorem d_Or_read_6 : decode c_Or_read 6 = .ok (.iconst 0, 1) := by decide +kernel
theorem d_Or_read_7 : decode c_Or_read 7 = .ok (.putfield 28, 3) := by decide +kernel
theorem d_Or_read_10 : decode c_Or_read 10 = .ok (.aload_n 0, 1) := by decide +kernel
theorem d_Or_read_11 : decode c_Or_read 11 = .ok (.bipush (-6), 2) := by decide +kernel
theorem d_Or_read_13 : decode c_Or_read 13 = .ok (.putfield 31, 3) := by decide +kernel
theorem d_Or_read_16 : decode c_Or_read 16 = .ok (.aload_n 0, 1) := by decide +kernel
theorem d_Or_read_17 : decode c_Or_read 17 = .ok (.aload_n 1, 1) := by decide +kernel
theorem d_Or_read_18 : decode c_Or_read 18 = .ok (.invokevirtual 34, 3) := by decide +kernel
theorem d_Or_read_21 : decode c_Or_read 21 = .ok (.iconst 0, 1) := by decide +kernel
theorem d_Or_read_22 : decode c_Or_read 22 = .ok (.istore_n 2, 1) := by decide +kernel
theorem d_Or_read_23 : decode c_Or_read 23 = .ok (.iload_n 2, 1) := by decide +kernel
theorem d_Or_read_24 : decode c_Or_read 24 = .ok (.bipush 80, 2) := by decide +kernel
theorem d_Or_read_26 : decode c_Or_read 26 = .ok (.if_icmp .ge 41, 3) := by decide +kernel
theorem d_Or_read_29 : decode c_Or_read 29 = .ok (.aload_n 0, 1) := by decide +kernel
theorem d_Or_read_30 : decode c_Or_read 30 = .ok (.getfield 31, 3) := by decide +kernel
theorem d_Or_read_33 : decode c_Or_read 33 = .ok (.bipush (-6), 2) := by decide +kernel
theorem d_Or_read_35 : decode c_Or_read 35 = .ok (.if_icmp .ne 32, 3) := by decide +kernel
theorem d_Or_read_38 : decode c_Or_read 38 = .ok (.aload_n 0, 1) := by decide +kernel
theorem d_Or_read_39 : decode c_Or_read 39 = .ok (.getfield 28, 3) := by decide +kernel
theorem d_Or_read_42 : decode c_Or_read 42 = .ok (.aload_n 1, 1) := by decide +kernel
theorem d_Or_read_43 : decode c_Or_read 43 = .ok (.invokevirtual 38, 3) := by decide +kernel
theorem d_Or_read_46 : decode c_Or_read 46 = .ok (.if_icmp .ge 21, 3) := by decide +kernel
theorem d_Or_read_49 : decode c_Or_read 49 = .ok (.aload_n 0, 1) := by decide +kernel
theorem d_Or_read_50 : decode c_Or_read 50 = .ok (.aload_n 1, 1) := by decide +kernel
theorem d_Or_read_51 : decode c_Or_read 51 = .ok (.bipush 59, 2) := by decide +kernel
theorem d_Or_read_53 : decode c_Or_read 53 = .ok (.invokevirtual 44, 3) := by decide +kernel
theorem d_Or_read_56 : decode c_Or_read 56 = .ok (.aload_n 0, 1) := by decide +kernel
theorem d_Or_read_57 : decode c_Or_read 57 = .ok (.aload_n 1, 1) := by decide +kernel
theorem d_Or_read_58 : decode c_Or_read 58 = .ok (.invokevirtual 34, 3) := by decide +kernel
theorem d_Or_read_61 : decode c_Or_read 61 = .ok (.iinc 2 1, 3) := by decide +kernel
theorem d_Or_read_64 : decode c_Or_read 64 = .ok (.goto (-41), 3) := by decide +kernel
theorem d_Or_read_67 : decode c_Or_read 67 = .ok (.return_, 1) := by decide +kernel
theorem d_Or_obey_0 : decode c_Or_obey 0 = .ok (.iload_n 1, 1) := by decide +kernel
theorem d_Or_obey_1 : decode c_Or_obey 1 = .ok (.ifCond .lt 9, 3) := by decide +kernel
theorem d_Or_obey_4 : decode c_Or_obey 4 = .ok (.iload_n 1, 1) := by decide +kernel
theorem d_Or_obey_5 : decode c_Or_obey 5 = .ok (.bipush 80, 2) := by decide +kernel
theorem d_Or_obey_7 : decode c_Or_obey 7 = .ok (.if_icmp .lt 6, 3) := by decide +kernel
theorem d_Or_obey_10 : decode c_Or_obey 10 = .ok (.bipush (-6), 2) := by decide +kernel
theorem d_Or_obey_12 : decode c_Or_obey 12 = .ok (.ireturn, 1) := by decide +kernel
theorem d_Or_obey_13 : decode c_Or_obey 13 = .ok (.aload_n 0, 1) := by decide +kernel
theorem d_Or_obey_14 : decode c_Or_obey 14 = .ok (.getfield 9, 3) := by decide +kernel
theorem d_Or_obey_17 : decode c_Or_obey 17 = .ok (.iload_n 1, 1) := by decide +kernel
theorem d_Or_obey_18 : decode c_Or_obey 18 = .ok (.iaload, 1) := by decide +kernel
theorem d_Or_obey_19 : decode c_Or_obey 19 = .ok (.tableswitch 193 98 120 #[105, 193, 193, 193, 133, 193, 193, 193, 193, 193, 193, 182, 193, 193, 155, 193, 193, 166, 144, 193, 193, 110, 177], 105) := by decide +kernel
theorem d_Or_obey_124 : decode c_Or_obey 124 = .ok (.aload_n 2, 1) := by decide +kernel
theorem d_Or_obey_125 : decode c_Or_obey 125 = .ok (.invokevirtual 48, 3) := by decide +kernel
theorem d_Or_obey_128 : decode c_Or_obey 128 = .ok (.ireturn, 1) := by decide +kernel
theorem d_Or_obey_129 : decode c_Or_obey 129 = .ok (.aload_n 2, 1) := by decide +kernel
theorem d_Or_obey_130 : decode c_Or_obey 130 = .ok (.aload_n 0, 1) := by decide +kernel
theorem d_Or_obey_131 : decode c_Or_obey 131 = .ok (.getfield 15, 3) := by decide +kernel
theorem d_Or_obey_134 : decode c_Or_obey 134 = .ok (.iload_n 1, 1) := by decide +kernel
theorem d_Or_obey_135 : decode c_Or_obey 135 = .ok (.iaload, 1) := by decide +kernel
theorem d_Or_obey_136 : decode c_Or_obey 136 = .ok (.aload_n 0, 1) := by decide +kernel
theorem d_Or_obey_137 : decode c_Or_obey 137 = .ok (.getfield 18, 3) := by decide +kernel
theorem d_Or_obey_140 : decode c_Or_obey 140 = .ok (.iload_n 1, 1) := by decide +kernel
theorem d_Or_obey_141 : decode c_Or_obey 141 = .ok (.iaload, 1) := by decide +kernel
theorem d_Or_obey_142 : decode c_Or_obey 142 = .ok (.aload_n 0, 1) := by decide +kernel
theorem d_Or_obey_143 : decode c_Or_obey 143 = .ok (.getfield 21, 3) := by decide +kernel
theorem d_Or_obey_146 : decode c_Or_obey 146 = .ok (.iload_n 1, 1) := by decide +kernel
theorem d_Or_obey_147 : decode c_Or_obey 147 = .ok (.iaload, 1) := by decide +kernel
theorem d_Or_obey_148 : decode c_Or_obey 148 = .ok (.invokevirtual 53, 3) := by decide +kernel
theorem d_Or_obey_151 : decode c_Or_obey 151 = .ok (.ireturn, 1) := by decide +kernel
theorem d_Or_obey_152 : decode c_Or_obey 152 = .ok (.aload_n 2, 1) := by decide +kernel
theorem d_Or_obey_153 : decode c_Or_obey 153 = .ok (.aload_n 0, 1) := by decide +kernel
theorem d_Or_obey_154 : decode c_Or_obey 154 = .ok (.getfield 15, 3) := by decide +kernel
theorem d_Or_obey_157 : decode c_Or_obey 157 = .ok (.iload_n 1, 1) := by decide +kernel
theorem d_Or_obey_158 : decode c_Or_obey 158 = .ok (.iaload, 1) := by decide +kernel
theorem d_Or_obey_159 : decode c_Or_obey 159 = .ok (.invokevirtual 57, 3) := by decide +kernel
theorem d_Or_obey_162 : decode c_Or_obey 162 = .ok (.ireturn, 1) := by decide +kernel
theorem d_Or_obey_163 : decode c_Or_obey 163 = .ok (.aload_n 2, 1) := by decide +kernel
theorem d_Or_obey_164 : decode c_Or_obey 164 = .ok (.aload_n 0, 1) := by decide +kernel
theorem d_Or_obey_165 : decode c_Or_obey 165 = .ok (.getfield 15, 3) := by decide +kernel
theorem d_Or_obey_168 : decode c_Or_obey 168 = .ok (.iload_n 1, 1) := by decide +kernel
theorem d_Or_obey_169 : decode c_Or_obey 169 = .ok (.iaload, 1) := by decide +kernel
theorem d_Or_obey_170 : decode c_Or_obey 170 = .ok (.invokevirtual 61, 3) := by decide +kernel
theorem d_Or_obey_173 : decode c_Or_obey 173 = .ok (.ireturn, 1) := by decide +kernel
theorem d_Or_obey_174 : decode c_Or_obey 174 = .ok (.aload_n 2, 1) := by decide +kernel
theorem d_Or_obey_175 : decode c_Or_obey 175 = .ok (.aload_n 0, 1) := by decide +kernel
theorem d_Or_obey_176 : decode c_Or_obey 176 = .ok (.getfield 18, 3) := by decide +kernel
theorem d_Or_obey_179 : decode c_Or_obey 179 = .ok (.iload_n 1, 1) := by decide +kernel
theorem d_Or_obey_180 : decode c_Or_obey 180 = .ok (.iaload, 1) := by decide +kernel
theorem d_Or_obey_181 : decode c_Or_obey 181 = .ok (.invokevirtual 64, 3) := by decide +kernel
theorem d_Or_obey_184 : decode c_Or_obey 184 = .ok (.ireturn, 1) := by decide +kernel
theorem d_Or_obey_185 : decode c_Or_obey 185 = .ok (.aload_n 2, 1) := by decide +kernel
theorem d_Or_obey_186 : decode c_Or_obey 186 = .ok (.aload_n 0, 1) := by decide +kernel
theorem d_Or_obey_187 : decode c_Or_obey 187 = .ok (.getfield 15, 3) := by decide +kernel
theorem d_Or_obey_190 : decode c_Or_obey 190 = .ok (.iload_n 1, 1) := by decide +kernel
theorem d_Or_obey_191 : decode c_Or_obey 191 = .ok (.iaload, 1) := by decide +kernel
theorem d_Or_obey_192 : decode c_Or_obey 192 = .ok (.invokevirtual 67, 3) := by decide +kernel
theorem d_Or_obey_195 : decode c_Or_obey 195 = .ok (.ireturn, 1) := by decide +kernel
theorem d_Or_obey_196 : decode c_Or_obey 196 = .ok (.aload_n 2, 1) := by decide +kernel
theorem d_Or_obey_197 : decode c_Or_obey 197 = .ok (.invokevirtual 70, 3) := by decide +kernel
theorem d_Or_obey_200 : decode c_Or_obey 200 = .ok (.ireturn, 1) := by decide +kernel
theorem d_Or_obey_201 : decode c_Or_obey 201 = .ok (.aload_n 2, 1) := by decide +kernel
theorem d_Or_obey_202 : decode c_Or_obey 202 = .ok (.aload_n 0, 1) := by decide +kernel
theorem d_Or_obey_203 : decode c_Or_obey 203 = .ok (.getfield 15, 3) := by decide +kernel
theorem d_Or_obey_206 : decode c_Or_obey 206 = .ok (.iload_n 1, 1) := by decide +kernel
theorem d_Or_obey_207 : decode c_Or_obey 207 = .ok (.iaload, 1) := by decide +kernel
theorem d_Or_obey_208 : decode c_Or_obey 208 = .ok (.invokevirtual 73, 3) := by decide +kernel
theorem d_Or_obey_211 : decode c_Or_obey 211 = .ok (.ireturn, 1) := by decide +kernel
theorem d_Or_obey_212 : decode c_Or_obey 212 = .ok (.bipush (-6), 2) := by decide +kernel
theorem d_Or_obey_214 : decode c_Or_obey 214 = .ok (.ireturn, 1) := by decide +kernel

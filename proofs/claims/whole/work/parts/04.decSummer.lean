theorem d_Integer_rotateRight_0 : decode b_Integer_rotateRight 0 = .ok (.iload_n 0, 1) := by decide +kernel
theorem d_Integer_rotateRight_1 : decode b_Integer_rotateRight 1 = .ok (.iload_n 1, 1) := by decide +kernel
theorem d_Integer_rotateRight_2 : decode b_Integer_rotateRight 2 = .ok (.iushr, 1) := by decide +kernel
theorem d_Integer_rotateRight_3 : decode b_Integer_rotateRight 3 = .ok (.iload_n 0, 1) := by decide +kernel
theorem d_Integer_rotateRight_4 : decode b_Integer_rotateRight 4 = .ok (.iload_n 1, 1) := by decide +kernel
theorem d_Integer_rotateRight_5 : decode b_Integer_rotateRight 5 = .ok (.ineg, 1) := by decide +kernel
theorem d_Integer_rotateRight_6 : decode b_Integer_rotateRight 6 = .ok (.ishl, 1) := by decide +kernel
theorem d_Integer_rotateRight_7 : decode b_Integer_rotateRight 7 = .ok (.ior, 1) := by decide +kernel
theorem d_Integer_rotateRight_8 : decode b_Integer_rotateRight 8 = .ok (.ireturn, 1) := by decide +kernel
theorem d_Arrays_fill_0 : decode b_Arrays_fill 0 = .ok (.iconst 0, 1) := by decide +kernel
theorem d_Arrays_fill_1 : decode b_Arrays_fill 1 = .ok (.istore_n 2, 1) := by decide +kernel
theorem d_Arrays_fill_2 : decode b_Arrays_fill 2 = .ok (.aload_n 0, 1) := by decide +kernel
theorem d_Arrays_fill_3 : decode b_Arrays_fill 3 = .ok (.arraylength, 1) := by decide +kernel
theorem d_Arrays_fill_4 : decode b_Arrays_fill 4 = .ok (.istore_n 3, 1) := by decide +kernel
theorem d_Arrays_fill_5 : decode b_Arrays_fill 5 = .ok (.iload_n 2, 1) := by decide +kernel
theorem d_Arrays_fill_6 : decode b_Arrays_fill 6 = .ok (.iload_n 3, 1) := by decide +kernel
theorem d_Arrays_fill_7 : decode b_Arrays_fill 7 = .ok (.if_icmp .ge 13, 3) := by decide +kernel
theorem d_Arrays_fill_10 : decode b_Arrays_fill 10 = .ok (.aload_n 0, 1) := by decide +kernel
theorem d_Arrays_fill_11 : decode b_Arrays_fill 11 = .ok (.iload_n 2, 1) := by decide +kernel
theorem d_Arrays_fill_12 : decode b_Arrays_fill 12 = .ok (.iload_n 1, 1) := by decide +kernel
theorem d_Arrays_fill_13 : decode b_Arrays_fill 13 = .ok (.iastore, 1) := by decide +kernel
theorem d_Arrays_fill_14 : decode b_Arrays_fill 14 = .ok (.iinc 2 1, 3) := by decide +kernel
theorem d_Arrays_fill_17 : decode b_Arrays_fill 17 = .ok (.goto (-12), 3) := by decide +kernel
theorem d_Arrays_fill_20 : decode b_Arrays_fill 20 = .ok (.return_, 1) := by decide +kernel
theorem d_Summer_init_0 : decode b_Summer_init 0 = .ok (.aload_n 0, 1) := by decide +kernel
theorem d_Summer_init_1 : decode b_Summer_init 1 = .ok (.invokespecial 3, 3) := by decide +kernel
theorem d_Summer_init_4 : decode b_Summer_init 4 = .ok (.aload_n 0, 1) := by decide +kernel
theorem d_Summer_init_5 : decode b_Summer_init 5 = .ok (.bipush 8, 2) := by decide +kernel
theorem d_Summer_init_7 : decode b_Summer_init 7 = .ok (.newarray .int, 2) := by decide +kernel
theorem d_Summer_init_9 : decode b_Summer_init 9 = .ok (.putfield 9, 3) := by decide +kernel
theorem d_Summer_init_12 : decode b_Summer_init 12 = .ok (.aload_n 0, 1) := by decide +kernel
theorem d_Summer_init_13 : decode b_Summer_init 13 = .ok (.bipush 64, 2) := by decide +kernel
theorem d_Summer_init_15 : decode b_Summer_init 15 = .ok (.newarray .int, 2) := by decide +kernel
theorem d_Summer_init_17 : decode b_Summer_init 17 = .ok (.putfield 15, 3) := by decide +kernel
theorem d_Summer_init_20 : decode b_Summer_init 20 = .ok (.return_, 1) := by decide +kernel
theorem d_Summer_writeSum_0 : decode b_Summer_writeSum 0 = .ok (.aload_n 0, 1) := by decide +kernel
theorem d_Summer_writeSum_1 : decode b_Summer_writeSum 1 = .ok (.invokevirtual 18, 3) := by decide +kernel
theorem d_Summer_writeSum_4 : decode b_Summer_writeSum 4 = .ok (.aload_n 0, 1) := by decide +kernel
theorem d_Summer_writeSum_5 : decode b_Summer_writeSum 5 = .ok (.aload_n 1, 1) := by decide +kernel
theorem d_Summer_writeSum_6 : decode b_Summer_writeSum 6 = .ok (.iload_n 2, 1) := by decide +kernel
theorem d_Summer_writeSum_7 : decode b_Summer_writeSum 7 = .ok (.invokevirtual 21, 3) := by decide +kernel
theorem d_Summer_writeSum_10 : decode b_Summer_writeSum 10 = .ok (.aload_n 0, 1) := by decide +kernel
theorem d_Summer_writeSum_11 : decode b_Summer_writeSum 11 = .ok (.aload_n 3, 1) := by decide +kernel
theorem d_Summer_writeSum_12 : decode b_Summer_writeSum 12 = .ok (.invokevirtual 25, 3) := by decide +kernel
theorem d_Summer_writeSum_15 : decode b_Summer_writeSum 15 = .ok (.return_, 1) := by decide +kernel
theorem d_Summer_begin_0 : decode b_Summer_begin 0 = .ok (.getstatic 29, 3) := by decide +kernel
theorem d_Summer_begin_3 : decode b_Summer_begin 3 = .ok (.iconst 0, 1) := by decide +kernel
theorem d_Summer_begin_4 : decode b_Summer_begin 4 = .ok (.aload_n 0, 1) := by decide +kernel
theorem d_Summer_begin_5 : decode b_Summer_begin 5 = .ok (.getfield 9, 3) := by decide +kernel
theorem d_Summer_begin_8 : decode b_Summer_begin 8 = .ok (.iconst 0, 1) := by decide +kernel
theorem d_Summer_begin_9 : decode b_Summer_begin 9 = .ok (.bipush 8, 2) := by decide +kernel
theorem d_Summer_begin_11 : decode b_Summer_begin 11 = .ok (.invokestatic 32, 3) := by decide +kernel
theorem d_Summer_begin_14 : decode b_Summer_begin 14 = .ok (.aload_n 0, 1) := by decide +kernel
theorem d_Summer_begin_15 : decode b_Summer_begin 15 = .ok (.iconst 0, 1) := by decide +kernel
theorem d_Summer_begin_16 : decode b_Summer_begin 16 = .ok (.putfield 38, 3) := by decide +kernel
theorem d_Summer_begin_19 : decode b_Summer_begin 19 = .ok (.return_, 1) := by decide +kernel
theorem d_Summer_beginBehindBlock_0 : decode b_Summer_beginBehindBlock 0 = .ok (.aload_n 1, 1) := by decide +kernel
theorem d_Summer_beginBehindBlock_1 : decode b_Summer_beginBehindBlock 1 = .ok (.iconst 0, 1) := by decide +kernel
theorem d_Summer_beginBehindBlock_2 : decode b_Summer_beginBehindBlock 2 = .ok (.aload_n 0, 1) := by decide +kernel
theorem d_Summer_beginBehindBlock_3 : decode b_Summer_beginBehindBlock 3 = .ok (.getfield 9, 3) := by decide +kernel
theorem d_Summer_beginBehindBlock_6 : decode b_Summer_beginBehindBlock 6 = .ok (.iconst 0, 1) := by decide +kernel
theorem d_Summer_beginBehindBlock_7 : decode b_Summer_beginBehindBlock 7 = .ok (.bipush 8, 2) := by decide +kernel
theorem d_Summer_beginBehindBlock_9 : decode b_Summer_beginBehindBlock 9 = .ok (.invokestatic 32, 3) := by decide +kernel
theorem d_Summer_beginBehindBlock_12 : decode b_Summer_beginBehindBlock 12 = .ok (.aload_n 0, 1) := by decide +kernel
theorem d_Summer_beginBehindBlock_13 : decode b_Summer_beginBehindBlock 13 = .ok (.bipush 64, 2) := by decide +kernel
theorem d_Summer_beginBehindBlock_15 : decode b_Summer_beginBehindBlock 15 = .ok (.putfield 38, 3) := by decide +kernel
theorem d_Summer_beginBehindBlock_18 : decode b_Summer_beginBehindBlock 18 = .ok (.return_, 1) := by decide +kernel
theorem d_Summer_keepState_0 : decode b_Summer_keepState 0 = .ok (.aload_n 0, 1) := by decide +kernel
theorem d_Summer_keepState_1 : decode b_Summer_keepState 1 = .ok (.getfield 9, 3) := by decide +kernel
theorem d_Summer_keepState_4 : decode b_Summer_keepState 4 = .ok (.iconst 0, 1) := by decide +kernel
theorem d_Summer_keepState_5 : decode b_Summer_keepState 5 = .ok (.aload_n 1, 1) := by decide +kernel
theorem d_Summer_keepState_6 : decode b_Summer_keepState 6 = .ok (.iconst 0, 1) := by decide +kernel
theorem d_Summer_keepState_7 : decode b_Summer_keepState 7 = .ok (.bipush 8, 2) := by decide +kernel
theorem d_Summer_keepState_9 : decode b_Summer_keepState 9 = .ok (.invokestatic 32, 3) := by decide +kernel
theorem d_Summer_keepState_12 : decode b_Summer_keepState 12 = .ok (.return_, 1) := by decide +kernel
theorem d_Summer_takeRow_0 : decode b_Summer_takeRow 0 = .ok (.iconst 0, 1) := by decide +kernel
theorem d_Summer_takeRow_1 : decode b_Summer_takeRow 1 = .ok (.istore_n 3, 1) := by decide +kernel
theorem d_Summer_takeRow_2 : decode b_Summer_takeRow 2 = .ok (.iload_n 3, 1) := by decide +kernel
theorem d_Summer_takeRow_3 : decode b_Summer_takeRow 3 = .ok (.iload_n 2, 1) := by decide +kernel
theorem d_Summer_takeRow_4 : decode b_Summer_takeRow 4 = .ok (.if_icmp .ge 16, 3) := by decide +kernel
theorem d_Summer_takeRow_7 : decode b_Summer_takeRow 7 = .ok (.aload_n 0, 1) := by decide +kernel
theorem d_Summer_takeRow_8 : decode b_Summer_takeRow 8 = .ok (.aload_n 1, 1) := by decide +kernel
theorem d_Summer_takeRow_9 : decode b_Summer_takeRow 9 = .ok (.iload_n 3, 1) := by decide +kernel
theorem d_Summer_takeRow_10 : decode b_Summer_takeRow 10 = .ok (.iaload, 1) := by decide +kernel
theorem d_Summer_takeRow_11 : decode b_Summer_takeRow 11 = .ok (.invokevirtual 42, 3) := by decide +kernel
theorem d_Summer_takeRow_14 : decode b_Summer_takeRow 14 = .ok (.iinc 3 1, 3) := by decide +kernel
theorem d_Summer_takeRow_17 : decode b_Summer_takeRow 17 = .ok (.goto (-15), 3) := by decide +kernel
theorem d_Summer_takeRow_20 : decode b_Summer_takeRow 20 = .ok (.return_, 1) := by decide +kernel
theorem d_Summer_finish_0 : decode b_Summer_finish 0 = .ok (.ldc2_w 46, 3) := by decide +kernel
theorem d_Summer_finish_3 : decode b_Summer_finish 3 = .ok (.aload_n 0, 1) := by decide +kernel
theorem d_Summer_finish_4 : decode b_Summer_finish 4 = .ok (.getfield 38, 3) := by decide +kernel
theorem d_Summer_finish_7 : decode b_Summer_finish 7 = .ok (.i2l, 1) := by decide +kernel
theorem d_Summer_finish_8 : decode b_Summer_finish 8 = .ok (.lmul, 1) := by decide +kernel
theorem d_Summer_finish_9 : decode b_Summer_finish 9 = .ok (.lstore_n 2, 1) := by decide +kernel
theorem d_Summer_finish_10 : decode b_Summer_finish 10 = .ok (.bipush 55, 2) := by decide +kernel
theorem d_Summer_finish_12 : decode b_Summer_finish 12 = .ok (.aload_n 0, 1) := by decide +kernel
theorem d_Summer_finish_13 : decode b_Summer_finish 13 = .ok (.getfield 38, 3) := by decide +kernel
theorem d_Summer_finish_16 : decode b_Summer_finish 16 = .ok (.isub, 1) := by decide +kernel
theorem d_Summer_finish_17 : decode b_Summer_finish 17 = .ok (.bipush 63, 2) := by decide +kernel
theorem d_Summer_finish_19 : decode b_Summer_finish 19 = .ok (.iand, 1) := by decide +kernel
theorem d_Summer_finish_20 : decode b_Summer_finish 20 = .ok (.istore 4, 2) := by decide +kernel
theorem d_Summer_finish_22 : decode b_Summer_finish 22 = .ok (.aload_n 0, 1) := by decide +kernel
theorem d_Summer_finish_23 : decode b_Summer_finish 23 = .ok (.sipush 128, 3) := by decide +kernel
theorem d_Summer_finish_26 : decode b_Summer_finish 26 = .ok (.invokevirtual 42, 3) := by decide +kernel
theorem d_Summer_finish_29 : decode b_Summer_finish 29 = .ok (.iconst 0, 1) := by decide +kernel
theorem d_Summer_finish_30 : decode b_Summer_finish 30 = .ok (.istore 5, 2) := by decide +kernel
theorem d_Summer_finish_32 : decode b_Summer_finish 32 = .ok (.iload 5, 2) := by decide +kernel
theorem d_Summer_finish_34 : decode b_Summer_finish 34 = .ok (.iload 4, 2) := by decide +kernel
theorem d_Summer_finish_36 : decode b_Summer_finish 36 = .ok (.if_icmp .ge 14, 3) := by decide +kernel
theorem d_Summer_finish_39 : decode b_Summer_finish 39 = .ok (.aload_n 0, 1) := by decide +kernel
theorem d_Summer_finish_40 : decode b_Summer_finish 40 = .ok (.iconst 0, 1) := by decide +kernel
theorem d_Summer_finish_41 : decode b_Summer_finish 41 = .ok (.invokevirtual 42, 3) := by decide +kernel
theorem d_Summer_finish_44 : decode b_Summer_finish 44 = .ok (.iinc 5 1, 3) := by decide +kernel
theorem d_Summer_finish_47 : decode b_Summer_finish 47 = .ok (.goto (-15), 3) := by decide +kernel
theorem d_Summer_finish_50 : decode b_Summer_finish 50 = .ok (.bipush 56, 2) := by decide +kernel
theorem d_Summer_finish_52 : decode b_Summer_finish 52 = .ok (.istore 5, 2) := by decide +kernel
theorem d_Summer_finish_54 : decode b_Summer_finish 54 = .ok (.iload 5, 2) := by decide +kernel
theorem d_Summer_finish_56 : decode b_Summer_finish 56 = .ok (.ifCond .lt 22, 3) := by decide +kernel
theorem d_Summer_finish_59 : decode b_Summer_finish 59 = .ok (.aload_n 0, 1) := by decide +kernel
theorem d_Summer_finish_60 : decode b_Summer_finish 60 = .ok (.lload_n 2, 1) := by decide +kernel
theorem d_Summer_finish_61 : decode b_Summer_finish 61 = .ok (.iload 5, 2) := by decide +kernel
theorem d_Summer_finish_63 : decode b_Summer_finish 63 = .ok (.lushr, 1) := by decide +kernel
theorem d_Summer_finish_64 : decode b_Summer_finish 64 = .ok (.l2i, 1) := by decide +kernel
theorem d_Summer_finish_65 : decode b_Summer_finish 65 = .ok (.sipush 255, 3) := by decide +kernel
theorem d_Summer_finish_68 : decode b_Summer_finish 68 = .ok (.iand, 1) := by decide +kernel
theorem d_Summer_finish_69 : decode b_Summer_finish 69 = .ok (.invokevirtual 42, 3) := by decide +kernel
theorem d_Summer_finish_72 : decode b_Summer_finish 72 = .ok (.iinc 5 (-8), 3) := by decide +kernel
theorem d_Summer_finish_75 : decode b_Summer_finish 75 = .ok (.goto (-21), 3) := by decide +kernel
theorem d_Summer_finish_78 : decode b_Summer_finish 78 = .ok (.iconst 0, 1) := by decide +kernel
theorem d_Summer_finish_79 : decode b_Summer_finish 79 = .ok (.istore 5, 2) := by decide +kernel
theorem d_Summer_finish_81 : decode b_Summer_finish 81 = .ok (.iload 5, 2) := by decide +kernel
theorem d_Summer_finish_83 : decode b_Summer_finish 83 = .ok (.bipush 8, 2) := by decide +kernel
theorem d_Summer_finish_85 : decode b_Summer_finish 85 = .ok (.if_icmp .ge 24, 3) := by decide +kernel
theorem d_Summer_finish_88 : decode b_Summer_finish 88 = .ok (.aload_n 0, 1) := by decide +kernel
theorem d_Summer_finish_89 : decode b_Summer_finish 89 = .ok (.getfield 9, 3) := by decide +kernel
theorem d_Summer_finish_92 : decode b_Summer_finish 92 = .ok (.iload 5, 2) := by decide +kernel
theorem d_Summer_finish_94 : decode b_Summer_finish 94 = .ok (.iaload, 1) := by decide +kernel
theorem d_Summer_finish_95 : decode b_Summer_finish 95 = .ok (.aload_n 1, 1) := by decide +kernel
theorem d_Summer_finish_96 : decode b_Summer_finish 96 = .ok (.iload 5, 2) := by decide +kernel
theorem d_Summer_finish_98 : decode b_Summer_finish 98 = .ok (.iconst 4, 1) := by decide +kernel
theorem d_Summer_finish_99 : decode b_Summer_finish 99 = .ok (.imul, 1) := by decide +kernel
theorem d_Summer_finish_100 : decode b_Summer_finish 100 = .ok (.invokestatic 48, 3) := by decide +kernel
theorem d_Summer_finish_103 : decode b_Summer_finish 103 = .ok (.iinc 5 1, 3) := by decide +kernel
theorem d_Summer_finish_106 : decode b_Summer_finish 106 = .ok (.goto (-25), 3) := by decide +kernel
theorem d_Summer_finish_109 : decode b_Summer_finish 109 = .ok (.return_, 1) := by decide +kernel
theorem d_Summer_take_0 : decode b_Summer_take 0 = .ok (.aload_n 0, 1) := by decide +kernel
theorem d_Summer_take_1 : decode b_Summer_take 1 = .ok (.getfield 38, 3) := by decide +kernel
theorem d_Summer_take_4 : decode b_Summer_take 4 = .ok (.bipush 63, 2) := by decide +kernel
theorem d_Summer_take_6 : decode b_Summer_take 6 = .ok (.iand, 1) := by decide +kernel
theorem d_Summer_take_7 : decode b_Summer_take 7 = .ok (.istore_n 2, 1) := by decide +kernel
theorem d_Summer_take_8 : decode b_Summer_take 8 = .ok (.iload_n 2, 1) := by decide +kernel
theorem d_Summer_take_9 : decode b_Summer_take 9 = .ok (.iconst 4, 1) := by decide +kernel
theorem d_Summer_take_10 : decode b_Summer_take 10 = .ok (.idiv, 1) := by decide +kernel
theorem d_Summer_take_11 : decode b_Summer_take 11 = .ok (.istore_n 3, 1) := by decide +kernel
theorem d_Summer_take_12 : decode b_Summer_take 12 = .ok (.aload_n 0, 1) := by decide +kernel
theorem d_Summer_take_13 : decode b_Summer_take 13 = .ok (.getfield 15, 3) := by decide +kernel
theorem d_Summer_take_16 : decode b_Summer_take 16 = .ok (.iload_n 3, 1) := by decide +kernel
theorem d_Summer_take_17 : decode b_Summer_take 17 = .ok (.aload_n 0, 1) := by decide +kernel
theorem d_Summer_take_18 : decode b_Summer_take 18 = .ok (.getfield 15, 3) := by decide +kernel
theorem d_Summer_take_21 : decode b_Summer_take 21 = .ok (.iload_n 3, 1) := by decide +kernel
theorem d_Summer_take_22 : decode b_Summer_take 22 = .ok (.iaload, 1) := by decide +kernel
theorem d_Summer_take_23 : decode b_Summer_take 23 = .ok (.bipush 8, 2) := by decide +kernel
theorem d_Summer_take_25 : decode b_Summer_take 25 = .ok (.ishl, 1) := by decide +kernel
theorem d_Summer_take_26 : decode b_Summer_take 26 = .ok (.iload_n 1, 1) := by decide +kernel
theorem d_Summer_take_27 : decode b_Summer_take 27 = .ok (.ior, 1) := by decide +kernel
theorem d_Summer_take_28 : decode b_Summer_take 28 = .ok (.iastore, 1) := by decide +kernel
theorem d_Summer_take_29 : decode b_Summer_take 29 = .ok (.aload_n 0, 1) := by decide +kernel
theorem d_Summer_take_30 : decode b_Summer_take 30 = .ok (.dup, 1) := by decide +kernel
theorem d_Summer_take_31 : decode b_Summer_take 31 = .ok (.getfield 38, 3) := by decide +kernel
theorem d_Summer_take_34 : decode b_Summer_take 34 = .ok (.iconst 1, 1) := by decide +kernel
theorem d_Summer_take_35 : decode b_Summer_take 35 = .ok (.iadd, 1) := by decide +kernel
theorem d_Summer_take_36 : decode b_Summer_take 36 = .ok (.putfield 38, 3) := by decide +kernel
theorem d_Summer_take_39 : decode b_Summer_take 39 = .ok (.iload_n 2, 1) := by decide +kernel
theorem d_Summer_take_40 : decode b_Summer_take 40 = .ok (.bipush 63, 2) := by decide +kernel
theorem d_Summer_take_42 : decode b_Summer_take 42 = .ok (.if_icmp .ne 11, 3) := by decide +kernel
theorem d_Summer_take_45 : decode b_Summer_take 45 = .ok (.aload_n 0, 1) := by decide +kernel
theorem d_Summer_take_46 : decode b_Summer_take 46 = .ok (.invokevirtual 52, 3) := by decide +kernel
theorem d_Summer_take_49 : decode b_Summer_take 49 = .ok (.aload_n 0, 1) := by decide +kernel
theorem d_Summer_take_50 : decode b_Summer_take 50 = .ok (.invokevirtual 55, 3) := by decide +kernel
theorem d_Summer_take_53 : decode b_Summer_take 53 = .ok (.return_, 1) := by decide +kernel
theorem d_Summer_spreadWords_0 : decode b_Summer_spreadWords 0 = .ok (.bipush 16, 2) := by decide +kernel
theorem d_Summer_spreadWords_2 : decode b_Summer_spreadWords 2 = .ok (.istore_n 1, 1) := by decide +kernel
theorem d_Summer_spreadWords_3 : decode b_Summer_spreadWords 3 = .ok (.iload_n 1, 1) := by decide +kernel
theorem d_Summer_spreadWords_4 : decode b_Summer_spreadWords 4 = .ok (.bipush 64, 2) := by decide +kernel
theorem d_Summer_spreadWords_6 : decode b_Summer_spreadWords 6 = .ok (.if_icmp .ge 59, 3) := by decide +kernel
theorem d_Summer_spreadWords_9 : decode b_Summer_spreadWords 9 = .ok (.aload_n 0, 1) := by decide +kernel
theorem d_Summer_spreadWords_10 : decode b_Summer_spreadWords 10 = .ok (.getfield 15, 3) := by decide +kernel
theorem d_Summer_spreadWords_13 : decode b_Summer_spreadWords 13 = .ok (.iload_n 1, 1) := by decide +kernel
theorem d_Summer_spreadWords_14 : decode b_Summer_spreadWords 14 = .ok (.aload_n 0, 1) := by decide +kernel
theorem d_Summer_spreadWords_15 : decode b_Summer_spreadWords 15 = .ok (.getfield 15, 3) := by decide +kernel
theorem d_Summer_spreadWords_18 : decode b_Summer_spreadWords 18 = .ok (.iload_n 1, 1) := by decide +kernel
theorem d_Summer_spreadWords_19 : decode b_Summer_spreadWords 19 = .ok (.iconst 2, 1) := by decide +kernel
theorem d_Summer_spreadWords_20 : decode b_Summer_spreadWords 20 = .ok (.isub, 1) := by decide +kernel
theorem d_Summer_spreadWords_21 : decode b_Summer_spreadWords 21 = .ok (.iaload, 1) := by decide +kernel
theorem d_Summer_spreadWords_22 : decode b_Summer_spreadWords 22 = .ok (.invokestatic 58, 3) := by decide +kernel
theorem d_Summer_spreadWords_25 : decode b_Summer_spreadWords 25 = .ok (.aload_n 0, 1) := by decide +kernel
theorem d_Summer_spreadWords_26 : decode b_Summer_spreadWords 26 = .ok (.getfield 15, 3) := by decide +kernel
theorem d_Summer_spreadWords_29 : decode b_Summer_spreadWords 29 = .ok (.iload_n 1, 1) := by decide +kernel
theorem d_Summer_spreadWords_30 : decode b_Summer_spreadWords 30 = .ok (.bipush 7, 2) := by decide +kernel
theorem d_Summer_spreadWords_32 : decode b_Summer_spreadWords 32 = .ok (.isub, 1) := by decide +kernel
theorem d_Summer_spreadWords_33 : decode b_Summer_spreadWords 33 = .ok (.iaload, 1) := by decide +kernel
theorem d_Summer_spreadWords_34 : decode b_Summer_spreadWords 34 = .ok (.iadd, 1) := by decide +kernel
theorem d_Summer_spreadWords_35 : decode b_Summer_spreadWords 35 = .ok (.aload_n 0, 1) := by decide +kernel
theorem d_Summer_spreadWords_36 : decode b_Summer_spreadWords 36 = .ok (.getfield 15, 3) := by decide +kernel
theorem d_Summer_spreadWords_39 : decode b_Summer_spreadWords 39 = .ok (.iload_n 1, 1) := by decide +kernel
theorem d_Summer_spreadWords_40 : decode b_Summer_spreadWords 40 = .ok (.bipush 15, 2) := by decide +kernel
theorem d_Summer_spreadWords_42 : decode b_Summer_spreadWords 42 = .ok (.isub, 1) := by decide +kernel
theorem d_Summer_spreadWords_43 : decode b_Summer_spreadWords 43 = .ok (.iaload, 1) := by decide +kernel
theorem d_Summer_spreadWords_44 : decode b_Summer_spreadWords 44 = .ok (.invokestatic 62, 3) := by decide +kernel
theorem d_Summer_spreadWords_47 : decode b_Summer_spreadWords 47 = .ok (.iadd, 1) := by decide +kernel
theorem d_Summer_spreadWords_48 : decode b_Summer_spreadWords 48 = .ok (.aload_n 0, 1) := by decide +kernel
theorem d_Summer_spreadWords_49 : decode b_Summer_spreadWords 49 = .ok (.getfield 15, 3) := by decide +kernel
theorem d_Summer_spreadWords_52 : decode b_Summer_spreadWords 52 = .ok (.iload_n 1, 1) := by decide +kernel
theorem d_Summer_spreadWords_53 : decode b_Summer_spreadWords 53 = .ok (.bipush 16, 2) := by decide +kernel
theorem d_Summer_spreadWords_55 : decode b_Summer_spreadWords 55 = .ok (.isub, 1) := by decide +kernel
theorem d_Summer_spreadWords_56 : decode b_Summer_spreadWords 56 = .ok (.iaload, 1) := by decide +kernel
theorem d_Summer_spreadWords_57 : decode b_Summer_spreadWords 57 = .ok (.iadd, 1) := by decide +kernel
theorem d_Summer_spreadWords_58 : decode b_Summer_spreadWords 58 = .ok (.iastore, 1) := by decide +kernel
theorem d_Summer_spreadWords_59 : decode b_Summer_spreadWords 59 = .ok (.iinc 1 1, 3) := by decide +kernel
theorem d_Summer_spreadWords_62 : decode b_Summer_spreadWords 62 = .ok (.goto (-59), 3) := by decide +kernel
theorem d_Summer_spreadWords_65 : decode b_Summer_spreadWords 65 = .ok (.return_, 1) := by decide +kernel
theorem d_Summer_mixWords_0 : decode b_Summer_mixWords 0 = .ok (.aload_n 0, 1) := by decide +kernel
theorem d_Summer_mixWords_1 : decode b_Summer_mixWords 1 = .ok (.getfield 9, 3) := by decide +kernel
theorem d_Summer_mixWords_4 : decode b_Summer_mixWords 4 = .ok (.iconst 0, 1) := by decide +kernel
theorem d_Summer_mixWords_5 : decode b_Summer_mixWords 5 = .ok (.iaload, 1) := by decide +kernel
theorem d_Summer_mixWords_6 : decode b_Summer_mixWords 6 = .ok (.istore_n 1, 1) := by decide +kernel
theorem d_Summer_mixWords_7 : decode b_Summer_mixWords 7 = .ok (.aload_n 0, 1) := by decide +kernel
theorem d_Summer_mixWords_8 : decode b_Summer_mixWords 8 = .ok (.getfield 9, 3) := by decide +kernel
theorem d_Summer_mixWords_11 : decode b_Summer_mixWords 11 = .ok (.iconst 1, 1) := by decide +kernel
theorem d_Summer_mixWords_12 : decode b_Summer_mixWords 12 = .ok (.iaload, 1) := by decide +kernel
theorem d_Summer_mixWords_13 : decode b_Summer_mixWords 13 = .ok (.istore_n 2, 1) := by decide +kernel
theorem d_Summer_mixWords_14 : decode b_Summer_mixWords 14 = .ok (.aload_n 0, 1) := by decide +kernel
theorem d_Summer_mixWords_15 : decode b_Summer_mixWords 15 = .ok (.getfield 9, 3) := by decide +kernel
theorem d_Summer_mixWords_18 : decode b_Summer_mixWords 18 = .ok (.iconst 2, 1) := by decide +kernel
theorem d_Summer_mixWords_19 : decode b_Summer_mixWords 19 = .ok (.iaload, 1) := by decide +kernel
theorem d_Summer_mixWords_20 : decode b_Summer_mixWords 20 = .ok (.istore_n 3, 1) := by decide +kernel
theorem d_Summer_mixWords_21 : decode b_Summer_mixWords 21 = .ok (.aload_n 0, 1) := by decide +kernel
theorem d_Summer_mixWords_22 : decode b_Summer_mixWords 22 = .ok (.getfield 9, 3) := by decide +kernel
theorem d_Summer_mixWords_25 : decode b_Summer_mixWords 25 = .ok (.iconst 3, 1) := by decide +kernel
theorem d_Summer_mixWords_26 : decode b_Summer_mixWords 26 = .ok (.iaload, 1) := by decide +kernel
theorem d_Summer_mixWords_27 : decode b_Summer_mixWords 27 = .ok (.istore 4, 2) := by decide +kernel
theorem d_Summer_mixWords_29 : decode b_Summer_mixWords 29 = .ok (.aload_n 0, 1) := by decide +kernel
theorem d_Summer_mixWords_30 : decode b_Summer_mixWords 30 = .ok (.getfield 9, 3) := by decide +kernel
theorem d_Summer_mixWords_33 : decode b_Summer_mixWords 33 = .ok (.iconst 4, 1) := by decide +kernel
theorem d_Summer_mixWords_34 : decode b_Summer_mixWords 34 = .ok (.iaload, 1) := by decide +kernel
theorem d_Summer_mixWords_35 : decode b_Summer_mixWords 35 = .ok (.istore 5, 2) := by decide +kernel
theorem d_Summer_mixWords_37 : decode b_Summer_mixWords 37 = .ok (.aload_n 0, 1) := by decide +kernel
theorem d_Summer_mixWords_38 : decode b_Summer_mixWords 38 = .ok (.getfield 9, 3) := by decide +kernel
theorem d_Summer_mixWords_41 : decode b_Summer_mixWords 41 = .ok (.iconst 5, 1) := by decide +kernel
theorem d_Summer_mixWords_42 : decode b_Summer_mixWords 42 = .ok (.iaload, 1) := by decide +kernel
theorem d_Summer_mixWords_43 : decode b_Summer_mixWords 43 = .ok (.istore 6, 2) := by decide +kernel
theorem d_Summer_mixWords_45 : decode b_Summer_mixWords 45 = .ok (.aload_n 0, 1) := by decide +kernel
theorem d_Summer_mixWords_46 : decode b_Summer_mixWords 46 = .ok (.getfield 9, 3) := by decide +kernel
theorem d_Summer_mixWords_49 : decode b_Summer_mixWords 49 = .ok (.bipush 6, 2) := by decide +kernel
theorem d_Summer_mixWords_51 : decode b_Summer_mixWords 51 = .ok (.iaload, 1) := by decide +kernel
theorem d_Summer_mixWords_52 : decode b_Summer_mixWords 52 = .ok (.istore 7, 2) := by decide +kernel
theorem d_Summer_mixWords_54 : decode b_Summer_mixWords 54 = .ok (.aload_n 0, 1) := by decide +kernel
theorem d_Summer_mixWords_55 : decode b_Summer_mixWords 55 = .ok (.getfield 9, 3) := by decide +kernel
theorem d_Summer_mixWords_58 : decode b_Summer_mixWords 58 = .ok (.bipush 7, 2) := by decide +kernel
theorem d_Summer_mixWords_60 : decode b_Summer_mixWords 60 = .ok (.iaload, 1) := by decide +kernel
theorem d_Summer_mixWords_61 : decode b_Summer_mixWords 61 = .ok (.istore 8, 2) := by decide +kernel
theorem d_Summer_mixWords_63 : decode b_Summer_mixWords 63 = .ok (.iconst 0, 1) := by decide +kernel
theorem d_Summer_mixWords_64 : decode b_Summer_mixWords 64 = .ok (.istore 9, 2) := by decide +kernel
theorem d_Summer_mixWords_66 : decode b_Summer_mixWords 66 = .ok (.iload 9, 2) := by decide +kernel
theorem d_Summer_mixWords_68 : decode b_Summer_mixWords 68 = .ok (.bipush 64, 2) := by decide +kernel
theorem d_Summer_mixWords_70 : decode b_Summer_mixWords 70 = .ok (.if_icmp .ge 98, 3) := by decide +kernel
theorem d_Summer_mixWords_73 : decode b_Summer_mixWords 73 = .ok (.iload 8, 2) := by decide +kernel
theorem d_Summer_mixWords_75 : decode b_Summer_mixWords 75 = .ok (.iload 5, 2) := by decide +kernel
theorem d_Summer_mixWords_77 : decode b_Summer_mixWords 77 = .ok (.invokestatic 65, 3) := by decide +kernel
theorem d_Summer_mixWords_80 : decode b_Summer_mixWords 80 = .ok (.iadd, 1) := by decide +kernel
theorem d_Summer_mixWords_81 : decode b_Summer_mixWords 81 = .ok (.iload 5, 2) := by decide +kernel
theorem d_Summer_mixWords_83 : decode b_Summer_mixWords 83 = .ok (.iload 6, 2) := by decide +kernel
theorem d_Summer_mixWords_85 : decode b_Summer_mixWords 85 = .ok (.iand, 1) := by decide +kernel
theorem d_Summer_mixWords_86 : decode b_Summer_mixWords 86 = .ok (.iload 5, 2) := by decide +kernel
theorem d_Summer_mixWords_88 : decode b_Summer_mixWords 88 = .ok (.iconst (-1), 1) := by decide +kernel
theorem d_Summer_mixWords_89 : decode b_Summer_mixWords 89 = .ok (.ixor, 1) := by decide +kernel
theorem d_Summer_mixWords_90 : decode b_Summer_mixWords 90 = .ok (.iload 7, 2) := by decide +kernel
theorem d_Summer_mixWords_92 : decode b_Summer_mixWords 92 = .ok (.iand, 1) := by decide +kernel
theorem d_Summer_mixWords_93 : decode b_Summer_mixWords 93 = .ok (.ixor, 1) := by decide +kernel
theorem d_Summer_mixWords_94 : decode b_Summer_mixWords 94 = .ok (.iadd, 1) := by decide +kernel
theorem d_Summer_mixWords_95 : decode b_Summer_mixWords 95 = .ok (.getstatic 68, 3) := by decide +kernel
theorem d_Summer_mixWords_98 : decode b_Summer_mixWords 98 = .ok (.iload 9, 2) := by decide +kernel
theorem d_Summer_mixWords_100 : decode b_Summer_mixWords 100 = .ok (.iaload, 1) := by decide +kernel
theorem d_Summer_mixWords_101 : decode b_Summer_mixWords 101 = .ok (.iadd, 1) := by decide +kernel
theorem d_Summer_mixWords_102 : decode b_Summer_mixWords 102 = .ok (.aload_n 0, 1) := by decide +kernel
theorem d_Summer_mixWords_103 : decode b_Summer_mixWords 103 = .ok (.getfield 15, 3) := by decide +kernel
theorem d_Summer_mixWords_106 : decode b_Summer_mixWords 106 = .ok (.iload 9, 2) := by decide +kernel
theorem d_Summer_mixWords_108 : decode b_Summer_mixWords 108 = .ok (.iaload, 1) := by decide +kernel
theorem d_Summer_mixWords_109 : decode b_Summer_mixWords 109 = .ok (.iadd, 1) := by decide +kernel
theorem d_Summer_mixWords_110 : decode b_Summer_mixWords 110 = .ok (.istore 10, 2) := by decide +kernel
theorem d_Summer_mixWords_112 : decode b_Summer_mixWords 112 = .ok (.iload_n 1, 1) := by decide +kernel
theorem d_Summer_mixWords_113 : decode b_Summer_mixWords 113 = .ok (.invokestatic 71, 3) := by decide +kernel
theorem d_Summer_mixWords_116 : decode b_Summer_mixWords 116 = .ok (.iload_n 1, 1) := by decide +kernel
theorem d_Summer_mixWords_117 : decode b_Summer_mixWords 117 = .ok (.iload_n 2, 1) := by decide +kernel
theorem d_Summer_mixWords_118 : decode b_Summer_mixWords 118 = .ok (.iand, 1) := by decide +kernel
theorem d_Summer_mixWords_119 : decode b_Summer_mixWords 119 = .ok (.iload_n 1, 1) := by decide +kernel
theorem d_Summer_mixWords_120 : decode b_Summer_mixWords 120 = .ok (.iload_n 3, 1) := by decide +kernel
theorem d_Summer_mixWords_121 : decode b_Summer_mixWords 121 = .ok (.iand, 1) := by decide +kernel
theorem d_Summer_mixWords_122 : decode b_Summer_mixWords 122 = .ok (.ixor, 1) := by decide +kernel
theorem d_Summer_mixWords_123 : decode b_Summer_mixWords 123 = .ok (.iload_n 2, 1) := by decide +kernel
theorem d_Summer_mixWords_124 : decode b_Summer_mixWords 124 = .ok (.iload_n 3, 1) := by decide +kernel
theorem d_Summer_mixWords_125 : decode b_Summer_mixWords 125 = .ok (.iand, 1) := by decide +kernel
theorem d_Summer_mixWords_126 : decode b_Summer_mixWords 126 = .ok (.ixor, 1) := by decide +kernel
theorem d_Summer_mixWords_127 : decode b_Summer_mixWords 127 = .ok (.iadd, 1) := by decide +kernel
theorem d_Summer_mixWords_128 : decode b_Summer_mixWords 128 = .ok (.istore 11, 2) := by decide +kernel
theorem d_Summer_mixWords_130 : decode b_Summer_mixWords 130 = .ok (.iload 7, 2) := by decide +kernel
theorem d_Summer_mixWords_132 : decode b_Summer_mixWords 132 = .ok (.istore 8, 2) := by decide +kernel
theorem d_Summer_mixWords_134 : decode b_Summer_mixWords 134 = .ok (.iload 6, 2) := by decide +kernel
theorem d_Summer_mixWords_136 : decode b_Summer_mixWords 136 = .ok (.istore 7, 2) := by decide +kernel
theorem d_Summer_mixWords_138 : decode b_Summer_mixWords 138 = .ok (.iload 5, 2) := by decide +kernel
theorem d_Summer_mixWords_140 : decode b_Summer_mixWords 140 = .ok (.istore 6, 2) := by decide +kernel
theorem d_Summer_mixWords_142 : decode b_Summer_mixWords 142 = .ok (.iload 4, 2) := by decide +kernel
theorem d_Summer_mixWords_144 : decode b_Summer_mixWords 144 = .ok (.iload 10, 2) := by decide +kernel
theorem d_Summer_mixWords_146 : decode b_Summer_mixWords 146 = .ok (.iadd, 1) := by decide +kernel
theorem d_Summer_mixWords_147 : decode b_Summer_mixWords 147 = .ok (.istore 5, 2) := by decide +kernel
theorem d_Summer_mixWords_149 : decode b_Summer_mixWords 149 = .ok (.iload_n 3, 1) := by decide +kernel
theorem d_Summer_mixWords_150 : decode b_Summer_mixWords 150 = .ok (.istore 4, 2) := by decide +kernel
theorem d_Summer_mixWords_152 : decode b_Summer_mixWords 152 = .ok (.iload_n 2, 1) := by decide +kernel
theorem d_Summer_mixWords_153 : decode b_Summer_mixWords 153 = .ok (.istore_n 3, 1) := by decide +kernel
theorem d_Summer_mixWords_154 : decode b_Summer_mixWords 154 = .ok (.iload_n 1, 1) := by decide +kernel
theorem d_Summer_mixWords_155 : decode b_Summer_mixWords 155 = .ok (.istore_n 2, 1) := by decide +kernel
theorem d_Summer_mixWords_156 : decode b_Summer_mixWords 156 = .ok (.iload 10, 2) := by decide +kernel
theorem d_Summer_mixWords_158 : decode b_Summer_mixWords 158 = .ok (.iload 11, 2) := by decide +kernel
theorem d_Summer_mixWords_160 : decode b_Summer_mixWords 160 = .ok (.iadd, 1) := by decide +kernel
theorem d_Summer_mixWords_161 : decode b_Summer_mixWords 161 = .ok (.istore_n 1, 1) := by decide +kernel
theorem d_Summer_mixWords_162 : decode b_Summer_mixWords 162 = .ok (.iinc 9 1, 3) := by decide +kernel
theorem d_Summer_mixWords_165 : decode b_Summer_mixWords 165 = .ok (.goto (-99), 3) := by decide +kernel
theorem d_Summer_mixWords_168 : decode b_Summer_mixWords 168 = .ok (.aload_n 0, 1) := by decide +kernel
theorem d_Summer_mixWords_169 : decode b_Summer_mixWords 169 = .ok (.getfield 9, 3) := by decide +kernel
theorem d_Summer_mixWords_172 : decode b_Summer_mixWords 172 = .ok (.iconst 0, 1) := by decide +kernel
theorem d_Summer_mixWords_173 : decode b_Summer_mixWords 173 = .ok (.dup2, 1) := by decide +kernel
theorem d_Summer_mixWords_174 : decode b_Summer_mixWords 174 = .ok (.iaload, 1) := by decide +kernel
theorem d_Summer_mixWords_175 : decode b_Summer_mixWords 175 = .ok (.iload_n 1, 1) := by decide +kernel
theorem d_Summer_mixWords_176 : decode b_Summer_mixWords 176 = .ok (.iadd, 1) := by decide +kernel
theorem d_Summer_mixWords_177 : decode b_Summer_mixWords 177 = .ok (.iastore, 1) := by decide +kernel
theorem d_Summer_mixWords_178 : decode b_Summer_mixWords 178 = .ok (.aload_n 0, 1) := by decide +kernel
theorem d_Summer_mixWords_179 : decode b_Summer_mixWords 179 = .ok (.getfield 9, 3) := by decide +kernel
theorem d_Summer_mixWords_182 : decode b_Summer_mixWords 182 = .ok (.iconst 1, 1) := by decide +kernel
theorem d_Summer_mixWords_183 : decode b_Summer_mixWords 183 = .ok (.dup2, 1) := by decide +kernel
theorem d_Summer_mixWords_184 : decode b_Summer_mixWords 184 = .ok (.iaload, 1) := by decide +kernel
theorem d_Summer_mixWords_185 : decode b_Summer_mixWords 185 = .ok (.iload_n 2, 1) := by decide +kernel
theorem d_Summer_mixWords_186 : decode b_Summer_mixWords 186 = .ok (.iadd, 1) := by decide +kernel
theorem d_Summer_mixWords_187 : decode b_Summer_mixWords 187 = .ok (.iastore, 1) := by decide +kernel
theorem d_Summer_mixWords_188 : decode b_Summer_mixWords 188 = .ok (.aload_n 0, 1) := by decide +kernel
theorem d_Summer_mixWords_189 : decode b_Summer_mixWords 189 = .ok (.getfield 9, 3) := by decide +kernel
theorem d_Summer_mixWords_192 : decode b_Summer_mixWords 192 = .ok (.iconst 2, 1) := by decide +kernel
theorem d_Summer_mixWords_193 : decode b_Summer_mixWords 193 = .ok (.dup2, 1) := by decide +kernel
theorem d_Summer_mixWords_194 : decode b_Summer_mixWords 194 = .ok (.iaload, 1) := by decide +kernel
theorem d_Summer_mixWords_195 : decode b_Summer_mixWords 195 = .ok (.iload_n 3, 1) := by decide +kernel
theorem d_Summer_mixWords_196 : decode b_Summer_mixWords 196 = .ok (.iadd, 1) := by decide +kernel
theorem d_Summer_mixWords_197 : decode b_Summer_mixWords 197 = .ok (.iastore, 1) := by decide +kernel
theorem d_Summer_mixWords_198 : decode b_Summer_mixWords 198 = .ok (.aload_n 0, 1) := by decide +kernel
theorem d_Summer_mixWords_199 : decode b_Summer_mixWords 199 = .ok (.getfield 9, 3) := by decide +kernel
theorem d_Summer_mixWords_202 : decode b_Summer_mixWords 202 = .ok (.iconst 3, 1) := by decide +kernel
theorem d_Summer_mixWords_203 : decode b_Summer_mixWords 203 = .ok (.dup2, 1) := by decide +kernel
theorem d_Summer_mixWords_204 : decode b_Summer_mixWords 204 = .ok (.iaload, 1) := by decide +kernel
theorem d_Summer_mixWords_205 : decode b_Summer_mixWords 205 = .ok (.iload 4, 2) := by decide +kernel
theorem d_Summer_mixWords_207 : decode b_Summer_mixWords 207 = .ok (.iadd, 1) := by decide +kernel
theorem d_Summer_mixWords_208 : decode b_Summer_mixWords 208 = .ok (.iastore, 1) := by decide +kernel
theorem d_Summer_mixWords_209 : decode b_Summer_mixWords 209 = .ok (.aload_n 0, 1) := by decide +kernel
theorem d_Summer_mixWords_210 : decode b_Summer_mixWords 210 = .ok (.getfield 9, 3) := by decide +kernel
theorem d_Summer_mixWords_213 : decode b_Summer_mixWords 213 = .ok (.iconst 4, 1) := by decide +kernel
theorem d_Summer_mixWords_214 : decode b_Summer_mixWords 214 = .ok (.dup2, 1) := by decide +kernel
theorem d_Summer_mixWords_215 : decode b_Summer_mixWords 215 = .ok (.iaload, 1) := by decide +kernel
theorem d_Summer_mixWords_216 : decode b_Summer_mixWords 216 = .ok (.iload 5, 2) := by decide +kernel
theorem d_Summer_mixWords_218 : decode b_Summer_mixWords 218 = .ok (.iadd, 1) := by decide +kernel
theorem d_Summer_mixWords_219 : decode b_Summer_mixWords 219 = .ok (.iastore, 1) := by decide +kernel
theorem d_Summer_mixWords_220 : decode b_Summer_mixWords 220 = .ok (.aload_n 0, 1) := by decide +kernel
theorem d_Summer_mixWords_221 : decode b_Summer_mixWords 221 = .ok (.getfield 9, 3) := by decide +kernel
theorem d_Summer_mixWords_224 : decode b_Summer_mixWords 224 = .ok (.iconst 5, 1) := by decide +kernel
theorem d_Summer_mixWords_225 : decode b_Summer_mixWords 225 = .ok (.dup2, 1) := by decide +kernel
theorem d_Summer_mixWords_226 : decode b_Summer_mixWords 226 = .ok (.iaload, 1) := by decide +kernel
theorem d_Summer_mixWords_227 : decode b_Summer_mixWords 227 = .ok (.iload 6, 2) := by decide +kernel
theorem d_Summer_mixWords_229 : decode b_Summer_mixWords 229 = .ok (.iadd, 1) := by decide +kernel
theorem d_Summer_mixWords_230 : decode b_Summer_mixWords 230 = .ok (.iastore, 1) := by decide +kernel
theorem d_Summer_mixWords_231 : decode b_Summer_mixWords 231 = .ok (.aload_n 0, 1) := by decide +kernel
theorem d_Summer_mixWords_232 : decode b_Summer_mixWords 232 = .ok (.getfield 9, 3) := by decide +kernel
theorem d_Summer_mixWords_235 : decode b_Summer_mixWords 235 = .ok (.bipush 6, 2) := by decide +kernel
theorem d_Summer_mixWords_237 : decode b_Summer_mixWords 237 = .ok (.dup2, 1) := by decide +kernel
theorem d_Summer_mixWords_238 : decode b_Summer_mixWords 238 = .ok (.iaload, 1) := by decide +kernel
theorem d_Summer_mixWords_239 : decode b_Summer_mixWords 239 = .ok (.iload 7, 2) := by decide +kernel
theorem d_Summer_mixWords_241 : decode b_Summer_mixWords 241 = .ok (.iadd, 1) := by decide +kernel
theorem d_Summer_mixWords_242 : decode b_Summer_mixWords 242 = .ok (.iastore, 1) := by decide +kernel
theorem d_Summer_mixWords_243 : decode b_Summer_mixWords 243 = .ok (.aload_n 0, 1) := by decide +kernel
theorem d_Summer_mixWords_244 : decode b_Summer_mixWords 244 = .ok (.getfield 9, 3) := by decide +kernel
theorem d_Summer_mixWords_247 : decode b_Summer_mixWords 247 = .ok (.bipush 7, 2) := by decide +kernel
theorem d_Summer_mixWords_249 : decode b_Summer_mixWords 249 = .ok (.dup2, 1) := by decide +kernel
theorem d_Summer_mixWords_250 : decode b_Summer_mixWords 250 = .ok (.iaload, 1) := by decide +kernel
theorem d_Summer_mixWords_251 : decode b_Summer_mixWords 251 = .ok (.iload 8, 2) := by decide +kernel
theorem d_Summer_mixWords_253 : decode b_Summer_mixWords 253 = .ok (.iadd, 1) := by decide +kernel
theorem d_Summer_mixWords_254 : decode b_Summer_mixWords 254 = .ok (.iastore, 1) := by decide +kernel
theorem d_Summer_mixWords_255 : decode b_Summer_mixWords 255 = .ok (.return_, 1) := by decide +kernel
theorem d_Summer_smallZero_0 : decode b_Summer_smallZero 0 = .ok (.iload_n 0, 1) := by decide +kernel
theorem d_Summer_smallZero_1 : decode b_Summer_smallZero 1 = .ok (.bipush 7, 2) := by decide +kernel
theorem d_Summer_smallZero_3 : decode b_Summer_smallZero 3 = .ok (.invokestatic 74, 3) := by decide +kernel
theorem d_Summer_smallZero_6 : decode b_Summer_smallZero 6 = .ok (.iload_n 0, 1) := by decide +kernel
theorem d_Summer_smallZero_7 : decode b_Summer_smallZero 7 = .ok (.bipush 18, 2) := by decide +kernel
theorem d_Summer_smallZero_9 : decode b_Summer_smallZero 9 = .ok (.invokestatic 74, 3) := by decide +kernel
theorem d_Summer_smallZero_12 : decode b_Summer_smallZero 12 = .ok (.ixor, 1) := by decide +kernel
theorem d_Summer_smallZero_13 : decode b_Summer_smallZero 13 = .ok (.iload_n 0, 1) := by decide +kernel
theorem d_Summer_smallZero_14 : decode b_Summer_smallZero 14 = .ok (.iconst 3, 1) := by decide +kernel
theorem d_Summer_smallZero_15 : decode b_Summer_smallZero 15 = .ok (.iushr, 1) := by decide +kernel
theorem d_Summer_smallZero_16 : decode b_Summer_smallZero 16 = .ok (.ixor, 1) := by decide +kernel
theorem d_Summer_smallZero_17 : decode b_Summer_smallZero 17 = .ok (.ireturn, 1) := by decide +kernel
theorem d_Summer_smallOne_0 : decode b_Summer_smallOne 0 = .ok (.iload_n 0, 1) := by decide +kernel
theorem d_Summer_smallOne_1 : decode b_Summer_smallOne 1 = .ok (.bipush 17, 2) := by decide +kernel
theorem d_Summer_smallOne_3 : decode b_Summer_smallOne 3 = .ok (.invokestatic 74, 3) := by decide +kernel
theorem d_Summer_smallOne_6 : decode b_Summer_smallOne 6 = .ok (.iload_n 0, 1) := by decide +kernel
theorem d_Summer_smallOne_7 : decode b_Summer_smallOne 7 = .ok (.bipush 19, 2) := by decide +kernel
theorem d_Summer_smallOne_9 : decode b_Summer_smallOne 9 = .ok (.invokestatic 74, 3) := by decide +kernel
theorem d_Summer_smallOne_12 : decode b_Summer_smallOne 12 = .ok (.ixor, 1) := by decide +kernel
theorem d_Summer_smallOne_13 : decode b_Summer_smallOne 13 = .ok (.iload_n 0, 1) := by decide +kernel
theorem d_Summer_smallOne_14 : decode b_Summer_smallOne 14 = .ok (.bipush 10, 2) := by decide +kernel
theorem d_Summer_smallOne_16 : decode b_Summer_smallOne 16 = .ok (.iushr, 1) := by decide +kernel
theorem d_Summer_smallOne_17 : decode b_Summer_smallOne 17 = .ok (.ixor, 1) := by decide +kernel
theorem d_Summer_smallOne_18 : decode b_Summer_smallOne 18 = .ok (.ireturn, 1) := by decide +kernel
theorem d_Summer_bigZero_0 : decode b_Summer_bigZero 0 = .ok (.iload_n 0, 1) := by decide +kernel
theorem d_Summer_bigZero_1 : decode b_Summer_bigZero 1 = .ok (.iconst 2, 1) := by decide +kernel
theorem d_Summer_bigZero_2 : decode b_Summer_bigZero 2 = .ok (.invokestatic 74, 3) := by decide +kernel
theorem d_Summer_bigZero_5 : decode b_Summer_bigZero 5 = .ok (.iload_n 0, 1) := by decide +kernel
theorem d_Summer_bigZero_6 : decode b_Summer_bigZero 6 = .ok (.bipush 13, 2) := by decide +kernel
theorem d_Summer_bigZero_8 : decode b_Summer_bigZero 8 = .ok (.invokestatic 74, 3) := by decide +kernel
theorem d_Summer_bigZero_11 : decode b_Summer_bigZero 11 = .ok (.ixor, 1) := by decide +kernel
theorem d_Summer_bigZero_12 : decode b_Summer_bigZero 12 = .ok (.iload_n 0, 1) := by decide +kernel
theorem d_Summer_bigZero_13 : decode b_Summer_bigZero 13 = .ok (.bipush 22, 2) := by decide +kernel
theorem d_Summer_bigZero_15 : decode b_Summer_bigZero 15 = .ok (.invokestatic 74, 3) := by decide +kernel
theorem d_Summer_bigZero_18 : decode b_Summer_bigZero 18 = .ok (.ixor, 1) := by decide +kernel
theorem d_Summer_bigZero_19 : decode b_Summer_bigZero 19 = .ok (.ireturn, 1) := by decide +kernel
theorem d_Summer_bigOne_0 : decode b_Summer_bigOne 0 = .ok (.iload_n 0, 1) := by decide +kernel
theorem d_Summer_bigOne_1 : decode b_Summer_bigOne 1 = .ok (.bipush 6, 2) := by decide +kernel
theorem d_Summer_bigOne_3 : decode b_Summer_bigOne 3 = .ok (.invokestatic 74, 3) := by decide +kernel
theorem d_Summer_bigOne_6 : decode b_Summer_bigOne 6 = .ok (.iload_n 0, 1) := by decide +kernel
theorem d_Summer_bigOne_7 : decode b_Summer_bigOne 7 = .ok (.bipush 11, 2) := by decide +kernel
theorem d_Summer_bigOne_9 : decode b_Summer_bigOne 9 = .ok (.invokestatic 74, 3) := by decide +kernel
theorem d_Summer_bigOne_12 : decode b_Summer_bigOne 12 = .ok (.ixor, 1) := by decide +kernel
theorem d_Summer_bigOne_13 : decode b_Summer_bigOne 13 = .ok (.iload_n 0, 1) := by decide +kernel
theorem d_Summer_bigOne_14 : decode b_Summer_bigOne 14 = .ok (.bipush 25, 2) := by decide +kernel
theorem d_Summer_bigOne_16 : decode b_Summer_bigOne 16 = .ok (.invokestatic 74, 3) := by decide +kernel
theorem d_Summer_bigOne_19 : decode b_Summer_bigOne 19 = .ok (.ixor, 1) := by decide +kernel
theorem d_Summer_bigOne_20 : decode b_Summer_bigOne 20 = .ok (.ireturn, 1) := by decide +kernel

theorem d_Model_takes_0 : decode b_Model_takes 0 = .ok (.aload_n 0, 1) := by decide +kernel
theorem d_Model_takes_1 : decode b_Model_takes 1 = .ok (.getfield 86, 3) := by decide +kernel
theorem d_Model_takes_4 : decode b_Model_takes 4 = .ok (.ifCond .ne 19, 3) := by decide +kernel
theorem d_Model_takes_7 : decode b_Model_takes 7 = .ok (.aload_n 0, 1) := by decide +kernel
theorem d_Model_takes_8 : decode b_Model_takes 8 = .ok (.getfield 76, 3) := by decide +kernel
theorem d_Model_takes_11 : decode b_Model_takes 11 = .ok (.iload_n 1, 1) := by decide +kernel
theorem d_Model_takes_12 : decode b_Model_takes 12 = .ok (.iadd, 1) := by decide +kernel
theorem d_Model_takes_13 : decode b_Model_takes 13 = .ok (.sipush 150, 3) := by decide +kernel
theorem d_Model_takes_16 : decode b_Model_takes 16 = .ok (.if_icmp .gt 7, 3) := by decide +kernel
theorem d_Model_takes_19 : decode b_Model_takes 19 = .ok (.iconst 1, 1) := by decide +kernel
theorem d_Model_takes_20 : decode b_Model_takes 20 = .ok (.goto 4, 3) := by decide +kernel
theorem d_Model_takes_23 : decode b_Model_takes 23 = .ok (.iconst 0, 1) := by decide +kernel
theorem d_Model_takes_24 : decode b_Model_takes 24 = .ok (.ireturn, 1) := by decide +kernel
theorem d_Model_password_0 : decode b_Model_password 0 = .ok (.iload_n 1, 1) := by decide +kernel
theorem d_Model_password_1 : decode b_Model_password 1 = .ok (.ifCond .lt 18, 3) := by decide +kernel
theorem d_Model_password_4 : decode b_Model_password 4 = .ok (.iload_n 1, 1) := by decide +kernel
theorem d_Model_password_5 : decode b_Model_password 5 = .ok (.sipush 255, 3) := by decide +kernel
theorem d_Model_password_8 : decode b_Model_password 8 = .ok (.if_icmp .gt 11, 3) := by decide +kernel
theorem d_Model_password_11 : decode b_Model_password 11 = .ok (.aload_n 0, 1) := by decide +kernel
theorem d_Model_password_12 : decode b_Model_password 12 = .ok (.iconst 1, 1) := by decide +kernel
theorem d_Model_password_13 : decode b_Model_password 13 = .ok (.invokevirtual 90, 3) := by decide +kernel
theorem d_Model_password_16 : decode b_Model_password 16 = .ok (.ifCond .ne 5, 3) := by decide +kernel
theorem d_Model_password_19 : decode b_Model_password 19 = .ok (.iconst 0, 1) := by decide +kernel
theorem d_Model_password_20 : decode b_Model_password 20 = .ok (.ireturn, 1) := by decide +kernel
theorem d_Model_password_21 : decode b_Model_password 21 = .ok (.aload_n 0, 1) := by decide +kernel
theorem d_Model_password_22 : decode b_Model_password 22 = .ok (.getfield 16, 3) := by decide +kernel
theorem d_Model_password_25 : decode b_Model_password 25 = .ok (.aload_n 0, 1) := by decide +kernel
theorem d_Model_password_26 : decode b_Model_password 26 = .ok (.getfield 76, 3) := by decide +kernel
theorem d_Model_password_29 : decode b_Model_password 29 = .ok (.iload_n 1, 1) := by decide +kernel
theorem d_Model_password_30 : decode b_Model_password 30 = .ok (.i2b, 1) := by decide +kernel
theorem d_Model_password_31 : decode b_Model_password 31 = .ok (.bastore, 1) := by decide +kernel
theorem d_Model_password_32 : decode b_Model_password 32 = .ok (.aload_n 0, 1) := by decide +kernel
theorem d_Model_password_33 : decode b_Model_password 33 = .ok (.dup, 1) := by decide +kernel
theorem d_Model_password_34 : decode b_Model_password 34 = .ok (.getfield 76, 3) := by decide +kernel
theorem d_Model_password_37 : decode b_Model_password 37 = .ok (.iconst 1, 1) := by decide +kernel
theorem d_Model_password_38 : decode b_Model_password 38 = .ok (.iadd, 1) := by decide +kernel
theorem d_Model_password_39 : decode b_Model_password 39 = .ok (.putfield 76, 3) := by decide +kernel
theorem d_Model_password_42 : decode b_Model_password 42 = .ok (.iconst 1, 1) := by decide +kernel
theorem d_Model_password_43 : decode b_Model_password 43 = .ok (.ireturn, 1) := by decide +kernel
theorem d_Model_four_0 : decode b_Model_four 0 = .ok (.aload_n 0, 1) := by decide +kernel
theorem d_Model_four_1 : decode b_Model_four 1 = .ok (.iconst 4, 1) := by decide +kernel
theorem d_Model_four_2 : decode b_Model_four 2 = .ok (.invokevirtual 90, 3) := by decide +kernel
theorem d_Model_four_5 : decode b_Model_four 5 = .ok (.ifCond .ne 5, 3) := by decide +kernel
theorem d_Model_four_8 : decode b_Model_four 8 = .ok (.iconst 0, 1) := by decide +kernel
theorem d_Model_four_9 : decode b_Model_four 9 = .ok (.ireturn, 1) := by decide +kernel
theorem d_Model_four_10 : decode b_Model_four 10 = .ok (.iconst 3, 1) := by decide +kernel
theorem d_Model_four_11 : decode b_Model_four 11 = .ok (.istore_n 2, 1) := by decide +kernel
theorem d_Model_four_12 : decode b_Model_four 12 = .ok (.iload_n 2, 1) := by decide +kernel
theorem d_Model_four_13 : decode b_Model_four 13 = .ok (.ifCond .lt 35, 3) := by decide +kernel
theorem d_Model_four_16 : decode b_Model_four 16 = .ok (.aload_n 0, 1) := by decide +kernel
theorem d_Model_four_17 : decode b_Model_four 17 = .ok (.getfield 16, 3) := by decide +kernel
theorem d_Model_four_20 : decode b_Model_four 20 = .ok (.aload_n 0, 1) := by decide +kernel
theorem d_Model_four_21 : decode b_Model_four 21 = .ok (.getfield 76, 3) := by decide +kernel
theorem d_Model_four_24 : decode b_Model_four 24 = .ok (.iload_n 1, 1) := by decide +kernel
theorem d_Model_four_25 : decode b_Model_four 25 = .ok (.bipush 8, 2) := by decide +kernel
theorem d_Model_four_27 : decode b_Model_four 27 = .ok (.iload_n 2, 1) := by decide +kernel
theorem d_Model_four_28 : decode b_Model_four 28 = .ok (.imul, 1) := by decide +kernel
theorem d_Model_four_29 : decode b_Model_four 29 = .ok (.ishr, 1) := by decide +kernel
theorem d_Model_four_30 : decode b_Model_four 30 = .ok (.i2b, 1) := by decide +kernel
theorem d_Model_four_31 : decode b_Model_four 31 = .ok (.bastore, 1) := by decide +kernel
theorem d_Model_four_32 : decode b_Model_four 32 = .ok (.aload_n 0, 1) := by decide +kernel
theorem d_Model_four_33 : decode b_Model_four 33 = .ok (.dup, 1) := by decide +kernel
theorem d_Model_four_34 : decode b_Model_four 34 = .ok (.getfield 76, 3) := by decide +kernel
theorem d_Model_four_37 : decode b_Model_four 37 = .ok (.iconst 1, 1) := by decide +kernel
theorem d_Model_four_38 : decode b_Model_four 38 = .ok (.iadd, 1) := by decide +kernel
theorem d_Model_four_39 : decode b_Model_four 39 = .ok (.putfield 76, 3) := by decide +kernel
theorem d_Model_four_42 : decode b_Model_four 42 = .ok (.iinc 2 (-1), 3) := by decide +kernel
theorem d_Model_four_45 : decode b_Model_four 45 = .ok (.goto (-33), 3) := by decide +kernel
theorem d_Model_four_48 : decode b_Model_four 48 = .ok (.iconst 1, 1) := by decide +kernel
theorem d_Model_four_49 : decode b_Model_four 49 = .ok (.ireturn, 1) := by decide +kernel
theorem d_Model_salt_0 : decode b_Model_salt 0 = .ok (.iload_n 1, 1) := by decide +kernel
theorem d_Model_salt_1 : decode b_Model_salt 1 = .ok (.ifCond .lt 26, 3) := by decide +kernel
theorem d_Model_salt_4 : decode b_Model_salt 4 = .ok (.iload_n 1, 1) := by decide +kernel
theorem d_Model_salt_5 : decode b_Model_salt 5 = .ok (.sipush 255, 3) := by decide +kernel
theorem d_Model_salt_8 : decode b_Model_salt 8 = .ok (.if_icmp .gt 19, 3) := by decide +kernel
theorem d_Model_salt_11 : decode b_Model_salt 11 = .ok (.aload_n 0, 1) := by decide +kernel
theorem d_Model_salt_12 : decode b_Model_salt 12 = .ok (.getfield 86, 3) := by decide +kernel
theorem d_Model_salt_15 : decode b_Model_salt 15 = .ok (.ifCond .ne 12, 3) := by decide +kernel
theorem d_Model_salt_18 : decode b_Model_salt 18 = .ok (.aload_n 0, 1) := by decide +kernel
theorem d_Model_salt_19 : decode b_Model_salt 19 = .ok (.getfield 94, 3) := by decide +kernel
theorem d_Model_salt_22 : decode b_Model_salt 22 = .ok (.bipush 80, 2) := by decide +kernel
theorem d_Model_salt_24 : decode b_Model_salt 24 = .ok (.if_icmp .ne 5, 3) := by decide +kernel
theorem d_Model_salt_27 : decode b_Model_salt 27 = .ok (.iconst 0, 1) := by decide +kernel
theorem d_Model_salt_28 : decode b_Model_salt 28 = .ok (.ireturn, 1) := by decide +kernel
theorem d_Model_salt_29 : decode b_Model_salt 29 = .ok (.aload_n 0, 1) := by decide +kernel
theorem d_Model_salt_30 : decode b_Model_salt 30 = .ok (.getfield 20, 3) := by decide +kernel
theorem d_Model_salt_33 : decode b_Model_salt 33 = .ok (.aload_n 0, 1) := by decide +kernel
theorem d_Model_salt_34 : decode b_Model_salt 34 = .ok (.getfield 94, 3) := by decide +kernel
theorem d_Model_salt_37 : decode b_Model_salt 37 = .ok (.iload_n 1, 1) := by decide +kernel
theorem d_Model_salt_38 : decode b_Model_salt 38 = .ok (.i2b, 1) := by decide +kernel
theorem d_Model_salt_39 : decode b_Model_salt 39 = .ok (.bastore, 1) := by decide +kernel
theorem d_Model_salt_40 : decode b_Model_salt 40 = .ok (.aload_n 0, 1) := by decide +kernel
theorem d_Model_salt_41 : decode b_Model_salt 41 = .ok (.dup, 1) := by decide +kernel
theorem d_Model_salt_42 : decode b_Model_salt 42 = .ok (.getfield 94, 3) := by decide +kernel
theorem d_Model_salt_45 : decode b_Model_salt 45 = .ok (.iconst 1, 1) := by decide +kernel
theorem d_Model_salt_46 : decode b_Model_salt 46 = .ok (.iadd, 1) := by decide +kernel
theorem d_Model_salt_47 : decode b_Model_salt 47 = .ok (.putfield 94, 3) := by decide +kernel
theorem d_Model_salt_50 : decode b_Model_salt 50 = .ok (.iconst 1, 1) := by decide +kernel
theorem d_Model_salt_51 : decode b_Model_salt 51 = .ok (.ireturn, 1) := by decide +kernel
theorem d_Model_partCount_0 : decode b_Model_partCount 0 = .ok (.aload_n 0, 1) := by decide +kernel
theorem d_Model_partCount_1 : decode b_Model_partCount 1 = .ok (.getfield 97, 3) := by decide +kernel
theorem d_Model_partCount_4 : decode b_Model_partCount 4 = .ok (.bipush 32, 2) := by decide +kernel
theorem d_Model_partCount_6 : decode b_Model_partCount 6 = .ok (.iadd, 1) := by decide +kernel
theorem d_Model_partCount_7 : decode b_Model_partCount 7 = .ok (.iconst 1, 1) := by decide +kernel
theorem d_Model_partCount_8 : decode b_Model_partCount 8 = .ok (.isub, 1) := by decide +kernel
theorem d_Model_partCount_9 : decode b_Model_partCount 9 = .ok (.bipush 32, 2) := by decide +kernel
theorem d_Model_partCount_11 : decode b_Model_partCount 11 = .ok (.idiv, 1) := by decide +kernel
theorem d_Model_partCount_12 : decode b_Model_partCount 12 = .ok (.ireturn, 1) := by decide +kernel
theorem d_Model_start_0 : decode b_Model_start 0 = .ok (.aload_n 0, 1) := by decide +kernel
theorem d_Model_start_1 : decode b_Model_start 1 = .ok (.getfield 86, 3) := by decide +kernel
theorem d_Model_start_4 : decode b_Model_start 4 = .ok (.ifCond .ne 26, 3) := by decide +kernel
theorem d_Model_start_7 : decode b_Model_start 7 = .ok (.iload_n 1, 1) := by decide +kernel
theorem d_Model_start_8 : decode b_Model_start 8 = .ok (.iconst 1, 1) := by decide +kernel
theorem d_Model_start_9 : decode b_Model_start 9 = .ok (.if_icmp .lt 21, 3) := by decide +kernel
theorem d_Model_start_12 : decode b_Model_start 12 = .ok (.iload_n 1, 1) := by decide +kernel
theorem d_Model_start_13 : decode b_Model_start 13 = .ok (.sipush 1000, 3) := by decide +kernel
theorem d_Model_start_16 : decode b_Model_start 16 = .ok (.if_icmp .gt 14, 3) := by decide +kernel
theorem d_Model_start_19 : decode b_Model_start 19 = .ok (.iload_n 2, 1) := by decide +kernel
theorem d_Model_start_20 : decode b_Model_start 20 = .ok (.iconst 1, 1) := by decide +kernel
theorem d_Model_start_21 : decode b_Model_start 21 = .ok (.if_icmp .lt 9, 3) := by decide +kernel
theorem d_Model_start_24 : decode b_Model_start 24 = .ok (.iload_n 2, 1) := by decide +kernel
theorem d_Model_start_25 : decode b_Model_start 25 = .ok (.bipush 100, 2) := by decide +kernel
theorem d_Model_start_27 : decode b_Model_start 27 = .ok (.if_icmp .le 5, 3) := by decide +kernel
theorem d_Model_start_30 : decode b_Model_start 30 = .ok (.iconst (-1), 1) := by decide +kernel
theorem d_Model_start_31 : decode b_Model_start 31 = .ok (.ireturn, 1) := by decide +kernel
theorem d_Model_start_32 : decode b_Model_start 32 = .ok (.aload_n 0, 1) := by decide +kernel
theorem d_Model_start_33 : decode b_Model_start 33 = .ok (.iconst 1, 1) := by decide +kernel
theorem d_Model_start_34 : decode b_Model_start 34 = .ok (.putfield 86, 3) := by decide +kernel
theorem d_Model_start_37 : decode b_Model_start 37 = .ok (.aload_n 0, 1) := by decide +kernel
theorem d_Model_start_38 : decode b_Model_start 38 = .ok (.iload_n 1, 1) := by decide +kernel
theorem d_Model_start_39 : decode b_Model_start 39 = .ok (.putfield 100, 3) := by decide +kernel
theorem d_Model_start_42 : decode b_Model_start 42 = .ok (.aload_n 0, 1) := by decide +kernel
theorem d_Model_start_43 : decode b_Model_start 43 = .ok (.iload_n 2, 1) := by decide +kernel
theorem d_Model_start_44 : decode b_Model_start 44 = .ok (.putfield 97, 3) := by decide +kernel
theorem d_Model_start_47 : decode b_Model_start 47 = .ok (.aload_n 0, 1) := by decide +kernel
theorem d_Model_start_48 : decode b_Model_start 48 = .ok (.iconst 0, 1) := by decide +kernel
theorem d_Model_start_49 : decode b_Model_start 49 = .ok (.putfield 103, 3) := by decide +kernel
theorem d_Model_start_52 : decode b_Model_start 52 = .ok (.iconst 0, 1) := by decide +kernel
theorem d_Model_start_53 : decode b_Model_start 53 = .ok (.istore_n 3, 1) := by decide +kernel
theorem d_Model_start_54 : decode b_Model_start 54 = .ok (.iload_n 3, 1) := by decide +kernel
theorem d_Model_start_55 : decode b_Model_start 55 = .ok (.sipush 128, 3) := by decide +kernel
theorem d_Model_start_58 : decode b_Model_start 58 = .ok (.if_icmp .ge 16, 3) := by decide +kernel
theorem d_Model_start_61 : decode b_Model_start 61 = .ok (.aload_n 0, 1) := by decide +kernel
theorem d_Model_start_62 : decode b_Model_start 62 = .ok (.getfield 26, 3) := by decide +kernel
theorem d_Model_start_65 : decode b_Model_start 65 = .ok (.iload_n 3, 1) := by decide +kernel
theorem d_Model_start_66 : decode b_Model_start 66 = .ok (.iconst 0, 1) := by decide +kernel
theorem d_Model_start_67 : decode b_Model_start 67 = .ok (.bastore, 1) := by decide +kernel
theorem d_Model_start_68 : decode b_Model_start 68 = .ok (.iinc 3 1, 3) := by decide +kernel
theorem d_Model_start_71 : decode b_Model_start 71 = .ok (.goto (-17), 3) := by decide +kernel
theorem d_Model_start_74 : decode b_Model_start 74 = .ok (.aload_n 0, 1) := by decide +kernel
theorem d_Model_start_75 : decode b_Model_start 75 = .ok (.invokevirtual 106, 3) := by decide +kernel
theorem d_Model_start_78 : decode b_Model_start 78 = .ok (.aload_n 0, 1) := by decide +kernel
theorem d_Model_start_79 : decode b_Model_start 79 = .ok (.getfield 100, 3) := by decide +kernel
theorem d_Model_start_82 : decode b_Model_start 82 = .ok (.imul, 1) := by decide +kernel
theorem d_Model_start_83 : decode b_Model_start 83 = .ok (.ireturn, 1) := by decide +kernel
theorem d_Model_left_0 : decode b_Model_left 0 = .ok (.aload_n 0, 1) := by decide +kernel
theorem d_Model_left_1 : decode b_Model_left 1 = .ok (.getfield 86, 3) := by decide +kernel
theorem d_Model_left_4 : decode b_Model_left 4 = .ok (.ifCond .eq 20, 3) := by decide +kernel
theorem d_Model_left_7 : decode b_Model_left 7 = .ok (.aload_n 0, 1) := by decide +kernel
theorem d_Model_left_8 : decode b_Model_left 8 = .ok (.invokevirtual 106, 3) := by decide +kernel
theorem d_Model_left_11 : decode b_Model_left 11 = .ok (.aload_n 0, 1) := by decide +kernel
theorem d_Model_left_12 : decode b_Model_left 12 = .ok (.getfield 100, 3) := by decide +kernel
theorem d_Model_left_15 : decode b_Model_left 15 = .ok (.imul, 1) := by decide +kernel
theorem d_Model_left_16 : decode b_Model_left 16 = .ok (.aload_n 0, 1) := by decide +kernel
theorem d_Model_left_17 : decode b_Model_left 17 = .ok (.getfield 103, 3) := by decide +kernel
theorem d_Model_left_20 : decode b_Model_left 20 = .ok (.isub, 1) := by decide +kernel
theorem d_Model_left_21 : decode b_Model_left 21 = .ok (.goto 4, 3) := by decide +kernel
theorem d_Model_left_24 : decode b_Model_left 24 = .ok (.iconst (-1), 1) := by decide +kernel
theorem d_Model_left_25 : decode b_Model_left 25 = .ok (.ireturn, 1) := by decide +kernel
theorem d_Model_step_0 : decode b_Model_step 0 = .ok (.aload_n 0, 1) := by decide +kernel
theorem d_Model_step_1 : decode b_Model_step 1 = .ok (.getfield 86, 3) := by decide +kernel
theorem d_Model_step_4 : decode b_Model_step 4 = .ok (.ifCond .eq 10, 3) := by decide +kernel
theorem d_Model_step_7 : decode b_Model_step 7 = .ok (.aload_n 0, 1) := by decide +kernel
theorem d_Model_step_8 : decode b_Model_step 8 = .ok (.invokevirtual 110, 3) := by decide +kernel
theorem d_Model_step_11 : decode b_Model_step 11 = .ok (.ifCond .ne 5, 3) := by decide +kernel
theorem d_Model_step_14 : decode b_Model_step 14 = .ok (.iconst (-1), 1) := by decide +kernel
theorem d_Model_step_15 : decode b_Model_step 15 = .ok (.ireturn, 1) := by decide +kernel
theorem d_Model_step_16 : decode b_Model_step 16 = .ok (.aload_n 0, 1) := by decide +kernel
theorem d_Model_step_17 : decode b_Model_step 17 = .ok (.getfield 103, 3) := by decide +kernel
theorem d_Model_step_20 : decode b_Model_step 20 = .ok (.aload_n 0, 1) := by decide +kernel
theorem d_Model_step_21 : decode b_Model_step 21 = .ok (.getfield 100, 3) := by decide +kernel
theorem d_Model_step_24 : decode b_Model_step 24 = .ok (.idiv, 1) := by decide +kernel
theorem d_Model_step_25 : decode b_Model_step 25 = .ok (.istore_n 1, 1) := by decide +kernel
theorem d_Model_step_26 : decode b_Model_step 26 = .ok (.aload_n 0, 1) := by decide +kernel
theorem d_Model_step_27 : decode b_Model_step 27 = .ok (.getfield 103, 3) := by decide +kernel
theorem d_Model_step_30 : decode b_Model_step 30 = .ok (.aload_n 0, 1) := by decide +kernel
theorem d_Model_step_31 : decode b_Model_step 31 = .ok (.getfield 100, 3) := by decide +kernel
theorem d_Model_step_34 : decode b_Model_step 34 = .ok (.irem, 1) := by decide +kernel
theorem d_Model_step_35 : decode b_Model_step 35 = .ok (.ifCond .ne 56, 3) := by decide +kernel
theorem d_Model_step_38 : decode b_Model_step 38 = .ok (.iconst 0, 1) := by decide +kernel
theorem d_Model_step_39 : decode b_Model_step 39 = .ok (.istore_n 2, 1) := by decide +kernel
theorem d_Model_step_40 : decode b_Model_step 40 = .ok (.iload_n 2, 1) := by decide +kernel
theorem d_Model_step_41 : decode b_Model_step 41 = .ok (.iconst 4, 1) := by decide +kernel
theorem d_Model_step_42 : decode b_Model_step 42 = .ok (.if_icmp .ge 32, 3) := by decide +kernel
theorem d_Model_step_45 : decode b_Model_step 45 = .ok (.aload_n 0, 1) := by decide +kernel
theorem d_Model_step_46 : decode b_Model_step 46 = .ok (.getfield 20, 3) := by decide +kernel
theorem d_Model_step_49 : decode b_Model_step 49 = .ok (.aload_n 0, 1) := by decide +kernel
theorem d_Model_step_50 : decode b_Model_step 50 = .ok (.getfield 94, 3) := by decide +kernel
theorem d_Model_step_53 : decode b_Model_step 53 = .ok (.iload_n 2, 1) := by decide +kernel
theorem d_Model_step_54 : decode b_Model_step 54 = .ok (.iadd, 1) := by decide +kernel
theorem d_Model_step_55 : decode b_Model_step 55 = .ok (.iload_n 1, 1) := by decide +kernel
theorem d_Model_step_56 : decode b_Model_step 56 = .ok (.iconst 1, 1) := by decide +kernel
theorem d_Model_step_57 : decode b_Model_step 57 = .ok (.iadd, 1) := by decide +kernel
theorem d_Model_step_58 : decode b_Model_step 58 = .ok (.bipush 24, 2) := by decide +kernel
theorem d_Model_step_60 : decode b_Model_step 60 = .ok (.bipush 8, 2) := by decide +kernel
theorem d_Model_step_62 : decode b_Model_step 62 = .ok (.iload_n 2, 1) := by decide +kernel
theorem d_Model_step_63 : decode b_Model_step 63 = .ok (.imul, 1) := by decide +kernel
theorem d_Model_step_64 : decode b_Model_step 64 = .ok (.isub, 1) := by decide +kernel
theorem d_Model_step_65 : decode b_Model_step 65 = .ok (.ishr, 1) := by decide +kernel
theorem d_Model_step_66 : decode b_Model_step 66 = .ok (.i2b, 1) := by decide +kernel
theorem d_Model_step_67 : decode b_Model_step 67 = .ok (.bastore, 1) := by decide +kernel
theorem d_Model_step_68 : decode b_Model_step 68 = .ok (.iinc 2 1, 3) := by decide +kernel
theorem d_Model_step_71 : decode b_Model_step 71 = .ok (.goto (-31), 3) := by decide +kernel
theorem d_Model_step_74 : decode b_Model_step 74 = .ok (.aload_n 0, 1) := by decide +kernel
theorem d_Model_step_75 : decode b_Model_step 75 = .ok (.aload_n 0, 1) := by decide +kernel
theorem d_Model_step_76 : decode b_Model_step 76 = .ok (.getfield 20, 3) := by decide +kernel
theorem d_Model_step_79 : decode b_Model_step 79 = .ok (.aload_n 0, 1) := by decide +kernel
theorem d_Model_step_80 : decode b_Model_step 80 = .ok (.getfield 94, 3) := by decide +kernel
theorem d_Model_step_83 : decode b_Model_step 83 = .ok (.iconst 4, 1) := by decide +kernel
theorem d_Model_step_84 : decode b_Model_step 84 = .ok (.iadd, 1) := by decide +kernel
theorem d_Model_step_85 : decode b_Model_step 85 = .ok (.invokevirtual 113, 3) := by decide +kernel
theorem d_Model_step_88 : decode b_Model_step 88 = .ok (.goto 13, 3) := by decide +kernel
theorem d_Model_step_91 : decode b_Model_step 91 = .ok (.aload_n 0, 1) := by decide +kernel
theorem d_Model_step_92 : decode b_Model_step 92 = .ok (.aload_n 0, 1) := by decide +kernel
theorem d_Model_step_93 : decode b_Model_step 93 = .ok (.getfield 23, 3) := by decide +kernel
theorem d_Model_step_96 : decode b_Model_step 96 = .ok (.bipush 32, 2) := by decide +kernel
theorem d_Model_step_98 : decode b_Model_step 98 = .ok (.invokevirtual 113, 3) := by decide +kernel
theorem d_Model_step_101 : decode b_Model_step 101 = .ok (.iconst 0, 1) := by decide +kernel
theorem d_Model_step_102 : decode b_Model_step 102 = .ok (.istore_n 2, 1) := by decide +kernel
theorem d_Model_step_103 : decode b_Model_step 103 = .ok (.iload_n 2, 1) := by decide +kernel
theorem d_Model_step_104 : decode b_Model_step 104 = .ok (.bipush 32, 2) := by decide +kernel
theorem d_Model_step_106 : decode b_Model_step 106 = .ok (.if_icmp .ge 51, 3) := by decide +kernel
theorem d_Model_step_109 : decode b_Model_step 109 = .ok (.aload_n 0, 1) := by decide +kernel
theorem d_Model_step_110 : decode b_Model_step 110 = .ok (.getfield 23, 3) := by decide +kernel
theorem d_Model_step_113 : decode b_Model_step 113 = .ok (.iload_n 2, 1) := by decide +kernel
theorem d_Model_step_114 : decode b_Model_step 114 = .ok (.aload_n 0, 1) := by decide +kernel
theorem d_Model_step_115 : decode b_Model_step 115 = .ok (.getfield 32, 3) := by decide +kernel
theorem d_Model_step_118 : decode b_Model_step 118 = .ok (.iload_n 2, 1) := by decide +kernel
theorem d_Model_step_119 : decode b_Model_step 119 = .ok (.baload, 1) := by decide +kernel
theorem d_Model_step_120 : decode b_Model_step 120 = .ok (.bastore, 1) := by decide +kernel
theorem d_Model_step_121 : decode b_Model_step 121 = .ok (.aload_n 0, 1) := by decide +kernel
theorem d_Model_step_122 : decode b_Model_step 122 = .ok (.getfield 26, 3) := by decide +kernel
theorem d_Model_step_125 : decode b_Model_step 125 = .ok (.bipush 32, 2) := by decide +kernel
theorem d_Model_step_127 : decode b_Model_step 127 = .ok (.iload_n 1, 1) := by decide +kernel
theorem d_Model_step_128 : decode b_Model_step 128 = .ok (.imul, 1) := by decide +kernel
theorem d_Model_step_129 : decode b_Model_step 129 = .ok (.iload_n 2, 1) := by decide +kernel
theorem d_Model_step_130 : decode b_Model_step 130 = .ok (.iadd, 1) := by decide +kernel
theorem d_Model_step_131 : decode b_Model_step 131 = .ok (.aload_n 0, 1) := by decide +kernel
theorem d_Model_step_132 : decode b_Model_step 132 = .ok (.getfield 26, 3) := by decide +kernel
theorem d_Model_step_135 : decode b_Model_step 135 = .ok (.bipush 32, 2) := by decide +kernel
theorem d_Model_step_137 : decode b_Model_step 137 = .ok (.iload_n 1, 1) := by decide +kernel
theorem d_Model_step_138 : decode b_Model_step 138 = .ok (.imul, 1) := by decide +kernel
theorem d_Model_step_139 : decode b_Model_step 139 = .ok (.iload_n 2, 1) := by decide +kernel
theorem d_Model_step_140 : decode b_Model_step 140 = .ok (.iadd, 1) := by decide +kernel
theorem d_Model_step_141 : decode b_Model_step 141 = .ok (.baload, 1) := by decide +kernel
theorem d_Model_step_142 : decode b_Model_step 142 = .ok (.aload_n 0, 1) := by decide +kernel
theorem d_Model_step_143 : decode b_Model_step 143 = .ok (.getfield 32, 3) := by decide +kernel
theorem d_Model_step_146 : decode b_Model_step 146 = .ok (.iload_n 2, 1) := by decide +kernel
theorem d_Model_step_147 : decode b_Model_step 147 = .ok (.baload, 1) := by decide +kernel
theorem d_Model_step_148 : decode b_Model_step 148 = .ok (.ixor, 1) := by decide +kernel
theorem d_Model_step_149 : decode b_Model_step 149 = .ok (.i2b, 1) := by decide +kernel
theorem d_Model_step_150 : decode b_Model_step 150 = .ok (.bastore, 1) := by decide +kernel
theorem d_Model_step_151 : decode b_Model_step 151 = .ok (.iinc 2 1, 3) := by decide +kernel
theorem d_Model_step_154 : decode b_Model_step 154 = .ok (.goto (-51), 3) := by decide +kernel
theorem d_Model_step_157 : decode b_Model_step 157 = .ok (.aload_n 0, 1) := by decide +kernel
theorem d_Model_step_158 : decode b_Model_step 158 = .ok (.dup, 1) := by decide +kernel
theorem d_Model_step_159 : decode b_Model_step 159 = .ok (.getfield 103, 3) := by decide +kernel
theorem d_Model_step_162 : decode b_Model_step 162 = .ok (.iconst 1, 1) := by decide +kernel
theorem d_Model_step_163 : decode b_Model_step 163 = .ok (.iadd, 1) := by decide +kernel
theorem d_Model_step_164 : decode b_Model_step 164 = .ok (.putfield 103, 3) := by decide +kernel
theorem d_Model_step_167 : decode b_Model_step 167 = .ok (.aload_n 0, 1) := by decide +kernel
theorem d_Model_step_168 : decode b_Model_step 168 = .ok (.invokevirtual 110, 3) := by decide +kernel
theorem d_Model_step_171 : decode b_Model_step 171 = .ok (.ireturn, 1) := by decide +kernel
theorem d_Model_run_0 : decode b_Model_run 0 = .ok (.aload_n 0, 1) := by decide +kernel
theorem d_Model_run_1 : decode b_Model_run 1 = .ok (.getfield 86, 3) := by decide +kernel
theorem d_Model_run_4 : decode b_Model_run 4 = .ok (.ifCond .eq 7, 3) := by decide +kernel
theorem d_Model_run_7 : decode b_Model_run 7 = .ok (.iload_n 1, 1) := by decide +kernel
theorem d_Model_run_8 : decode b_Model_run 8 = .ok (.ifCond .ge 5, 3) := by decide +kernel
theorem d_Model_run_11 : decode b_Model_run 11 = .ok (.iconst (-1), 1) := by decide +kernel
theorem d_Model_run_12 : decode b_Model_run 12 = .ok (.ireturn, 1) := by decide +kernel
theorem d_Model_run_13 : decode b_Model_run 13 = .ok (.iconst 0, 1) := by decide +kernel
theorem d_Model_run_14 : decode b_Model_run 14 = .ok (.istore_n 2, 1) := by decide +kernel
theorem d_Model_run_15 : decode b_Model_run 15 = .ok (.iload_n 2, 1) := by decide +kernel
theorem d_Model_run_16 : decode b_Model_run 16 = .ok (.iload_n 1, 1) := by decide +kernel
theorem d_Model_run_17 : decode b_Model_run 17 = .ok (.if_icmp .ge 16, 3) := by decide +kernel
theorem d_Model_run_20 : decode b_Model_run 20 = .ok (.aload_n 0, 1) := by decide +kernel
theorem d_Model_run_21 : decode b_Model_run 21 = .ok (.invokevirtual 116, 3) := by decide +kernel
theorem d_Model_run_24 : decode b_Model_run 24 = .ok (.ifCond .lt 9, 3) := by decide +kernel
theorem d_Model_run_27 : decode b_Model_run 27 = .ok (.iinc 2 1, 3) := by decide +kernel
theorem d_Model_run_30 : decode b_Model_run 30 = .ok (.goto (-15), 3) := by decide +kernel
theorem d_Model_run_33 : decode b_Model_run 33 = .ok (.iload_n 2, 1) := by decide +kernel
theorem d_Model_run_34 : decode b_Model_run 34 = .ok (.ireturn, 1) := by decide +kernel
theorem d_Model_key_0 : decode b_Model_key 0 = .ok (.aload_n 0, 1) := by decide +kernel
theorem d_Model_key_1 : decode b_Model_key 1 = .ok (.getfield 86, 3) := by decide +kernel
theorem d_Model_key_4 : decode b_Model_key 4 = .ok (.ifCond .eq 37, 3) := by decide +kernel
theorem d_Model_key_7 : decode b_Model_key 7 = .ok (.iload_n 1, 1) := by decide +kernel
theorem d_Model_key_8 : decode b_Model_key 8 = .ok (.ifCond .lt 33, 3) := by decide +kernel
theorem d_Model_key_11 : decode b_Model_key 11 = .ok (.iload_n 1, 1) := by decide +kernel
theorem d_Model_key_12 : decode b_Model_key 12 = .ok (.aload_n 0, 1) := by decide +kernel
theorem d_Model_key_13 : decode b_Model_key 13 = .ok (.getfield 97, 3) := by decide +kernel
theorem d_Model_key_16 : decode b_Model_key 16 = .ok (.if_icmp .ge 25, 3) := by decide +kernel
theorem d_Model_key_19 : decode b_Model_key 19 = .ok (.aload_n 0, 1) := by decide +kernel
theorem d_Model_key_20 : decode b_Model_key 20 = .ok (.getfield 103, 3) := by decide +kernel
theorem d_Model_key_23 : decode b_Model_key 23 = .ok (.iload_n 1, 1) := by decide +kernel
theorem d_Model_key_24 : decode b_Model_key 24 = .ok (.bipush 32, 2) := by decide +kernel
theorem d_Model_key_26 : decode b_Model_key 26 = .ok (.idiv, 1) := by decide +kernel
theorem d_Model_key_27 : decode b_Model_key 27 = .ok (.iconst 1, 1) := by decide +kernel
theorem d_Model_key_28 : decode b_Model_key 28 = .ok (.iadd, 1) := by decide +kernel
theorem d_Model_key_29 : decode b_Model_key 29 = .ok (.aload_n 0, 1) := by decide +kernel
theorem d_Model_key_30 : decode b_Model_key 30 = .ok (.getfield 100, 3) := by decide +kernel
theorem d_Model_key_33 : decode b_Model_key 33 = .ok (.imul, 1) := by decide +kernel
theorem d_Model_key_34 : decode b_Model_key 34 = .ok (.if_icmp .lt 7, 3) := by decide +kernel
theorem d_Model_key_37 : decode b_Model_key 37 = .ok (.iconst 1, 1) := by decide +kernel
theorem d_Model_key_38 : decode b_Model_key 38 = .ok (.goto 4, 3) := by decide +kernel
theorem d_Model_key_41 : decode b_Model_key 41 = .ok (.iconst 0, 1) := by decide +kernel
theorem d_Model_key_42 : decode b_Model_key 42 = .ok (.istore_n 2, 1) := by decide +kernel
theorem d_Model_key_43 : decode b_Model_key 43 = .ok (.iload_n 2, 1) := by decide +kernel
theorem d_Model_key_44 : decode b_Model_key 44 = .ok (.ifCond .eq 16, 3) := by decide +kernel
theorem d_Model_key_47 : decode b_Model_key 47 = .ok (.aload_n 0, 1) := by decide +kernel
theorem d_Model_key_48 : decode b_Model_key 48 = .ok (.getfield 26, 3) := by decide +kernel
theorem d_Model_key_51 : decode b_Model_key 51 = .ok (.iload_n 1, 1) := by decide +kernel
theorem d_Model_key_52 : decode b_Model_key 52 = .ok (.baload, 1) := by decide +kernel
theorem d_Model_key_53 : decode b_Model_key 53 = .ok (.sipush 255, 3) := by decide +kernel
theorem d_Model_key_56 : decode b_Model_key 56 = .ok (.iand, 1) := by decide +kernel
theorem d_Model_key_57 : decode b_Model_key 57 = .ok (.goto 4, 3) := by decide +kernel
theorem d_Model_key_60 : decode b_Model_key 60 = .ok (.iconst (-1), 1) := by decide +kernel
theorem d_Model_key_61 : decode b_Model_key 61 = .ok (.ireturn, 1) := by decide +kernel
theorem d_Model_reset_0 : decode b_Model_reset 0 = .ok (.aload_n 0, 1) := by decide +kernel
theorem d_Model_reset_1 : decode b_Model_reset 1 = .ok (.iconst 0, 1) := by decide +kernel
theorem d_Model_reset_2 : decode b_Model_reset 2 = .ok (.putfield 76, 3) := by decide +kernel
theorem d_Model_reset_5 : decode b_Model_reset 5 = .ok (.aload_n 0, 1) := by decide +kernel
theorem d_Model_reset_6 : decode b_Model_reset 6 = .ok (.iconst 0, 1) := by decide +kernel
theorem d_Model_reset_7 : decode b_Model_reset 7 = .ok (.putfield 94, 3) := by decide +kernel
theorem d_Model_reset_10 : decode b_Model_reset 10 = .ok (.aload_n 0, 1) := by decide +kernel
theorem d_Model_reset_11 : decode b_Model_reset 11 = .ok (.iconst 0, 1) := by decide +kernel
theorem d_Model_reset_12 : decode b_Model_reset 12 = .ok (.putfield 86, 3) := by decide +kernel
theorem d_Model_reset_15 : decode b_Model_reset 15 = .ok (.return_, 1) := by decide +kernel
theorem d_Model_many_0 : decode b_Model_many 0 = .ok (.iload_n 1, 1) := by decide +kernel
theorem d_Model_many_1 : decode b_Model_many 1 = .ok (.ifCond .ne 10, 3) := by decide +kernel
theorem d_Model_many_4 : decode b_Model_many 4 = .ok (.aload_n 0, 1) := by decide +kernel
theorem d_Model_many_5 : decode b_Model_many 5 = .ok (.getfield 76, 3) := by decide +kernel
theorem d_Model_many_8 : decode b_Model_many 8 = .ok (.goto 39, 3) := by decide +kernel
theorem d_Model_many_11 : decode b_Model_many 11 = .ok (.iload_n 1, 1) := by decide +kernel
theorem d_Model_many_12 : decode b_Model_many 12 = .ok (.iconst 1, 1) := by decide +kernel
theorem d_Model_many_13 : decode b_Model_many 13 = .ok (.if_icmp .ne 10, 3) := by decide +kernel
theorem d_Model_many_16 : decode b_Model_many 16 = .ok (.aload_n 0, 1) := by decide +kernel
theorem d_Model_many_17 : decode b_Model_many 17 = .ok (.getfield 94, 3) := by decide +kernel
theorem d_Model_many_20 : decode b_Model_many 20 = .ok (.goto 27, 3) := by decide +kernel
theorem d_Model_many_23 : decode b_Model_many 23 = .ok (.iload_n 1, 1) := by decide +kernel
theorem d_Model_many_24 : decode b_Model_many 24 = .ok (.iconst 2, 1) := by decide +kernel
theorem d_Model_many_25 : decode b_Model_many 25 = .ok (.if_icmp .ne 21, 3) := by decide +kernel
theorem d_Model_many_28 : decode b_Model_many 28 = .ok (.aload_n 0, 1) := by decide +kernel
theorem d_Model_many_29 : decode b_Model_many 29 = .ok (.getfield 86, 3) := by decide +kernel
theorem d_Model_many_32 : decode b_Model_many 32 = .ok (.ifCond .eq 10, 3) := by decide +kernel
theorem d_Model_many_35 : decode b_Model_many 35 = .ok (.aload_n 0, 1) := by decide +kernel
theorem d_Model_many_36 : decode b_Model_many 36 = .ok (.getfield 97, 3) := by decide +kernel
theorem d_Model_many_39 : decode b_Model_many 39 = .ok (.goto 8, 3) := by decide +kernel
theorem d_Model_many_42 : decode b_Model_many 42 = .ok (.iconst 0, 1) := by decide +kernel
theorem d_Model_many_43 : decode b_Model_many 43 = .ok (.goto 4, 3) := by decide +kernel
theorem d_Model_many_46 : decode b_Model_many 46 = .ok (.iconst (-1), 1) := by decide +kernel
theorem d_Model_many_47 : decode b_Model_many 47 = .ok (.ireturn, 1) := by decide +kernel
theorem d_Model_sum_0 : decode b_Model_sum 0 = .ok (.iload_n 1, 1) := by decide +kernel
theorem d_Model_sum_1 : decode b_Model_sum 1 = .ok (.ifCond .lt 9, 3) := by decide +kernel
theorem d_Model_sum_4 : decode b_Model_sum 4 = .ok (.iload_n 1, 1) := by decide +kernel
theorem d_Model_sum_5 : decode b_Model_sum 5 = .ok (.bipush 32, 2) := by decide +kernel
theorem d_Model_sum_7 : decode b_Model_sum 7 = .ok (.if_icmp .lt 5, 3) := by decide +kernel
theorem d_Model_sum_10 : decode b_Model_sum 10 = .ok (.iconst (-1), 1) := by decide +kernel
theorem d_Model_sum_11 : decode b_Model_sum 11 = .ok (.ireturn, 1) := by decide +kernel
theorem d_Model_sum_12 : decode b_Model_sum 12 = .ok (.aload_n 0, 1) := by decide +kernel
theorem d_Model_sum_13 : decode b_Model_sum 13 = .ok (.aload_n 0, 1) := by decide +kernel
theorem d_Model_sum_14 : decode b_Model_sum 14 = .ok (.getfield 16, 3) := by decide +kernel
theorem d_Model_sum_17 : decode b_Model_sum 17 = .ok (.aload_n 0, 1) := by decide +kernel
theorem d_Model_sum_18 : decode b_Model_sum 18 = .ok (.getfield 76, 3) := by decide +kernel
theorem d_Model_sum_21 : decode b_Model_sum 21 = .ok (.invokevirtual 79, 3) := by decide +kernel
theorem d_Model_sum_24 : decode b_Model_sum 24 = .ok (.aload_n 0, 1) := by decide +kernel
theorem d_Model_sum_25 : decode b_Model_sum 25 = .ok (.getfield 32, 3) := by decide +kernel
theorem d_Model_sum_28 : decode b_Model_sum 28 = .ok (.iload_n 1, 1) := by decide +kernel
theorem d_Model_sum_29 : decode b_Model_sum 29 = .ok (.baload, 1) := by decide +kernel
theorem d_Model_sum_30 : decode b_Model_sum 30 = .ok (.sipush 255, 3) := by decide +kernel
theorem d_Model_sum_33 : decode b_Model_sum 33 = .ok (.iand, 1) := by decide +kernel
theorem d_Model_sum_34 : decode b_Model_sum 34 = .ok (.ireturn, 1) := by decide +kernel
theorem d_Model_mark_0 : decode b_Model_mark 0 = .ok (.iload_n 1, 1) := by decide +kernel
theorem d_Model_mark_1 : decode b_Model_mark 1 = .ok (.ifCond .lt 9, 3) := by decide +kernel
theorem d_Model_mark_4 : decode b_Model_mark 4 = .ok (.iload_n 1, 1) := by decide +kernel
theorem d_Model_mark_5 : decode b_Model_mark 5 = .ok (.bipush 32, 2) := by decide +kernel
theorem d_Model_mark_7 : decode b_Model_mark 7 = .ok (.if_icmp .lt 5, 3) := by decide +kernel
theorem d_Model_mark_10 : decode b_Model_mark 10 = .ok (.iconst (-1), 1) := by decide +kernel
theorem d_Model_mark_11 : decode b_Model_mark 11 = .ok (.ireturn, 1) := by decide +kernel
theorem d_Model_mark_12 : decode b_Model_mark 12 = .ok (.aload_n 0, 1) := by decide +kernel
theorem d_Model_mark_13 : decode b_Model_mark 13 = .ok (.aload_n 0, 1) := by decide +kernel
theorem d_Model_mark_14 : decode b_Model_mark 14 = .ok (.getfield 20, 3) := by decide +kernel
theorem d_Model_mark_17 : decode b_Model_mark 17 = .ok (.aload_n 0, 1) := by decide +kernel
theorem d_Model_mark_18 : decode b_Model_mark 18 = .ok (.getfield 94, 3) := by decide +kernel
theorem d_Model_mark_21 : decode b_Model_mark 21 = .ok (.invokevirtual 113, 3) := by decide +kernel
theorem d_Model_mark_24 : decode b_Model_mark 24 = .ok (.aload_n 0, 1) := by decide +kernel
theorem d_Model_mark_25 : decode b_Model_mark 25 = .ok (.getfield 32, 3) := by decide +kernel
theorem d_Model_mark_28 : decode b_Model_mark 28 = .ok (.iload_n 1, 1) := by decide +kernel
theorem d_Model_mark_29 : decode b_Model_mark 29 = .ok (.baload, 1) := by decide +kernel
theorem d_Model_mark_30 : decode b_Model_mark 30 = .ok (.sipush 255, 3) := by decide +kernel
theorem d_Model_mark_33 : decode b_Model_mark 33 = .ok (.iand, 1) := by decide +kernel
theorem d_Model_mark_34 : decode b_Model_mark 34 = .ok (.ireturn, 1) := by decide +kernel

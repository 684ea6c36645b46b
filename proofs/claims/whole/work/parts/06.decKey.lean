theorem d_KeyMaker_init_0 : decode b_KeyMaker_init 0 = .ok (.aload_n 0, 1) := by decide +kernel
theorem d_KeyMaker_init_1 : decode b_KeyMaker_init 1 = .ok (.invokespecial 1, 3) := by decide +kernel
theorem d_KeyMaker_init_4 : decode b_KeyMaker_init 4 = .ok (.aload_n 0, 1) := by decide +kernel
theorem d_KeyMaker_init_5 : decode b_KeyMaker_init 5 = .ok (.sipush 150, 3) := by decide +kernel
theorem d_KeyMaker_init_8 : decode b_KeyMaker_init 8 = .ok (.newarray .int, 2) := by decide +kernel
theorem d_KeyMaker_init_10 : decode b_KeyMaker_init 10 = .ok (.putfield 9, 3) := by decide +kernel
theorem d_KeyMaker_init_13 : decode b_KeyMaker_init 13 = .ok (.aload_n 0, 1) := by decide +kernel
theorem d_KeyMaker_init_14 : decode b_KeyMaker_init 14 = .ok (.bipush 84, 2) := by decide +kernel
theorem d_KeyMaker_init_16 : decode b_KeyMaker_init 16 = .ok (.newarray .int, 2) := by decide +kernel
theorem d_KeyMaker_init_18 : decode b_KeyMaker_init 18 = .ok (.putfield 13, 3) := by decide +kernel
theorem d_KeyMaker_init_21 : decode b_KeyMaker_init 21 = .ok (.aload_n 0, 1) := by decide +kernel
theorem d_KeyMaker_init_22 : decode b_KeyMaker_init 22 = .ok (.sipush 128, 3) := by decide +kernel
theorem d_KeyMaker_init_25 : decode b_KeyMaker_init 25 = .ok (.newarray .int, 2) := by decide +kernel
theorem d_KeyMaker_init_27 : decode b_KeyMaker_init 27 = .ok (.putfield 16, 3) := by decide +kernel
theorem d_KeyMaker_init_30 : decode b_KeyMaker_init 30 = .ok (.aload_n 0, 1) := by decide +kernel
theorem d_KeyMaker_init_31 : decode b_KeyMaker_init 31 = .ok (.bipush 32, 2) := by decide +kernel
theorem d_KeyMaker_init_33 : decode b_KeyMaker_init 33 = .ok (.newarray .int, 2) := by decide +kernel
theorem d_KeyMaker_init_35 : decode b_KeyMaker_init 35 = .ok (.putfield 19, 3) := by decide +kernel
theorem d_KeyMaker_init_38 : decode b_KeyMaker_init 38 = .ok (.aload_n 0, 1) := by decide +kernel
theorem d_KeyMaker_init_39 : decode b_KeyMaker_init 39 = .ok (.bipush 32, 2) := by decide +kernel
theorem d_KeyMaker_init_41 : decode b_KeyMaker_init 41 = .ok (.newarray .int, 2) := by decide +kernel
theorem d_KeyMaker_init_43 : decode b_KeyMaker_init 43 = .ok (.putfield 22, 3) := by decide +kernel
theorem d_KeyMaker_init_46 : decode b_KeyMaker_init 46 = .ok (.aload_n 0, 1) := by decide +kernel
theorem d_KeyMaker_init_47 : decode b_KeyMaker_init 47 = .ok (.new 25, 3) := by decide +kernel
theorem d_KeyMaker_init_50 : decode b_KeyMaker_init 50 = .ok (.dup, 1) := by decide +kernel
theorem d_KeyMaker_init_51 : decode b_KeyMaker_init 51 = .ok (.invokespecial 27, 3) := by decide +kernel
theorem d_KeyMaker_init_54 : decode b_KeyMaker_init 54 = .ok (.putfield 28, 3) := by decide +kernel
theorem d_KeyMaker_init_57 : decode b_KeyMaker_init 57 = .ok (.aload_n 0, 1) := by decide +kernel
theorem d_KeyMaker_init_58 : decode b_KeyMaker_init 58 = .ok (.new 32, 3) := by decide +kernel
theorem d_KeyMaker_init_61 : decode b_KeyMaker_init 61 = .ok (.dup, 1) := by decide +kernel
theorem d_KeyMaker_init_62 : decode b_KeyMaker_init 62 = .ok (.invokespecial 34, 3) := by decide +kernel
theorem d_KeyMaker_init_65 : decode b_KeyMaker_init 65 = .ok (.putfield 35, 3) := by decide +kernel
theorem d_KeyMaker_init_68 : decode b_KeyMaker_init 68 = .ok (.aload_n 0, 1) := by decide +kernel
theorem d_KeyMaker_init_69 : decode b_KeyMaker_init 69 = .ok (.invokevirtual 39, 3) := by decide +kernel
theorem d_KeyMaker_init_72 : decode b_KeyMaker_init 72 = .ok (.return_, 1) := by decide +kernel
theorem d_KeyMaker_password_0 : decode b_KeyMaker_password 0 = .ok (.iload_n 1, 1) := by decide +kernel
theorem d_KeyMaker_password_1 : decode b_KeyMaker_password 1 = .ok (.invokestatic 42, 3) := by decide +kernel
theorem d_KeyMaker_password_4 : decode b_KeyMaker_password 4 = .ok (.ifCond .eq 20, 3) := by decide +kernel
theorem d_KeyMaker_password_7 : decode b_KeyMaker_password 7 = .ok (.aload_n 0, 1) := by decide +kernel
theorem d_KeyMaker_password_8 : decode b_KeyMaker_password 8 = .ok (.invokevirtual 46, 3) := by decide +kernel
theorem d_KeyMaker_password_11 : decode b_KeyMaker_password 11 = .ok (.ifCond .ne 13, 3) := by decide +kernel
theorem d_KeyMaker_password_14 : decode b_KeyMaker_password 14 = .ok (.aload_n 0, 1) := by decide +kernel
theorem d_KeyMaker_password_15 : decode b_KeyMaker_password 15 = .ok (.getfield 50, 3) := by decide +kernel
theorem d_KeyMaker_password_18 : decode b_KeyMaker_password 18 = .ok (.sipush 150, 3) := by decide +kernel
theorem d_KeyMaker_password_21 : decode b_KeyMaker_password 21 = .ok (.if_icmp .lt 5, 3) := by decide +kernel
theorem d_KeyMaker_password_24 : decode b_KeyMaker_password 24 = .ok (.iconst 0, 1) := by decide +kernel
theorem d_KeyMaker_password_25 : decode b_KeyMaker_password 25 = .ok (.ireturn, 1) := by decide +kernel
theorem d_KeyMaker_password_26 : decode b_KeyMaker_password 26 = .ok (.aload_n 0, 1) := by decide +kernel
theorem d_KeyMaker_password_27 : decode b_KeyMaker_password 27 = .ok (.getfield 9, 3) := by decide +kernel
theorem d_KeyMaker_password_30 : decode b_KeyMaker_password 30 = .ok (.aload_n 0, 1) := by decide +kernel
theorem d_KeyMaker_password_31 : decode b_KeyMaker_password 31 = .ok (.getfield 50, 3) := by decide +kernel
theorem d_KeyMaker_password_34 : decode b_KeyMaker_password 34 = .ok (.iload_n 1, 1) := by decide +kernel
theorem d_KeyMaker_password_35 : decode b_KeyMaker_password 35 = .ok (.iastore, 1) := by decide +kernel
theorem d_KeyMaker_password_36 : decode b_KeyMaker_password 36 = .ok (.aload_n 0, 1) := by decide +kernel
theorem d_KeyMaker_password_37 : decode b_KeyMaker_password 37 = .ok (.dup, 1) := by decide +kernel
theorem d_KeyMaker_password_38 : decode b_KeyMaker_password 38 = .ok (.getfield 50, 3) := by decide +kernel
theorem d_KeyMaker_password_41 : decode b_KeyMaker_password 41 = .ok (.iconst 1, 1) := by decide +kernel
theorem d_KeyMaker_password_42 : decode b_KeyMaker_password 42 = .ok (.iadd, 1) := by decide +kernel
theorem d_KeyMaker_password_43 : decode b_KeyMaker_password 43 = .ok (.putfield 50, 3) := by decide +kernel
theorem d_KeyMaker_password_46 : decode b_KeyMaker_password 46 = .ok (.iconst 1, 1) := by decide +kernel
theorem d_KeyMaker_password_47 : decode b_KeyMaker_password 47 = .ok (.ireturn, 1) := by decide +kernel
theorem d_KeyMaker_four_0 : decode b_KeyMaker_four 0 = .ok (.aload_n 0, 1) := by decide +kernel
theorem d_KeyMaker_four_1 : decode b_KeyMaker_four 1 = .ok (.invokevirtual 46, 3) := by decide +kernel
theorem d_KeyMaker_four_4 : decode b_KeyMaker_four 4 = .ok (.ifCond .ne 15, 3) := by decide +kernel
theorem d_KeyMaker_four_7 : decode b_KeyMaker_four 7 = .ok (.aload_n 0, 1) := by decide +kernel
theorem d_KeyMaker_four_8 : decode b_KeyMaker_four 8 = .ok (.getfield 50, 3) := by decide +kernel
theorem d_KeyMaker_four_11 : decode b_KeyMaker_four 11 = .ok (.iconst 4, 1) := by decide +kernel
theorem d_KeyMaker_four_12 : decode b_KeyMaker_four 12 = .ok (.iadd, 1) := by decide +kernel
theorem d_KeyMaker_four_13 : decode b_KeyMaker_four 13 = .ok (.sipush 150, 3) := by decide +kernel
theorem d_KeyMaker_four_16 : decode b_KeyMaker_four 16 = .ok (.if_icmp .le 5, 3) := by decide +kernel
theorem d_KeyMaker_four_19 : decode b_KeyMaker_four 19 = .ok (.iconst 0, 1) := by decide +kernel
theorem d_KeyMaker_four_20 : decode b_KeyMaker_four 20 = .ok (.ireturn, 1) := by decide +kernel
theorem d_KeyMaker_four_21 : decode b_KeyMaker_four 21 = .ok (.iload_n 1, 1) := by decide +kernel
theorem d_KeyMaker_four_22 : decode b_KeyMaker_four 22 = .ok (.aload_n 0, 1) := by decide +kernel
theorem d_KeyMaker_four_23 : decode b_KeyMaker_four 23 = .ok (.getfield 9, 3) := by decide +kernel
theorem d_KeyMaker_four_26 : decode b_KeyMaker_four 26 = .ok (.aload_n 0, 1) := by decide +kernel
theorem d_KeyMaker_four_27 : decode b_KeyMaker_four 27 = .ok (.getfield 50, 3) := by decide +kernel
theorem d_KeyMaker_four_30 : decode b_KeyMaker_four 30 = .ok (.invokestatic 54, 3) := by decide +kernel
theorem d_KeyMaker_four_33 : decode b_KeyMaker_four 33 = .ok (.aload_n 0, 1) := by decide +kernel
theorem d_KeyMaker_four_34 : decode b_KeyMaker_four 34 = .ok (.dup, 1) := by decide +kernel
theorem d_KeyMaker_four_35 : decode b_KeyMaker_four 35 = .ok (.getfield 50, 3) := by decide +kernel
theorem d_KeyMaker_four_38 : decode b_KeyMaker_four 38 = .ok (.iconst 4, 1) := by decide +kernel
theorem d_KeyMaker_four_39 : decode b_KeyMaker_four 39 = .ok (.iadd, 1) := by decide +kernel
theorem d_KeyMaker_four_40 : decode b_KeyMaker_four 40 = .ok (.putfield 50, 3) := by decide +kernel
theorem d_KeyMaker_four_43 : decode b_KeyMaker_four 43 = .ok (.iconst 1, 1) := by decide +kernel
theorem d_KeyMaker_four_44 : decode b_KeyMaker_four 44 = .ok (.ireturn, 1) := by decide +kernel
theorem d_KeyMaker_salt_0 : decode b_KeyMaker_salt 0 = .ok (.iload_n 1, 1) := by decide +kernel
theorem d_KeyMaker_salt_1 : decode b_KeyMaker_salt 1 = .ok (.invokestatic 42, 3) := by decide +kernel
theorem d_KeyMaker_salt_4 : decode b_KeyMaker_salt 4 = .ok (.ifCond .eq 19, 3) := by decide +kernel
theorem d_KeyMaker_salt_7 : decode b_KeyMaker_salt 7 = .ok (.aload_n 0, 1) := by decide +kernel
theorem d_KeyMaker_salt_8 : decode b_KeyMaker_salt 8 = .ok (.invokevirtual 46, 3) := by decide +kernel
theorem d_KeyMaker_salt_11 : decode b_KeyMaker_salt 11 = .ok (.ifCond .ne 12, 3) := by decide +kernel
theorem d_KeyMaker_salt_14 : decode b_KeyMaker_salt 14 = .ok (.aload_n 0, 1) := by decide +kernel
theorem d_KeyMaker_salt_15 : decode b_KeyMaker_salt 15 = .ok (.getfield 58, 3) := by decide +kernel
theorem d_KeyMaker_salt_18 : decode b_KeyMaker_salt 18 = .ok (.bipush 80, 2) := by decide +kernel
theorem d_KeyMaker_salt_20 : decode b_KeyMaker_salt 20 = .ok (.if_icmp .lt 5, 3) := by decide +kernel
theorem d_KeyMaker_salt_23 : decode b_KeyMaker_salt 23 = .ok (.iconst 0, 1) := by decide +kernel
theorem d_KeyMaker_salt_24 : decode b_KeyMaker_salt 24 = .ok (.ireturn, 1) := by decide +kernel
theorem d_KeyMaker_salt_25 : decode b_KeyMaker_salt 25 = .ok (.aload_n 0, 1) := by decide +kernel
theorem d_KeyMaker_salt_26 : decode b_KeyMaker_salt 26 = .ok (.getfield 13, 3) := by decide +kernel
theorem d_KeyMaker_salt_29 : decode b_KeyMaker_salt 29 = .ok (.aload_n 0, 1) := by decide +kernel
theorem d_KeyMaker_salt_30 : decode b_KeyMaker_salt 30 = .ok (.getfield 58, 3) := by decide +kernel
theorem d_KeyMaker_salt_33 : decode b_KeyMaker_salt 33 = .ok (.iload_n 1, 1) := by decide +kernel
theorem d_KeyMaker_salt_34 : decode b_KeyMaker_salt 34 = .ok (.iastore, 1) := by decide +kernel
theorem d_KeyMaker_salt_35 : decode b_KeyMaker_salt 35 = .ok (.aload_n 0, 1) := by decide +kernel
theorem d_KeyMaker_salt_36 : decode b_KeyMaker_salt 36 = .ok (.dup, 1) := by decide +kernel
theorem d_KeyMaker_salt_37 : decode b_KeyMaker_salt 37 = .ok (.getfield 58, 3) := by decide +kernel
theorem d_KeyMaker_salt_40 : decode b_KeyMaker_salt 40 = .ok (.iconst 1, 1) := by decide +kernel
theorem d_KeyMaker_salt_41 : decode b_KeyMaker_salt 41 = .ok (.iadd, 1) := by decide +kernel
theorem d_KeyMaker_salt_42 : decode b_KeyMaker_salt 42 = .ok (.putfield 58, 3) := by decide +kernel
theorem d_KeyMaker_salt_45 : decode b_KeyMaker_salt 45 = .ok (.iconst 1, 1) := by decide +kernel
theorem d_KeyMaker_salt_46 : decode b_KeyMaker_salt 46 = .ok (.ireturn, 1) := by decide +kernel
theorem d_KeyMaker_start_0 : decode b_KeyMaker_start 0 = .ok (.aload_n 0, 1) := by decide +kernel
theorem d_KeyMaker_start_1 : decode b_KeyMaker_start 1 = .ok (.invokevirtual 46, 3) := by decide +kernel
theorem d_KeyMaker_start_4 : decode b_KeyMaker_start 4 = .ok (.ifCond .ne 26, 3) := by decide +kernel
theorem d_KeyMaker_start_7 : decode b_KeyMaker_start 7 = .ok (.iload_n 1, 1) := by decide +kernel
theorem d_KeyMaker_start_8 : decode b_KeyMaker_start 8 = .ok (.iconst 1, 1) := by decide +kernel
theorem d_KeyMaker_start_9 : decode b_KeyMaker_start 9 = .ok (.if_icmp .lt 21, 3) := by decide +kernel
theorem d_KeyMaker_start_12 : decode b_KeyMaker_start 12 = .ok (.iload_n 1, 1) := by decide +kernel
theorem d_KeyMaker_start_13 : decode b_KeyMaker_start 13 = .ok (.sipush 1000, 3) := by decide +kernel
theorem d_KeyMaker_start_16 : decode b_KeyMaker_start 16 = .ok (.if_icmp .gt 14, 3) := by decide +kernel
theorem d_KeyMaker_start_19 : decode b_KeyMaker_start 19 = .ok (.iload_n 2, 1) := by decide +kernel
theorem d_KeyMaker_start_20 : decode b_KeyMaker_start 20 = .ok (.iconst 1, 1) := by decide +kernel
theorem d_KeyMaker_start_21 : decode b_KeyMaker_start 21 = .ok (.if_icmp .lt 9, 3) := by decide +kernel
theorem d_KeyMaker_start_24 : decode b_KeyMaker_start 24 = .ok (.iload_n 2, 1) := by decide +kernel
theorem d_KeyMaker_start_25 : decode b_KeyMaker_start 25 = .ok (.bipush 100, 2) := by decide +kernel
theorem d_KeyMaker_start_27 : decode b_KeyMaker_start 27 = .ok (.if_icmp .le 5, 3) := by decide +kernel
theorem d_KeyMaker_start_30 : decode b_KeyMaker_start 30 = .ok (.iconst (-1), 1) := by decide +kernel
theorem d_KeyMaker_start_31 : decode b_KeyMaker_start 31 = .ok (.ireturn, 1) := by decide +kernel
theorem d_KeyMaker_start_32 : decode b_KeyMaker_start 32 = .ok (.aload_n 0, 1) := by decide +kernel
theorem d_KeyMaker_start_33 : decode b_KeyMaker_start 33 = .ok (.iload_n 2, 1) := by decide +kernel
theorem d_KeyMaker_start_34 : decode b_KeyMaker_start 34 = .ok (.putfield 61, 3) := by decide +kernel
theorem d_KeyMaker_start_37 : decode b_KeyMaker_start 37 = .ok (.aload_n 0, 1) := by decide +kernel
theorem d_KeyMaker_start_38 : decode b_KeyMaker_start 38 = .ok (.iload_n 1, 1) := by decide +kernel
theorem d_KeyMaker_start_39 : decode b_KeyMaker_start 39 = .ok (.putfield 64, 3) := by decide +kernel
theorem d_KeyMaker_start_42 : decode b_KeyMaker_start 42 = .ok (.aload_n 0, 1) := by decide +kernel
theorem d_KeyMaker_start_43 : decode b_KeyMaker_start 43 = .ok (.getfield 16, 3) := by decide +kernel
theorem d_KeyMaker_start_46 : decode b_KeyMaker_start 46 = .ok (.iconst 0, 1) := by decide +kernel
theorem d_KeyMaker_start_47 : decode b_KeyMaker_start 47 = .ok (.invokestatic 67, 3) := by decide +kernel
theorem d_KeyMaker_start_50 : decode b_KeyMaker_start 50 = .ok (.aload_n 0, 1) := by decide +kernel
theorem d_KeyMaker_start_51 : decode b_KeyMaker_start 51 = .ok (.getfield 35, 3) := by decide +kernel
theorem d_KeyMaker_start_54 : decode b_KeyMaker_start 54 = .ok (.aload_n 0, 1) := by decide +kernel
theorem d_KeyMaker_start_55 : decode b_KeyMaker_start 55 = .ok (.getfield 9, 3) := by decide +kernel
theorem d_KeyMaker_start_58 : decode b_KeyMaker_start 58 = .ok (.aload_n 0, 1) := by decide +kernel
theorem d_KeyMaker_start_59 : decode b_KeyMaker_start 59 = .ok (.getfield 50, 3) := by decide +kernel
theorem d_KeyMaker_start_62 : decode b_KeyMaker_start 62 = .ok (.invokevirtual 73, 3) := by decide +kernel
theorem d_KeyMaker_start_65 : decode b_KeyMaker_start 65 = .ok (.aload_n 0, 1) := by decide +kernel
theorem d_KeyMaker_start_66 : decode b_KeyMaker_start 66 = .ok (.invokevirtual 76, 3) := by decide +kernel
theorem d_KeyMaker_start_69 : decode b_KeyMaker_start 69 = .ok (.ireturn, 1) := by decide +kernel
theorem d_KeyMaker_step_0 : decode b_KeyMaker_step 0 = .ok (.aload_n 0, 1) := by decide +kernel
theorem d_KeyMaker_step_1 : decode b_KeyMaker_step 1 = .ok (.invokevirtual 76, 3) := by decide +kernel
theorem d_KeyMaker_step_4 : decode b_KeyMaker_step 4 = .ok (.ifCond .gt 5, 3) := by decide +kernel
theorem d_KeyMaker_step_7 : decode b_KeyMaker_step 7 = .ok (.iconst (-1), 1) := by decide +kernel
theorem d_KeyMaker_step_8 : decode b_KeyMaker_step 8 = .ok (.ireturn, 1) := by decide +kernel
theorem d_KeyMaker_step_9 : decode b_KeyMaker_step 9 = .ok (.aload_n 0, 1) := by decide +kernel
theorem d_KeyMaker_step_10 : decode b_KeyMaker_step 10 = .ok (.invokevirtual 80, 3) := by decide +kernel
theorem d_KeyMaker_step_13 : decode b_KeyMaker_step 13 = .ok (.aload_n 0, 1) := by decide +kernel
theorem d_KeyMaker_step_14 : decode b_KeyMaker_step 14 = .ok (.invokevirtual 76, 3) := by decide +kernel
theorem d_KeyMaker_step_17 : decode b_KeyMaker_step 17 = .ok (.ireturn, 1) := by decide +kernel
theorem d_KeyMaker_run_0 : decode b_KeyMaker_run 0 = .ok (.aload_n 0, 1) := by decide +kernel
theorem d_KeyMaker_run_1 : decode b_KeyMaker_run 1 = .ok (.invokevirtual 46, 3) := by decide +kernel
theorem d_KeyMaker_run_4 : decode b_KeyMaker_run 4 = .ok (.ifCond .eq 7, 3) := by decide +kernel
theorem d_KeyMaker_run_7 : decode b_KeyMaker_run 7 = .ok (.iload_n 1, 1) := by decide +kernel
theorem d_KeyMaker_run_8 : decode b_KeyMaker_run 8 = .ok (.ifCond .ge 5, 3) := by decide +kernel
theorem d_KeyMaker_run_11 : decode b_KeyMaker_run 11 = .ok (.iconst (-1), 1) := by decide +kernel
theorem d_KeyMaker_run_12 : decode b_KeyMaker_run 12 = .ok (.ireturn, 1) := by decide +kernel
theorem d_KeyMaker_run_13 : decode b_KeyMaker_run 13 = .ok (.iload_n 1, 1) := by decide +kernel
theorem d_KeyMaker_run_14 : decode b_KeyMaker_run 14 = .ok (.aload_n 0, 1) := by decide +kernel
theorem d_KeyMaker_run_15 : decode b_KeyMaker_run 15 = .ok (.invokevirtual 76, 3) := by decide +kernel
theorem d_KeyMaker_run_18 : decode b_KeyMaker_run 18 = .ok (.invokestatic 83, 3) := by decide +kernel
theorem d_KeyMaker_run_21 : decode b_KeyMaker_run 21 = .ok (.istore_n 2, 1) := by decide +kernel
theorem d_KeyMaker_run_22 : decode b_KeyMaker_run 22 = .ok (.iconst 0, 1) := by decide +kernel
theorem d_KeyMaker_run_23 : decode b_KeyMaker_run 23 = .ok (.istore_n 3, 1) := by decide +kernel
theorem d_KeyMaker_run_24 : decode b_KeyMaker_run 24 = .ok (.iload_n 3, 1) := by decide +kernel
theorem d_KeyMaker_run_25 : decode b_KeyMaker_run 25 = .ok (.iload_n 2, 1) := by decide +kernel
theorem d_KeyMaker_run_26 : decode b_KeyMaker_run 26 = .ok (.if_icmp .ge 13, 3) := by decide +kernel
theorem d_KeyMaker_run_29 : decode b_KeyMaker_run 29 = .ok (.aload_n 0, 1) := by decide +kernel
theorem d_KeyMaker_run_30 : decode b_KeyMaker_run 30 = .ok (.invokevirtual 80, 3) := by decide +kernel
theorem d_KeyMaker_run_33 : decode b_KeyMaker_run 33 = .ok (.iinc 3 1, 3) := by decide +kernel
theorem d_KeyMaker_run_36 : decode b_KeyMaker_run 36 = .ok (.goto (-12), 3) := by decide +kernel
theorem d_KeyMaker_run_39 : decode b_KeyMaker_run 39 = .ok (.iload_n 2, 1) := by decide +kernel
theorem d_KeyMaker_run_40 : decode b_KeyMaker_run 40 = .ok (.ireturn, 1) := by decide +kernel
theorem d_KeyMaker_left_0 : decode b_KeyMaker_left 0 = .ok (.aload_n 0, 1) := by decide +kernel
theorem d_KeyMaker_left_1 : decode b_KeyMaker_left 1 = .ok (.invokevirtual 46, 3) := by decide +kernel
theorem d_KeyMaker_left_4 : decode b_KeyMaker_left 4 = .ok (.ifCond .eq 10, 3) := by decide +kernel
theorem d_KeyMaker_left_7 : decode b_KeyMaker_left 7 = .ok (.aload_n 0, 1) := by decide +kernel
theorem d_KeyMaker_left_8 : decode b_KeyMaker_left 8 = .ok (.invokevirtual 76, 3) := by decide +kernel
theorem d_KeyMaker_left_11 : decode b_KeyMaker_left 11 = .ok (.goto 4, 3) := by decide +kernel
theorem d_KeyMaker_left_14 : decode b_KeyMaker_left 14 = .ok (.iconst (-1), 1) := by decide +kernel
theorem d_KeyMaker_left_15 : decode b_KeyMaker_left 15 = .ok (.ireturn, 1) := by decide +kernel
theorem d_KeyMaker_key_0 : decode b_KeyMaker_key 0 = .ok (.iload_n 1, 1) := by decide +kernel
theorem d_KeyMaker_key_1 : decode b_KeyMaker_key 1 = .ok (.ifCond .lt 22, 3) := by decide +kernel
theorem d_KeyMaker_key_4 : decode b_KeyMaker_key 4 = .ok (.iload_n 1, 1) := by decide +kernel
theorem d_KeyMaker_key_5 : decode b_KeyMaker_key 5 = .ok (.aload_n 0, 1) := by decide +kernel
theorem d_KeyMaker_key_6 : decode b_KeyMaker_key 6 = .ok (.getfield 61, 3) := by decide +kernel
theorem d_KeyMaker_key_9 : decode b_KeyMaker_key 9 = .ok (.if_icmp .ge 14, 3) := by decide +kernel
theorem d_KeyMaker_key_12 : decode b_KeyMaker_key 12 = .ok (.iload_n 1, 1) := by decide +kernel
theorem d_KeyMaker_key_13 : decode b_KeyMaker_key 13 = .ok (.aload_n 0, 1) := by decide +kernel
theorem d_KeyMaker_key_14 : decode b_KeyMaker_key 14 = .ok (.getfield 89, 3) := by decide +kernel
theorem d_KeyMaker_key_17 : decode b_KeyMaker_key 17 = .ok (.bipush 32, 2) := by decide +kernel
theorem d_KeyMaker_key_19 : decode b_KeyMaker_key 19 = .ok (.imul, 1) := by decide +kernel
theorem d_KeyMaker_key_20 : decode b_KeyMaker_key 20 = .ok (.if_icmp .lt 5, 3) := by decide +kernel
theorem d_KeyMaker_key_23 : decode b_KeyMaker_key 23 = .ok (.iconst (-1), 1) := by decide +kernel
theorem d_KeyMaker_key_24 : decode b_KeyMaker_key 24 = .ok (.ireturn, 1) := by decide +kernel
theorem d_KeyMaker_key_25 : decode b_KeyMaker_key 25 = .ok (.aload_n 0, 1) := by decide +kernel
theorem d_KeyMaker_key_26 : decode b_KeyMaker_key 26 = .ok (.getfield 16, 3) := by decide +kernel
theorem d_KeyMaker_key_29 : decode b_KeyMaker_key 29 = .ok (.iload_n 1, 1) := by decide +kernel
theorem d_KeyMaker_key_30 : decode b_KeyMaker_key 30 = .ok (.iaload, 1) := by decide +kernel
theorem d_KeyMaker_key_31 : decode b_KeyMaker_key 31 = .ok (.ireturn, 1) := by decide +kernel
theorem d_KeyMaker_reset_0 : decode b_KeyMaker_reset 0 = .ok (.aload_n 0, 1) := by decide +kernel
theorem d_KeyMaker_reset_1 : decode b_KeyMaker_reset 1 = .ok (.invokevirtual 39, 3) := by decide +kernel
theorem d_KeyMaker_reset_4 : decode b_KeyMaker_reset 4 = .ok (.return_, 1) := by decide +kernel
theorem d_KeyMaker_many_0 : decode b_KeyMaker_many 0 = .ok (.iload_n 1, 1) := by decide +kernel
theorem d_KeyMaker_many_1 : decode b_KeyMaker_many 1 = .ok (.tableswitch 42 0 2 #[27, 32, 37], 27) := by decide +kernel
theorem d_KeyMaker_many_28 : decode b_KeyMaker_many 28 = .ok (.aload_n 0, 1) := by decide +kernel
theorem d_KeyMaker_many_29 : decode b_KeyMaker_many 29 = .ok (.getfield 50, 3) := by decide +kernel
theorem d_KeyMaker_many_32 : decode b_KeyMaker_many 32 = .ok (.ireturn, 1) := by decide +kernel
theorem d_KeyMaker_many_33 : decode b_KeyMaker_many 33 = .ok (.aload_n 0, 1) := by decide +kernel
theorem d_KeyMaker_many_34 : decode b_KeyMaker_many 34 = .ok (.getfield 58, 3) := by decide +kernel
theorem d_KeyMaker_many_37 : decode b_KeyMaker_many 37 = .ok (.ireturn, 1) := by decide +kernel
theorem d_KeyMaker_many_38 : decode b_KeyMaker_many 38 = .ok (.aload_n 0, 1) := by decide +kernel
theorem d_KeyMaker_many_39 : decode b_KeyMaker_many 39 = .ok (.getfield 61, 3) := by decide +kernel
theorem d_KeyMaker_many_42 : decode b_KeyMaker_many 42 = .ok (.ireturn, 1) := by decide +kernel
theorem d_KeyMaker_many_43 : decode b_KeyMaker_many 43 = .ok (.iconst (-1), 1) := by decide +kernel
theorem d_KeyMaker_many_44 : decode b_KeyMaker_many 44 = .ok (.ireturn, 1) := by decide +kernel
theorem d_KeyMaker_sum_0 : decode b_KeyMaker_sum 0 = .ok (.iload_n 1, 1) := by decide +kernel
theorem d_KeyMaker_sum_1 : decode b_KeyMaker_sum 1 = .ok (.invokestatic 92, 3) := by decide +kernel
theorem d_KeyMaker_sum_4 : decode b_KeyMaker_sum 4 = .ok (.ifCond .ne 5, 3) := by decide +kernel
theorem d_KeyMaker_sum_7 : decode b_KeyMaker_sum 7 = .ok (.iconst (-1), 1) := by decide +kernel
theorem d_KeyMaker_sum_8 : decode b_KeyMaker_sum 8 = .ok (.ireturn, 1) := by decide +kernel
theorem d_KeyMaker_sum_9 : decode b_KeyMaker_sum 9 = .ok (.aload_n 0, 1) := by decide +kernel
theorem d_KeyMaker_sum_10 : decode b_KeyMaker_sum 10 = .ok (.getfield 28, 3) := by decide +kernel
theorem d_KeyMaker_sum_13 : decode b_KeyMaker_sum 13 = .ok (.aload_n 0, 1) := by decide +kernel
theorem d_KeyMaker_sum_14 : decode b_KeyMaker_sum 14 = .ok (.getfield 9, 3) := by decide +kernel
theorem d_KeyMaker_sum_17 : decode b_KeyMaker_sum 17 = .ok (.aload_n 0, 1) := by decide +kernel
theorem d_KeyMaker_sum_18 : decode b_KeyMaker_sum 18 = .ok (.getfield 50, 3) := by decide +kernel
theorem d_KeyMaker_sum_21 : decode b_KeyMaker_sum 21 = .ok (.aload_n 0, 1) := by decide +kernel
theorem d_KeyMaker_sum_22 : decode b_KeyMaker_sum 22 = .ok (.getfield 22, 3) := by decide +kernel
theorem d_KeyMaker_sum_25 : decode b_KeyMaker_sum 25 = .ok (.invokevirtual 95, 3) := by decide +kernel
theorem d_KeyMaker_sum_28 : decode b_KeyMaker_sum 28 = .ok (.aload_n 0, 1) := by decide +kernel
theorem d_KeyMaker_sum_29 : decode b_KeyMaker_sum 29 = .ok (.getfield 22, 3) := by decide +kernel
theorem d_KeyMaker_sum_32 : decode b_KeyMaker_sum 32 = .ok (.iload_n 1, 1) := by decide +kernel
theorem d_KeyMaker_sum_33 : decode b_KeyMaker_sum 33 = .ok (.iaload, 1) := by decide +kernel
theorem d_KeyMaker_sum_34 : decode b_KeyMaker_sum 34 = .ok (.ireturn, 1) := by decide +kernel
theorem d_KeyMaker_mark_0 : decode b_KeyMaker_mark 0 = .ok (.iload_n 1, 1) := by decide +kernel
theorem d_KeyMaker_mark_1 : decode b_KeyMaker_mark 1 = .ok (.invokestatic 92, 3) := by decide +kernel
theorem d_KeyMaker_mark_4 : decode b_KeyMaker_mark 4 = .ok (.ifCond .ne 5, 3) := by decide +kernel
theorem d_KeyMaker_mark_7 : decode b_KeyMaker_mark 7 = .ok (.iconst (-1), 1) := by decide +kernel
theorem d_KeyMaker_mark_8 : decode b_KeyMaker_mark 8 = .ok (.ireturn, 1) := by decide +kernel
theorem d_KeyMaker_mark_9 : decode b_KeyMaker_mark 9 = .ok (.aload_n 0, 1) := by decide +kernel
theorem d_KeyMaker_mark_10 : decode b_KeyMaker_mark 10 = .ok (.getfield 35, 3) := by decide +kernel
theorem d_KeyMaker_mark_13 : decode b_KeyMaker_mark 13 = .ok (.aload_n 0, 1) := by decide +kernel
theorem d_KeyMaker_mark_14 : decode b_KeyMaker_mark 14 = .ok (.getfield 9, 3) := by decide +kernel
theorem d_KeyMaker_mark_17 : decode b_KeyMaker_mark 17 = .ok (.aload_n 0, 1) := by decide +kernel
theorem d_KeyMaker_mark_18 : decode b_KeyMaker_mark 18 = .ok (.getfield 50, 3) := by decide +kernel
theorem d_KeyMaker_mark_21 : decode b_KeyMaker_mark 21 = .ok (.invokevirtual 73, 3) := by decide +kernel
theorem d_KeyMaker_mark_24 : decode b_KeyMaker_mark 24 = .ok (.aload_n 0, 1) := by decide +kernel
theorem d_KeyMaker_mark_25 : decode b_KeyMaker_mark 25 = .ok (.getfield 35, 3) := by decide +kernel
theorem d_KeyMaker_mark_28 : decode b_KeyMaker_mark 28 = .ok (.aload_n 0, 1) := by decide +kernel
theorem d_KeyMaker_mark_29 : decode b_KeyMaker_mark 29 = .ok (.getfield 13, 3) := by decide +kernel
theorem d_KeyMaker_mark_32 : decode b_KeyMaker_mark 32 = .ok (.aload_n 0, 1) := by decide +kernel
theorem d_KeyMaker_mark_33 : decode b_KeyMaker_mark 33 = .ok (.getfield 58, 3) := by decide +kernel
theorem d_KeyMaker_mark_36 : decode b_KeyMaker_mark 36 = .ok (.aload_n 0, 1) := by decide +kernel
theorem d_KeyMaker_mark_37 : decode b_KeyMaker_mark 37 = .ok (.getfield 22, 3) := by decide +kernel
theorem d_KeyMaker_mark_40 : decode b_KeyMaker_mark 40 = .ok (.invokevirtual 99, 3) := by decide +kernel
theorem d_KeyMaker_mark_43 : decode b_KeyMaker_mark 43 = .ok (.aload_n 0, 1) := by decide +kernel
theorem d_KeyMaker_mark_44 : decode b_KeyMaker_mark 44 = .ok (.getfield 22, 3) := by decide +kernel
theorem d_KeyMaker_mark_47 : decode b_KeyMaker_mark 47 = .ok (.iload_n 1, 1) := by decide +kernel
theorem d_KeyMaker_mark_48 : decode b_KeyMaker_mark 48 = .ok (.iaload, 1) := by decide +kernel
theorem d_KeyMaker_mark_49 : decode b_KeyMaker_mark 49 = .ok (.ireturn, 1) := by decide +kernel
theorem d_KeyMaker_word_0 : decode b_KeyMaker_word 0 = .ok (.iload_n 1, 1) := by decide +kernel
theorem d_KeyMaker_word_1 : decode b_KeyMaker_word 1 = .ok (.ifCond .ne 21, 3) := by decide +kernel
theorem d_KeyMaker_word_4 : decode b_KeyMaker_word 4 = .ok (.iload_n 2, 1) := by decide +kernel
theorem d_KeyMaker_word_5 : decode b_KeyMaker_word 5 = .ok (.ifCond .lt 17, 3) := by decide +kernel
theorem d_KeyMaker_word_8 : decode b_KeyMaker_word 8 = .ok (.iload_n 2, 1) := by decide +kernel
theorem d_KeyMaker_word_9 : decode b_KeyMaker_word 9 = .ok (.getstatic 102, 3) := by decide +kernel
theorem d_KeyMaker_word_12 : decode b_KeyMaker_word 12 = .ok (.arraylength, 1) := by decide +kernel
theorem d_KeyMaker_word_13 : decode b_KeyMaker_word 13 = .ok (.if_icmp .ge 9, 3) := by decide +kernel
theorem d_KeyMaker_word_16 : decode b_KeyMaker_word 16 = .ok (.getstatic 102, 3) := by decide +kernel
theorem d_KeyMaker_word_19 : decode b_KeyMaker_word 19 = .ok (.iload_n 2, 1) := by decide +kernel
theorem d_KeyMaker_word_20 : decode b_KeyMaker_word 20 = .ok (.iaload, 1) := by decide +kernel
theorem d_KeyMaker_word_21 : decode b_KeyMaker_word 21 = .ok (.ireturn, 1) := by decide +kernel
theorem d_KeyMaker_word_22 : decode b_KeyMaker_word 22 = .ok (.iload_n 1, 1) := by decide +kernel
theorem d_KeyMaker_word_23 : decode b_KeyMaker_word 23 = .ok (.iconst 1, 1) := by decide +kernel
theorem d_KeyMaker_word_24 : decode b_KeyMaker_word 24 = .ok (.if_icmp .ne 21, 3) := by decide +kernel
theorem d_KeyMaker_word_27 : decode b_KeyMaker_word 27 = .ok (.iload_n 2, 1) := by decide +kernel
theorem d_KeyMaker_word_28 : decode b_KeyMaker_word 28 = .ok (.ifCond .lt 17, 3) := by decide +kernel
theorem d_KeyMaker_word_31 : decode b_KeyMaker_word 31 = .ok (.iload_n 2, 1) := by decide +kernel
theorem d_KeyMaker_word_32 : decode b_KeyMaker_word 32 = .ok (.getstatic 105, 3) := by decide +kernel
theorem d_KeyMaker_word_35 : decode b_KeyMaker_word 35 = .ok (.arraylength, 1) := by decide +kernel
theorem d_KeyMaker_word_36 : decode b_KeyMaker_word 36 = .ok (.if_icmp .ge 9, 3) := by decide +kernel
theorem d_KeyMaker_word_39 : decode b_KeyMaker_word 39 = .ok (.getstatic 105, 3) := by decide +kernel
theorem d_KeyMaker_word_42 : decode b_KeyMaker_word 42 = .ok (.iload_n 2, 1) := by decide +kernel
theorem d_KeyMaker_word_43 : decode b_KeyMaker_word 43 = .ok (.iaload, 1) := by decide +kernel
theorem d_KeyMaker_word_44 : decode b_KeyMaker_word 44 = .ok (.ireturn, 1) := by decide +kernel
theorem d_KeyMaker_word_45 : decode b_KeyMaker_word 45 = .ok (.iconst 0, 1) := by decide +kernel
theorem d_KeyMaker_word_46 : decode b_KeyMaker_word 46 = .ok (.ireturn, 1) := by decide +kernel
theorem d_KeyMaker_isByte_0 : decode b_KeyMaker_isByte 0 = .ok (.iload_n 0, 1) := by decide +kernel
theorem d_KeyMaker_isByte_1 : decode b_KeyMaker_isByte 1 = .ok (.ifCond .lt 14, 3) := by decide +kernel
theorem d_KeyMaker_isByte_4 : decode b_KeyMaker_isByte 4 = .ok (.iload_n 0, 1) := by decide +kernel
theorem d_KeyMaker_isByte_5 : decode b_KeyMaker_isByte 5 = .ok (.sipush 255, 3) := by decide +kernel
theorem d_KeyMaker_isByte_8 : decode b_KeyMaker_isByte 8 = .ok (.if_icmp .gt 7, 3) := by decide +kernel
theorem d_KeyMaker_isByte_11 : decode b_KeyMaker_isByte 11 = .ok (.iconst 1, 1) := by decide +kernel
theorem d_KeyMaker_isByte_12 : decode b_KeyMaker_isByte 12 = .ok (.goto 4, 3) := by decide +kernel
theorem d_KeyMaker_isByte_15 : decode b_KeyMaker_isByte 15 = .ok (.iconst 0, 1) := by decide +kernel
theorem d_KeyMaker_isByte_16 : decode b_KeyMaker_isByte 16 = .ok (.ireturn, 1) := by decide +kernel
theorem d_KeyMaker_isPlaceOfSum_0 : decode b_KeyMaker_isPlaceOfSum 0 = .ok (.iload_n 0, 1) := by decide +kernel
theorem d_KeyMaker_isPlaceOfSum_1 : decode b_KeyMaker_isPlaceOfSum 1 = .ok (.ifCond .lt 13, 3) := by decide +kernel
theorem d_KeyMaker_isPlaceOfSum_4 : decode b_KeyMaker_isPlaceOfSum 4 = .ok (.iload_n 0, 1) := by decide +kernel
theorem d_KeyMaker_isPlaceOfSum_5 : decode b_KeyMaker_isPlaceOfSum 5 = .ok (.bipush 32, 2) := by decide +kernel
theorem d_KeyMaker_isPlaceOfSum_7 : decode b_KeyMaker_isPlaceOfSum 7 = .ok (.if_icmp .ge 7, 3) := by decide +kernel
theorem d_KeyMaker_isPlaceOfSum_10 : decode b_KeyMaker_isPlaceOfSum 10 = .ok (.iconst 1, 1) := by decide +kernel
theorem d_KeyMaker_isPlaceOfSum_11 : decode b_KeyMaker_isPlaceOfSum 11 = .ok (.goto 4, 3) := by decide +kernel
theorem d_KeyMaker_isPlaceOfSum_14 : decode b_KeyMaker_isPlaceOfSum 14 = .ok (.iconst 0, 1) := by decide +kernel
theorem d_KeyMaker_isPlaceOfSum_15 : decode b_KeyMaker_isPlaceOfSum 15 = .ok (.ireturn, 1) := by decide +kernel
theorem d_KeyMaker_putWord_0 : decode b_KeyMaker_putWord 0 = .ok (.aload_n 1, 1) := by decide +kernel
theorem d_KeyMaker_putWord_1 : decode b_KeyMaker_putWord 1 = .ok (.iload_n 2, 1) := by decide +kernel
theorem d_KeyMaker_putWord_2 : decode b_KeyMaker_putWord 2 = .ok (.iload_n 0, 1) := by decide +kernel
theorem d_KeyMaker_putWord_3 : decode b_KeyMaker_putWord 3 = .ok (.bipush 24, 2) := by decide +kernel
theorem d_KeyMaker_putWord_5 : decode b_KeyMaker_putWord 5 = .ok (.iushr, 1) := by decide +kernel
theorem d_KeyMaker_putWord_6 : decode b_KeyMaker_putWord 6 = .ok (.iastore, 1) := by decide +kernel
theorem d_KeyMaker_putWord_7 : decode b_KeyMaker_putWord 7 = .ok (.aload_n 1, 1) := by decide +kernel
theorem d_KeyMaker_putWord_8 : decode b_KeyMaker_putWord 8 = .ok (.iload_n 2, 1) := by decide +kernel
theorem d_KeyMaker_putWord_9 : decode b_KeyMaker_putWord 9 = .ok (.iconst 1, 1) := by decide +kernel
theorem d_KeyMaker_putWord_10 : decode b_KeyMaker_putWord 10 = .ok (.iadd, 1) := by decide +kernel
theorem d_KeyMaker_putWord_11 : decode b_KeyMaker_putWord 11 = .ok (.iload_n 0, 1) := by decide +kernel
theorem d_KeyMaker_putWord_12 : decode b_KeyMaker_putWord 12 = .ok (.bipush 16, 2) := by decide +kernel
theorem d_KeyMaker_putWord_14 : decode b_KeyMaker_putWord 14 = .ok (.iushr, 1) := by decide +kernel
theorem d_KeyMaker_putWord_15 : decode b_KeyMaker_putWord 15 = .ok (.sipush 255, 3) := by decide +kernel
theorem d_KeyMaker_putWord_18 : decode b_KeyMaker_putWord 18 = .ok (.iand, 1) := by decide +kernel
theorem d_KeyMaker_putWord_19 : decode b_KeyMaker_putWord 19 = .ok (.iastore, 1) := by decide +kernel
theorem d_KeyMaker_putWord_20 : decode b_KeyMaker_putWord 20 = .ok (.aload_n 1, 1) := by decide +kernel
theorem d_KeyMaker_putWord_21 : decode b_KeyMaker_putWord 21 = .ok (.iload_n 2, 1) := by decide +kernel
theorem d_KeyMaker_putWord_22 : decode b_KeyMaker_putWord 22 = .ok (.iconst 2, 1) := by decide +kernel
theorem d_KeyMaker_putWord_23 : decode b_KeyMaker_putWord 23 = .ok (.iadd, 1) := by decide +kernel
theorem d_KeyMaker_putWord_24 : decode b_KeyMaker_putWord 24 = .ok (.iload_n 0, 1) := by decide +kernel
theorem d_KeyMaker_putWord_25 : decode b_KeyMaker_putWord 25 = .ok (.bipush 8, 2) := by decide +kernel
theorem d_KeyMaker_putWord_27 : decode b_KeyMaker_putWord 27 = .ok (.iushr, 1) := by decide +kernel
theorem d_KeyMaker_putWord_28 : decode b_KeyMaker_putWord 28 = .ok (.sipush 255, 3) := by decide +kernel
theorem d_KeyMaker_putWord_31 : decode b_KeyMaker_putWord 31 = .ok (.iand, 1) := by decide +kernel
theorem d_KeyMaker_putWord_32 : decode b_KeyMaker_putWord 32 = .ok (.iastore, 1) := by decide +kernel
theorem d_KeyMaker_putWord_33 : decode b_KeyMaker_putWord 33 = .ok (.aload_n 1, 1) := by decide +kernel
theorem d_KeyMaker_putWord_34 : decode b_KeyMaker_putWord 34 = .ok (.iload_n 2, 1) := by decide +kernel
theorem d_KeyMaker_putWord_35 : decode b_KeyMaker_putWord 35 = .ok (.iconst 3, 1) := by decide +kernel
theorem d_KeyMaker_putWord_36 : decode b_KeyMaker_putWord 36 = .ok (.iadd, 1) := by decide +kernel
theorem d_KeyMaker_putWord_37 : decode b_KeyMaker_putWord 37 = .ok (.iload_n 0, 1) := by decide +kernel
theorem d_KeyMaker_putWord_38 : decode b_KeyMaker_putWord 38 = .ok (.sipush 255, 3) := by decide +kernel
theorem d_KeyMaker_putWord_41 : decode b_KeyMaker_putWord 41 = .ok (.iand, 1) := by decide +kernel
theorem d_KeyMaker_putWord_42 : decode b_KeyMaker_putWord 42 = .ok (.iastore, 1) := by decide +kernel
theorem d_KeyMaker_putWord_43 : decode b_KeyMaker_putWord 43 = .ok (.return_, 1) := by decide +kernel
theorem d_KeyMaker_isStarted_0 : decode b_KeyMaker_isStarted 0 = .ok (.aload_n 0, 1) := by decide +kernel
theorem d_KeyMaker_isStarted_1 : decode b_KeyMaker_isStarted 1 = .ok (.getfield 61, 3) := by decide +kernel
theorem d_KeyMaker_isStarted_4 : decode b_KeyMaker_isStarted 4 = .ok (.ifCond .le 7, 3) := by decide +kernel
theorem d_KeyMaker_isStarted_7 : decode b_KeyMaker_isStarted 7 = .ok (.iconst 1, 1) := by decide +kernel
theorem d_KeyMaker_isStarted_8 : decode b_KeyMaker_isStarted 8 = .ok (.goto 4, 3) := by decide +kernel
theorem d_KeyMaker_isStarted_11 : decode b_KeyMaker_isStarted 11 = .ok (.iconst 0, 1) := by decide +kernel
theorem d_KeyMaker_isStarted_12 : decode b_KeyMaker_isStarted 12 = .ok (.ireturn, 1) := by decide +kernel
theorem d_KeyMaker_turnsLeft_0 : decode b_KeyMaker_turnsLeft 0 = .ok (.aload_n 0, 1) := by decide +kernel
theorem d_KeyMaker_turnsLeft_1 : decode b_KeyMaker_turnsLeft 1 = .ok (.getfield 61, 3) := by decide +kernel
theorem d_KeyMaker_turnsLeft_4 : decode b_KeyMaker_turnsLeft 4 = .ok (.bipush 32, 2) := by decide +kernel
theorem d_KeyMaker_turnsLeft_6 : decode b_KeyMaker_turnsLeft 6 = .ok (.iadd, 1) := by decide +kernel
theorem d_KeyMaker_turnsLeft_7 : decode b_KeyMaker_turnsLeft 7 = .ok (.iconst 1, 1) := by decide +kernel
theorem d_KeyMaker_turnsLeft_8 : decode b_KeyMaker_turnsLeft 8 = .ok (.isub, 1) := by decide +kernel
theorem d_KeyMaker_turnsLeft_9 : decode b_KeyMaker_turnsLeft 9 = .ok (.bipush 32, 2) := by decide +kernel
theorem d_KeyMaker_turnsLeft_11 : decode b_KeyMaker_turnsLeft 11 = .ok (.idiv, 1) := by decide +kernel
theorem d_KeyMaker_turnsLeft_12 : decode b_KeyMaker_turnsLeft 12 = .ok (.istore_n 1, 1) := by decide +kernel
theorem d_KeyMaker_turnsLeft_13 : decode b_KeyMaker_turnsLeft 13 = .ok (.iload_n 1, 1) := by decide +kernel
theorem d_KeyMaker_turnsLeft_14 : decode b_KeyMaker_turnsLeft 14 = .ok (.aload_n 0, 1) := by decide +kernel
theorem d_KeyMaker_turnsLeft_15 : decode b_KeyMaker_turnsLeft 15 = .ok (.getfield 89, 3) := by decide +kernel
theorem d_KeyMaker_turnsLeft_18 : decode b_KeyMaker_turnsLeft 18 = .ok (.isub, 1) := by decide +kernel
theorem d_KeyMaker_turnsLeft_19 : decode b_KeyMaker_turnsLeft 19 = .ok (.aload_n 0, 1) := by decide +kernel
theorem d_KeyMaker_turnsLeft_20 : decode b_KeyMaker_turnsLeft 20 = .ok (.getfield 64, 3) := by decide +kernel
theorem d_KeyMaker_turnsLeft_23 : decode b_KeyMaker_turnsLeft 23 = .ok (.imul, 1) := by decide +kernel
theorem d_KeyMaker_turnsLeft_24 : decode b_KeyMaker_turnsLeft 24 = .ok (.aload_n 0, 1) := by decide +kernel
theorem d_KeyMaker_turnsLeft_25 : decode b_KeyMaker_turnsLeft 25 = .ok (.getfield 108, 3) := by decide +kernel
theorem d_KeyMaker_turnsLeft_28 : decode b_KeyMaker_turnsLeft 28 = .ok (.isub, 1) := by decide +kernel
theorem d_KeyMaker_turnsLeft_29 : decode b_KeyMaker_turnsLeft 29 = .ok (.ireturn, 1) := by decide +kernel
theorem d_KeyMaker_forgetAll_0 : decode b_KeyMaker_forgetAll 0 = .ok (.aload_n 0, 1) := by decide +kernel
theorem d_KeyMaker_forgetAll_1 : decode b_KeyMaker_forgetAll 1 = .ok (.iconst 0, 1) := by decide +kernel
theorem d_KeyMaker_forgetAll_2 : decode b_KeyMaker_forgetAll 2 = .ok (.putfield 50, 3) := by decide +kernel
theorem d_KeyMaker_forgetAll_5 : decode b_KeyMaker_forgetAll 5 = .ok (.aload_n 0, 1) := by decide +kernel
theorem d_KeyMaker_forgetAll_6 : decode b_KeyMaker_forgetAll 6 = .ok (.iconst 0, 1) := by decide +kernel
theorem d_KeyMaker_forgetAll_7 : decode b_KeyMaker_forgetAll 7 = .ok (.putfield 58, 3) := by decide +kernel
theorem d_KeyMaker_forgetAll_10 : decode b_KeyMaker_forgetAll 10 = .ok (.aload_n 0, 1) := by decide +kernel
theorem d_KeyMaker_forgetAll_11 : decode b_KeyMaker_forgetAll 11 = .ok (.iconst 0, 1) := by decide +kernel
theorem d_KeyMaker_forgetAll_12 : decode b_KeyMaker_forgetAll 12 = .ok (.putfield 61, 3) := by decide +kernel
theorem d_KeyMaker_forgetAll_15 : decode b_KeyMaker_forgetAll 15 = .ok (.aload_n 0, 1) := by decide +kernel
theorem d_KeyMaker_forgetAll_16 : decode b_KeyMaker_forgetAll 16 = .ok (.iconst 0, 1) := by decide +kernel
theorem d_KeyMaker_forgetAll_17 : decode b_KeyMaker_forgetAll 17 = .ok (.putfield 64, 3) := by decide +kernel
theorem d_KeyMaker_forgetAll_20 : decode b_KeyMaker_forgetAll 20 = .ok (.aload_n 0, 1) := by decide +kernel
theorem d_KeyMaker_forgetAll_21 : decode b_KeyMaker_forgetAll 21 = .ok (.iconst 0, 1) := by decide +kernel
theorem d_KeyMaker_forgetAll_22 : decode b_KeyMaker_forgetAll 22 = .ok (.putfield 89, 3) := by decide +kernel
theorem d_KeyMaker_forgetAll_25 : decode b_KeyMaker_forgetAll 25 = .ok (.aload_n 0, 1) := by decide +kernel
theorem d_KeyMaker_forgetAll_26 : decode b_KeyMaker_forgetAll 26 = .ok (.iconst 0, 1) := by decide +kernel
theorem d_KeyMaker_forgetAll_27 : decode b_KeyMaker_forgetAll 27 = .ok (.putfield 108, 3) := by decide +kernel
theorem d_KeyMaker_forgetAll_30 : decode b_KeyMaker_forgetAll 30 = .ok (.return_, 1) := by decide +kernel
theorem d_KeyMaker_turn_0 : decode b_KeyMaker_turn 0 = .ok (.aload_n 0, 1) := by decide +kernel
theorem d_KeyMaker_turn_1 : decode b_KeyMaker_turn 1 = .ok (.getfield 108, 3) := by decide +kernel
theorem d_KeyMaker_turn_4 : decode b_KeyMaker_turn 4 = .ok (.ifCond .ne 44, 3) := by decide +kernel
theorem d_KeyMaker_turn_7 : decode b_KeyMaker_turn 7 = .ok (.aload_n 0, 1) := by decide +kernel
theorem d_KeyMaker_turn_8 : decode b_KeyMaker_turn 8 = .ok (.getfield 89, 3) := by decide +kernel
theorem d_KeyMaker_turn_11 : decode b_KeyMaker_turn 11 = .ok (.iconst 1, 1) := by decide +kernel
theorem d_KeyMaker_turn_12 : decode b_KeyMaker_turn 12 = .ok (.iadd, 1) := by decide +kernel
theorem d_KeyMaker_turn_13 : decode b_KeyMaker_turn 13 = .ok (.aload_n 0, 1) := by decide +kernel
theorem d_KeyMaker_turn_14 : decode b_KeyMaker_turn 14 = .ok (.getfield 13, 3) := by decide +kernel
theorem d_KeyMaker_turn_17 : decode b_KeyMaker_turn 17 = .ok (.aload_n 0, 1) := by decide +kernel
theorem d_KeyMaker_turn_18 : decode b_KeyMaker_turn 18 = .ok (.getfield 58, 3) := by decide +kernel
theorem d_KeyMaker_turn_21 : decode b_KeyMaker_turn 21 = .ok (.invokestatic 54, 3) := by decide +kernel
theorem d_KeyMaker_turn_24 : decode b_KeyMaker_turn 24 = .ok (.aload_n 0, 1) := by decide +kernel
theorem d_KeyMaker_turn_25 : decode b_KeyMaker_turn 25 = .ok (.getfield 35, 3) := by decide +kernel
theorem d_KeyMaker_turn_28 : decode b_KeyMaker_turn 28 = .ok (.aload_n 0, 1) := by decide +kernel
theorem d_KeyMaker_turn_29 : decode b_KeyMaker_turn 29 = .ok (.getfield 13, 3) := by decide +kernel
theorem d_KeyMaker_turn_32 : decode b_KeyMaker_turn 32 = .ok (.aload_n 0, 1) := by decide +kernel
theorem d_KeyMaker_turn_33 : decode b_KeyMaker_turn 33 = .ok (.getfield 58, 3) := by decide +kernel
theorem d_KeyMaker_turn_36 : decode b_KeyMaker_turn 36 = .ok (.iconst 4, 1) := by decide +kernel
theorem d_KeyMaker_turn_37 : decode b_KeyMaker_turn 37 = .ok (.iadd, 1) := by decide +kernel
theorem d_KeyMaker_turn_38 : decode b_KeyMaker_turn 38 = .ok (.aload_n 0, 1) := by decide +kernel
theorem d_KeyMaker_turn_39 : decode b_KeyMaker_turn 39 = .ok (.getfield 19, 3) := by decide +kernel
theorem d_KeyMaker_turn_42 : decode b_KeyMaker_turn 42 = .ok (.invokevirtual 99, 3) := by decide +kernel
theorem d_KeyMaker_turn_45 : decode b_KeyMaker_turn 45 = .ok (.goto 20, 3) := by decide +kernel
theorem d_KeyMaker_turn_48 : decode b_KeyMaker_turn 48 = .ok (.aload_n 0, 1) := by decide +kernel
theorem d_KeyMaker_turn_49 : decode b_KeyMaker_turn 49 = .ok (.getfield 35, 3) := by decide +kernel
theorem d_KeyMaker_turn_52 : decode b_KeyMaker_turn 52 = .ok (.aload_n 0, 1) := by decide +kernel
theorem d_KeyMaker_turn_53 : decode b_KeyMaker_turn 53 = .ok (.getfield 19, 3) := by decide +kernel
theorem d_KeyMaker_turn_56 : decode b_KeyMaker_turn 56 = .ok (.bipush 32, 2) := by decide +kernel
theorem d_KeyMaker_turn_58 : decode b_KeyMaker_turn 58 = .ok (.aload_n 0, 1) := by decide +kernel
theorem d_KeyMaker_turn_59 : decode b_KeyMaker_turn 59 = .ok (.getfield 19, 3) := by decide +kernel
theorem d_KeyMaker_turn_62 : decode b_KeyMaker_turn 62 = .ok (.invokevirtual 99, 3) := by decide +kernel
theorem d_KeyMaker_turn_65 : decode b_KeyMaker_turn 65 = .ok (.aload_n 0, 1) := by decide +kernel
theorem d_KeyMaker_turn_66 : decode b_KeyMaker_turn 66 = .ok (.invokevirtual 111, 3) := by decide +kernel
theorem d_KeyMaker_turn_69 : decode b_KeyMaker_turn 69 = .ok (.aload_n 0, 1) := by decide +kernel
theorem d_KeyMaker_turn_70 : decode b_KeyMaker_turn 70 = .ok (.dup, 1) := by decide +kernel
theorem d_KeyMaker_turn_71 : decode b_KeyMaker_turn 71 = .ok (.getfield 108, 3) := by decide +kernel
theorem d_KeyMaker_turn_74 : decode b_KeyMaker_turn 74 = .ok (.iconst 1, 1) := by decide +kernel
theorem d_KeyMaker_turn_75 : decode b_KeyMaker_turn 75 = .ok (.iadd, 1) := by decide +kernel
theorem d_KeyMaker_turn_76 : decode b_KeyMaker_turn 76 = .ok (.putfield 108, 3) := by decide +kernel
theorem d_KeyMaker_turn_79 : decode b_KeyMaker_turn 79 = .ok (.aload_n 0, 1) := by decide +kernel
theorem d_KeyMaker_turn_80 : decode b_KeyMaker_turn 80 = .ok (.getfield 108, 3) := by decide +kernel
theorem d_KeyMaker_turn_83 : decode b_KeyMaker_turn 83 = .ok (.aload_n 0, 1) := by decide +kernel
theorem d_KeyMaker_turn_84 : decode b_KeyMaker_turn 84 = .ok (.getfield 64, 3) := by decide +kernel
theorem d_KeyMaker_turn_87 : decode b_KeyMaker_turn 87 = .ok (.if_icmp .ne 18, 3) := by decide +kernel
theorem d_KeyMaker_turn_90 : decode b_KeyMaker_turn 90 = .ok (.aload_n 0, 1) := by decide +kernel
theorem d_KeyMaker_turn_91 : decode b_KeyMaker_turn 91 = .ok (.dup, 1) := by decide +kernel
theorem d_KeyMaker_turn_92 : decode b_KeyMaker_turn 92 = .ok (.getfield 89, 3) := by decide +kernel
theorem d_KeyMaker_turn_95 : decode b_KeyMaker_turn 95 = .ok (.iconst 1, 1) := by decide +kernel
theorem d_KeyMaker_turn_96 : decode b_KeyMaker_turn 96 = .ok (.iadd, 1) := by decide +kernel
theorem d_KeyMaker_turn_97 : decode b_KeyMaker_turn 97 = .ok (.putfield 89, 3) := by decide +kernel
theorem d_KeyMaker_turn_100 : decode b_KeyMaker_turn 100 = .ok (.aload_n 0, 1) := by decide +kernel
theorem d_KeyMaker_turn_101 : decode b_KeyMaker_turn 101 = .ok (.iconst 0, 1) := by decide +kernel
theorem d_KeyMaker_turn_102 : decode b_KeyMaker_turn 102 = .ok (.putfield 108, 3) := by decide +kernel
theorem d_KeyMaker_turn_105 : decode b_KeyMaker_turn 105 = .ok (.return_, 1) := by decide +kernel
theorem d_KeyMaker_foldLastMark_0 : decode b_KeyMaker_foldLastMark 0 = .ok (.aload_n 0, 1) := by decide +kernel
theorem d_KeyMaker_foldLastMark_1 : decode b_KeyMaker_foldLastMark 1 = .ok (.getfield 89, 3) := by decide +kernel
theorem d_KeyMaker_foldLastMark_4 : decode b_KeyMaker_foldLastMark 4 = .ok (.bipush 32, 2) := by decide +kernel
theorem d_KeyMaker_foldLastMark_6 : decode b_KeyMaker_foldLastMark 6 = .ok (.imul, 1) := by decide +kernel
theorem d_KeyMaker_foldLastMark_7 : decode b_KeyMaker_foldLastMark 7 = .ok (.istore_n 1, 1) := by decide +kernel
theorem d_KeyMaker_foldLastMark_8 : decode b_KeyMaker_foldLastMark 8 = .ok (.iconst 0, 1) := by decide +kernel
theorem d_KeyMaker_foldLastMark_9 : decode b_KeyMaker_foldLastMark 9 = .ok (.istore_n 2, 1) := by decide +kernel
theorem d_KeyMaker_foldLastMark_10 : decode b_KeyMaker_foldLastMark 10 = .ok (.iload_n 2, 1) := by decide +kernel
theorem d_KeyMaker_foldLastMark_11 : decode b_KeyMaker_foldLastMark 11 = .ok (.bipush 32, 2) := by decide +kernel
theorem d_KeyMaker_foldLastMark_13 : decode b_KeyMaker_foldLastMark 13 = .ok (.if_icmp .ge 26, 3) := by decide +kernel
theorem d_KeyMaker_foldLastMark_16 : decode b_KeyMaker_foldLastMark 16 = .ok (.aload_n 0, 1) := by decide +kernel
theorem d_KeyMaker_foldLastMark_17 : decode b_KeyMaker_foldLastMark 17 = .ok (.getfield 16, 3) := by decide +kernel
theorem d_KeyMaker_foldLastMark_20 : decode b_KeyMaker_foldLastMark 20 = .ok (.iload_n 1, 1) := by decide +kernel
theorem d_KeyMaker_foldLastMark_21 : decode b_KeyMaker_foldLastMark 21 = .ok (.iload_n 2, 1) := by decide +kernel
theorem d_KeyMaker_foldLastMark_22 : decode b_KeyMaker_foldLastMark 22 = .ok (.iadd, 1) := by decide +kernel
theorem d_KeyMaker_foldLastMark_23 : decode b_KeyMaker_foldLastMark 23 = .ok (.dup2, 1) := by decide +kernel
theorem d_KeyMaker_foldLastMark_24 : decode b_KeyMaker_foldLastMark 24 = .ok (.iaload, 1) := by decide +kernel
theorem d_KeyMaker_foldLastMark_25 : decode b_KeyMaker_foldLastMark 25 = .ok (.aload_n 0, 1) := by decide +kernel
theorem d_KeyMaker_foldLastMark_26 : decode b_KeyMaker_foldLastMark 26 = .ok (.getfield 19, 3) := by decide +kernel
theorem d_KeyMaker_foldLastMark_29 : decode b_KeyMaker_foldLastMark 29 = .ok (.iload_n 2, 1) := by decide +kernel
theorem d_KeyMaker_foldLastMark_30 : decode b_KeyMaker_foldLastMark 30 = .ok (.iaload, 1) := by decide +kernel
theorem d_KeyMaker_foldLastMark_31 : decode b_KeyMaker_foldLastMark 31 = .ok (.ixor, 1) := by decide +kernel
theorem d_KeyMaker_foldLastMark_32 : decode b_KeyMaker_foldLastMark 32 = .ok (.iastore, 1) := by decide +kernel
theorem d_KeyMaker_foldLastMark_33 : decode b_KeyMaker_foldLastMark 33 = .ok (.iinc 2 1, 3) := by decide +kernel
theorem d_KeyMaker_foldLastMark_36 : decode b_KeyMaker_foldLastMark 36 = .ok (.goto (-26), 3) := by decide +kernel
theorem d_KeyMaker_foldLastMark_39 : decode b_KeyMaker_foldLastMark 39 = .ok (.return_, 1) := by decide +kernel

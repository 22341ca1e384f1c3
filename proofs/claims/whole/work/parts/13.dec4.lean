theorem dX4_init_0 : decode cX4_init 0 = .ok (.aload_n 0, 1) := by decide +kernel
theorem dX4_init_1 : decode cX4_init 1 = .ok (.invokespecial 3, 3) := by decide +kernel
theorem dX4_init_4 : decode cX4_init 4 = .ok (.aload_n 0, 1) := by decide +kernel
theorem dX4_init_5 : decode cX4_init 5 = .ok (.bipush 8, 2) := by decide +kernel
theorem dX4_init_7 : decode cX4_init 7 = .ok (.anewarray 9, 3) := by decide +kernel
theorem dX4_init_10 : decode cX4_init 10 = .ok (.putfield 11, 3) := by decide +kernel
theorem dX4_init_13 : decode cX4_init 13 = .ok (.iconst 0, 1) := by decide +kernel
theorem dX4_init_14 : decode cX4_init 14 = .ok (.istore_n 1, 1) := by decide +kernel
theorem dX4_init_15 : decode cX4_init 15 = .ok (.iload_n 1, 1) := by decide +kernel
theorem dX4_init_16 : decode cX4_init 16 = .ok (.bipush 8, 2) := by decide +kernel
theorem dX4_init_18 : decode cX4_init 18 = .ok (.if_icmp .ge 22, 3) := by decide +kernel
theorem dX4_init_21 : decode cX4_init 21 = .ok (.aload_n 0, 1) := by decide +kernel
theorem dX4_init_22 : decode cX4_init 22 = .ok (.getfield 11, 3) := by decide +kernel
theorem dX4_init_25 : decode cX4_init 25 = .ok (.iload_n 1, 1) := by decide +kernel
theorem dX4_init_26 : decode cX4_init 26 = .ok (.new 9, 3) := by decide +kernel
theorem dX4_init_29 : decode cX4_init 29 = .ok (.dup, 1) := by decide +kernel
theorem dX4_init_30 : decode cX4_init 30 = .ok (.invokespecial 15, 3) := by decide +kernel
theorem dX4_init_33 : decode cX4_init 33 = .ok (.aastore, 1) := by decide +kernel
theorem dX4_init_34 : decode cX4_init 34 = .ok (.iinc 1 1, 3) := by decide +kernel
theorem dX4_init_37 : decode cX4_init 37 = .ok (.goto (-22), 3) := by decide +kernel
theorem dX4_init_40 : decode cX4_init 40 = .ok (.aload_n 0, 1) := by decide +kernel
theorem dX4_init_41 : decode cX4_init 41 = .ok (.new 16, 3) := by decide +kernel
theorem dX4_init_44 : decode cX4_init 44 = .ok (.dup, 1) := by decide +kernel
theorem dX4_init_45 : decode cX4_init 45 = .ok (.invokespecial 18, 3) := by decide +kernel
theorem dX4_init_48 : decode cX4_init 48 = .ok (.putfield 19, 3) := by decide +kernel
theorem dX4_init_51 : decode cX4_init 51 = .ok (.aload_n 0, 1) := by decide +kernel
theorem dX4_init_52 : decode cX4_init 52 = .ok (.new 23, 3) := by decide +kernel
theorem dX4_init_55 : decode cX4_init 55 = .ok (.dup, 1) := by decide +kernel
theorem dX4_init_56 : decode cX4_init 56 = .ok (.invokespecial 25, 3) := by decide +kernel
theorem dX4_init_59 : decode cX4_init 59 = .ok (.putfield 26, 3) := by decide +kernel
theorem dX4_init_62 : decode cX4_init 62 = .ok (.aload_n 0, 1) := by decide +kernel
theorem dX4_init_63 : decode cX4_init 63 = .ok (.new 23, 3) := by decide +kernel
theorem dX4_init_66 : decode cX4_init 66 = .ok (.dup, 1) := by decide +kernel
theorem dX4_init_67 : decode cX4_init 67 = .ok (.invokespecial 25, 3) := by decide +kernel
theorem dX4_init_70 : decode cX4_init 70 = .ok (.putfield 30, 3) := by decide +kernel
theorem dX4_init_73 : decode cX4_init 73 = .ok (.aload_n 0, 1) := by decide +kernel
theorem dX4_init_74 : decode cX4_init 74 = .ok (.new 23, 3) := by decide +kernel
theorem dX4_init_77 : decode cX4_init 77 = .ok (.dup, 1) := by decide +kernel
theorem dX4_init_78 : decode cX4_init 78 = .ok (.invokespecial 25, 3) := by decide +kernel
theorem dX4_init_81 : decode cX4_init 81 = .ok (.putfield 33, 3) := by decide +kernel
theorem dX4_init_84 : decode cX4_init 84 = .ok (.aload_n 0, 1) := by decide +kernel
theorem dX4_init_85 : decode cX4_init 85 = .ok (.new 36, 3) := by decide +kernel
theorem dX4_init_88 : decode cX4_init 88 = .ok (.dup, 1) := by decide +kernel
theorem dX4_init_89 : decode cX4_init 89 = .ok (.invokespecial 38, 3) := by decide +kernel
theorem dX4_init_92 : decode cX4_init 92 = .ok (.putfield 39, 3) := by decide +kernel
theorem dX4_init_95 : decode cX4_init 95 = .ok (.return_, 1) := by decide +kernel
theorem dX4_add_0 : decode cX4_add 0 = .ok (.iload_n 1, 1) := by decide +kernel
theorem dX4_add_1 : decode cX4_add 1 = .ok (.invokestatic 43, 3) := by decide +kernel
theorem dX4_add_4 : decode cX4_add 4 = .ok (.ifCond .eq 17, 3) := by decide +kernel
theorem dX4_add_7 : decode cX4_add 7 = .ok (.aload_n 0, 1) := by decide +kernel
theorem dX4_add_8 : decode cX4_add 8 = .ok (.getfield 11, 3) := by decide +kernel
theorem dX4_add_11 : decode cX4_add 11 = .ok (.iload_n 1, 1) := by decide +kernel
theorem dX4_add_12 : decode cX4_add 12 = .ok (.aaload, 1) := by decide +kernel
theorem dX4_add_13 : decode cX4_add 13 = .ok (.getfield 47, 3) := by decide +kernel
theorem dX4_add_16 : decode cX4_add 16 = .ok (.bipush 120, 2) := by decide +kernel
theorem dX4_add_18 : decode cX4_add 18 = .ok (.if_icmp .lt 5, 3) := by decide +kernel
theorem dX4_add_21 : decode cX4_add 21 = .ok (.iconst (-1), 1) := by decide +kernel
theorem dX4_add_22 : decode cX4_add 22 = .ok (.ireturn, 1) := by decide +kernel
theorem dX4_add_23 : decode cX4_add 23 = .ok (.aload_n 0, 1) := by decide +kernel
theorem dX4_add_24 : decode cX4_add 24 = .ok (.getfield 11, 3) := by decide +kernel
theorem dX4_add_27 : decode cX4_add 27 = .ok (.iload_n 1, 1) := by decide +kernel
theorem dX4_add_28 : decode cX4_add 28 = .ok (.aaload, 1) := by decide +kernel
theorem dX4_add_29 : decode cX4_add 29 = .ok (.iload_n 2, 1) := by decide +kernel
theorem dX4_add_30 : decode cX4_add 30 = .ok (.invokevirtual 51, 3) := by decide +kernel
theorem dX4_add_33 : decode cX4_add 33 = .ok (.aload_n 0, 1) := by decide +kernel
theorem dX4_add_34 : decode cX4_add 34 = .ok (.getfield 11, 3) := by decide +kernel
theorem dX4_add_37 : decode cX4_add 37 = .ok (.iload_n 1, 1) := by decide +kernel
theorem dX4_add_38 : decode cX4_add 38 = .ok (.aaload, 1) := by decide +kernel
theorem dX4_add_39 : decode cX4_add 39 = .ok (.getfield 47, 3) := by decide +kernel
theorem dX4_add_42 : decode cX4_add 42 = .ok (.ireturn, 1) := by decide +kernel
theorem dX4_wipe_0 : decode cX4_wipe 0 = .ok (.iload_n 1, 1) := by decide +kernel
theorem dX4_wipe_1 : decode cX4_wipe 1 = .ok (.invokestatic 43, 3) := by decide +kernel
theorem dX4_wipe_4 : decode cX4_wipe 4 = .ok (.ifCond .ne 5, 3) := by decide +kernel
theorem dX4_wipe_7 : decode cX4_wipe 7 = .ok (.iconst (-1), 1) := by decide +kernel
theorem dX4_wipe_8 : decode cX4_wipe 8 = .ok (.ireturn, 1) := by decide +kernel
theorem dX4_wipe_9 : decode cX4_wipe 9 = .ok (.aload_n 0, 1) := by decide +kernel
theorem dX4_wipe_10 : decode cX4_wipe 10 = .ok (.getfield 11, 3) := by decide +kernel
theorem dX4_wipe_13 : decode cX4_wipe 13 = .ok (.iload_n 1, 1) := by decide +kernel
theorem dX4_wipe_14 : decode cX4_wipe 14 = .ok (.aaload, 1) := by decide +kernel
theorem dX4_wipe_15 : decode cX4_wipe 15 = .ok (.getfield 47, 3) := by decide +kernel
theorem dX4_wipe_18 : decode cX4_wipe 18 = .ok (.istore_n 2, 1) := by decide +kernel
theorem dX4_wipe_19 : decode cX4_wipe 19 = .ok (.aload_n 0, 1) := by decide +kernel
theorem dX4_wipe_20 : decode cX4_wipe 20 = .ok (.getfield 11, 3) := by decide +kernel
theorem dX4_wipe_23 : decode cX4_wipe 23 = .ok (.iload_n 1, 1) := by decide +kernel
theorem dX4_wipe_24 : decode cX4_wipe 24 = .ok (.aaload, 1) := by decide +kernel
theorem dX4_wipe_25 : decode cX4_wipe 25 = .ok (.invokevirtual 55, 3) := by decide +kernel
theorem dX4_wipe_28 : decode cX4_wipe 28 = .ok (.iload_n 2, 1) := by decide +kernel
theorem dX4_wipe_29 : decode cX4_wipe 29 = .ok (.ireturn, 1) := by decide +kernel
theorem dX4_length_0 : decode cX4_length 0 = .ok (.iload_n 1, 1) := by decide +kernel
theorem dX4_length_1 : decode cX4_length 1 = .ok (.invokestatic 43, 3) := by decide +kernel
theorem dX4_length_4 : decode cX4_length 4 = .ok (.ifCond .eq 15, 3) := by decide +kernel
theorem dX4_length_7 : decode cX4_length 7 = .ok (.aload_n 0, 1) := by decide +kernel
theorem dX4_length_8 : decode cX4_length 8 = .ok (.getfield 11, 3) := by decide +kernel
theorem dX4_length_11 : decode cX4_length 11 = .ok (.iload_n 1, 1) := by decide +kernel
theorem dX4_length_12 : decode cX4_length 12 = .ok (.aaload, 1) := by decide +kernel
theorem dX4_length_13 : decode cX4_length 13 = .ok (.getfield 47, 3) := by decide +kernel
theorem dX4_length_16 : decode cX4_length 16 = .ok (.goto 4, 3) := by decide +kernel
theorem dX4_length_19 : decode cX4_length 19 = .ok (.iconst (-1), 1) := by decide +kernel
theorem dX4_length_20 : decode cX4_length 20 = .ok (.ireturn, 1) := by decide +kernel
theorem dX4_number_0 : decode cX4_number 0 = .ok (.aload_n 0, 1) := by decide +kernel
theorem dX4_number_1 : decode cX4_number 1 = .ok (.iload_n 1, 1) := by decide +kernel
theorem dX4_number_2 : decode cX4_number 2 = .ok (.invokevirtual 58, 3) := by decide +kernel
theorem dX4_number_5 : decode cX4_number 5 = .ok (.astore_n 3, 1) := by decide +kernel
theorem dX4_number_6 : decode cX4_number 6 = .ok (.iload_n 2, 1) := by decide +kernel
theorem dX4_number_7 : decode cX4_number 7 = .ok (.ifCond .lt 11, 3) := by decide +kernel
theorem dX4_number_10 : decode cX4_number 10 = .ok (.iload_n 2, 1) := by decide +kernel
theorem dX4_number_11 : decode cX4_number 11 = .ok (.aload_n 3, 1) := by decide +kernel
theorem dX4_number_12 : decode cX4_number 12 = .ok (.getfield 47, 3) := by decide +kernel
theorem dX4_number_15 : decode cX4_number 15 = .ok (.if_icmp .lt 13, 3) := by decide +kernel
theorem dX4_number_18 : decode cX4_number 18 = .ok (.new 62, 3) := by decide +kernel
theorem dX4_number_21 : decode cX4_number 21 = .ok (.dup, 1) := by decide +kernel
theorem dX4_number_22 : decode cX4_number 22 = .ok (.ldc 64, 2) := by decide +kernel
theorem dX4_number_24 : decode cX4_number 24 = .ok (.invokespecial 66, 3) := by decide +kernel
theorem dX4_number_27 : decode cX4_number 27 = .ok (.athrow, 1) := by decide +kernel
theorem dX4_number_28 : decode cX4_number 28 = .ok (.aload_n 3, 1) := by decide +kernel
theorem dX4_number_29 : decode cX4_number 29 = .ok (.getfield 69, 3) := by decide +kernel
theorem dX4_number_32 : decode cX4_number 32 = .ok (.iload_n 2, 1) := by decide +kernel
theorem dX4_number_33 : decode cX4_number 33 = .ok (.iaload, 1) := by decide +kernel
theorem dX4_number_34 : decode cX4_number 34 = .ok (.ireturn, 1) := by decide +kernel
theorem dX4_diff_0 : decode cX4_diff 0 = .ok (.aload_n 0, 1) := by decide +kernel
theorem dX4_diff_1 : decode cX4_diff 1 = .ok (.iload_n 1, 1) := by decide +kernel
theorem dX4_diff_2 : decode cX4_diff 2 = .ok (.invokevirtual 58, 3) := by decide +kernel
theorem dX4_diff_5 : decode cX4_diff 5 = .ok (.astore_n 3, 1) := by decide +kernel
theorem dX4_diff_6 : decode cX4_diff 6 = .ok (.aload_n 0, 1) := by decide +kernel
theorem dX4_diff_7 : decode cX4_diff 7 = .ok (.iload_n 2, 1) := by decide +kernel
theorem dX4_diff_8 : decode cX4_diff 8 = .ok (.invokevirtual 58, 3) := by decide +kernel
theorem dX4_diff_11 : decode cX4_diff 11 = .ok (.astore 4, 2) := by decide +kernel
theorem dX4_diff_13 : decode cX4_diff 13 = .ok (.aload_n 0, 1) := by decide +kernel
theorem dX4_diff_14 : decode cX4_diff 14 = .ok (.getfield 19, 3) := by decide +kernel
theorem dX4_diff_17 : decode cX4_diff 17 = .ok (.aload_n 3, 1) := by decide +kernel
theorem dX4_diff_18 : decode cX4_diff 18 = .ok (.aload 4, 2) := by decide +kernel
theorem dX4_diff_20 : decode cX4_diff 20 = .ok (.aload_n 0, 1) := by decide +kernel
theorem dX4_diff_21 : decode cX4_diff 21 = .ok (.getfield 26, 3) := by decide +kernel
theorem dX4_diff_24 : decode cX4_diff 24 = .ok (.invokevirtual 73, 3) := by decide +kernel
theorem dX4_diff_27 : decode cX4_diff 27 = .ok (.istore 5, 2) := by decide +kernel
theorem dX4_diff_29 : decode cX4_diff 29 = .ok (.iload 5, 2) := by decide +kernel
theorem dX4_diff_31 : decode cX4_diff 31 = .ok (.bipush 100, 2) := by decide +kernel
theorem dX4_diff_33 : decode cX4_diff 33 = .ok (.if_icmp .le 13, 3) := by decide +kernel
theorem dX4_diff_36 : decode cX4_diff 36 = .ok (.new 77, 3) := by decide +kernel
theorem dX4_diff_39 : decode cX4_diff 39 = .ok (.dup, 1) := by decide +kernel
theorem dX4_diff_40 : decode cX4_diff 40 = .ok (.ldc 79, 2) := by decide +kernel
theorem dX4_diff_42 : decode cX4_diff 42 = .ok (.invokespecial 81, 3) := by decide +kernel
theorem dX4_diff_45 : decode cX4_diff 45 = .ok (.athrow, 1) := by decide +kernel
theorem dX4_diff_46 : decode cX4_diff 46 = .ok (.iload 5, 2) := by decide +kernel
theorem dX4_diff_48 : decode cX4_diff 48 = .ok (.ireturn, 1) := by decide +kernel
theorem dX4_steps_0 : decode cX4_steps 0 = .ok (.aload_n 0, 1) := by decide +kernel
theorem dX4_steps_1 : decode cX4_steps 1 = .ok (.getfield 26, 3) := by decide +kernel
theorem dX4_steps_4 : decode cX4_steps 4 = .ok (.getfield 82, 3) := by decide +kernel
theorem dX4_steps_7 : decode cX4_steps 7 = .ok (.ireturn, 1) := by decide +kernel
theorem dX4_step_0 : decode cX4_step 0 = .ok (.iload_n 1, 1) := by decide +kernel
theorem dX4_step_1 : decode cX4_step 1 = .ok (.ifCond .lt 14, 3) := by decide +kernel
theorem dX4_step_4 : decode cX4_step 4 = .ok (.iload_n 1, 1) := by decide +kernel
theorem dX4_step_5 : decode cX4_step 5 = .ok (.aload_n 0, 1) := by decide +kernel
theorem dX4_step_6 : decode cX4_step 6 = .ok (.getfield 26, 3) := by decide +kernel
theorem dX4_step_9 : decode cX4_step 9 = .ok (.getfield 82, 3) := by decide +kernel
theorem dX4_step_12 : decode cX4_step 12 = .ok (.if_icmp .lt 13, 3) := by decide +kernel
theorem dX4_step_15 : decode cX4_step 15 = .ok (.new 62, 3) := by decide +kernel
theorem dX4_step_18 : decode cX4_step 18 = .ok (.dup, 1) := by decide +kernel
theorem dX4_step_19 : decode cX4_step 19 = .ok (.ldc 83, 2) := by decide +kernel
theorem dX4_step_21 : decode cX4_step 21 = .ok (.invokespecial 66, 3) := by decide +kernel
theorem dX4_step_24 : decode cX4_step 24 = .ok (.athrow, 1) := by decide +kernel
theorem dX4_step_25 : decode cX4_step 25 = .ok (.iload_n 2, 1) := by decide +kernel
theorem dX4_step_26 : decode cX4_step 26 = .ok (.tableswitch 70 0 3 #[30, 40, 50, 60], 30) := by decide +kernel
theorem dX4_step_56 : decode cX4_step 56 = .ok (.aload_n 0, 1) := by decide +kernel
theorem dX4_step_57 : decode cX4_step 57 = .ok (.getfield 26, 3) := by decide +kernel
theorem dX4_step_60 : decode cX4_step 60 = .ok (.getfield 85, 3) := by decide +kernel
theorem dX4_step_63 : decode cX4_step 63 = .ok (.iload_n 1, 1) := by decide +kernel
theorem dX4_step_64 : decode cX4_step 64 = .ok (.iaload, 1) := by decide +kernel
theorem dX4_step_65 : decode cX4_step 65 = .ok (.ireturn, 1) := by decide +kernel
theorem dX4_step_66 : decode cX4_step 66 = .ok (.aload_n 0, 1) := by decide +kernel
theorem dX4_step_67 : decode cX4_step 67 = .ok (.getfield 26, 3) := by decide +kernel
theorem dX4_step_70 : decode cX4_step 70 = .ok (.getfield 88, 3) := by decide +kernel
theorem dX4_step_73 : decode cX4_step 73 = .ok (.iload_n 1, 1) := by decide +kernel
theorem dX4_step_74 : decode cX4_step 74 = .ok (.iaload, 1) := by decide +kernel
theorem dX4_step_75 : decode cX4_step 75 = .ok (.ireturn, 1) := by decide +kernel
theorem dX4_step_76 : decode cX4_step 76 = .ok (.aload_n 0, 1) := by decide +kernel
theorem dX4_step_77 : decode cX4_step 77 = .ok (.getfield 26, 3) := by decide +kernel
theorem dX4_step_80 : decode cX4_step 80 = .ok (.getfield 91, 3) := by decide +kernel
theorem dX4_step_83 : decode cX4_step 83 = .ok (.iload_n 1, 1) := by decide +kernel
theorem dX4_step_84 : decode cX4_step 84 = .ok (.iaload, 1) := by decide +kernel
theorem dX4_step_85 : decode cX4_step 85 = .ok (.ireturn, 1) := by decide +kernel
theorem dX4_step_86 : decode cX4_step 86 = .ok (.aload_n 0, 1) := by decide +kernel
theorem dX4_step_87 : decode cX4_step 87 = .ok (.getfield 26, 3) := by decide +kernel
theorem dX4_step_90 : decode cX4_step 90 = .ok (.getfield 94, 3) := by decide +kernel
theorem dX4_step_93 : decode cX4_step 93 = .ok (.iload_n 1, 1) := by decide +kernel
theorem dX4_step_94 : decode cX4_step 94 = .ok (.iaload, 1) := by decide +kernel
theorem dX4_step_95 : decode cX4_step 95 = .ok (.ireturn, 1) := by decide +kernel
theorem dX4_step_96 : decode cX4_step 96 = .ok (.new 95, 3) := by decide +kernel
theorem dX4_step_99 : decode cX4_step 99 = .ok (.dup, 1) := by decide +kernel
theorem dX4_step_100 : decode cX4_step 100 = .ok (.ldc 97, 2) := by decide +kernel
theorem dX4_step_102 : decode cX4_step 102 = .ok (.invokespecial 99, 3) := by decide +kernel
theorem dX4_step_105 : decode cX4_step 105 = .ok (.athrow, 1) := by decide +kernel
theorem dX4_hunks_0 : decode cX4_hunks 0 = .ok (.aload_n 0, 1) := by decide +kernel
theorem dX4_hunks_1 : decode cX4_hunks 1 = .ok (.getfield 26, 3) := by decide +kernel
theorem dX4_hunks_4 : decode cX4_hunks 4 = .ok (.getfield 82, 3) := by decide +kernel
theorem dX4_hunks_7 : decode cX4_hunks 7 = .ok (.iconst (-1), 1) := by decide +kernel
theorem dX4_hunks_8 : decode cX4_hunks 8 = .ok (.if_icmp .ne 7, 3) := by decide +kernel
theorem dX4_hunks_11 : decode cX4_hunks 11 = .ok (.iconst (-1), 1) := by decide +kernel
theorem dX4_hunks_12 : decode cX4_hunks 12 = .ok (.goto 10, 3) := by decide +kernel
theorem dX4_hunks_15 : decode cX4_hunks 15 = .ok (.aload_n 0, 1) := by decide +kernel
theorem dX4_hunks_16 : decode cX4_hunks 16 = .ok (.getfield 26, 3) := by decide +kernel
theorem dX4_hunks_19 : decode cX4_hunks 19 = .ok (.invokevirtual 100, 3) := by decide +kernel
theorem dX4_hunks_22 : decode cX4_hunks 22 = .ok (.ireturn, 1) := by decide +kernel
theorem dX4_hunk_0 : decode cX4_hunk 0 = .ok (.aload_n 0, 1) := by decide +kernel
theorem dX4_hunk_1 : decode cX4_hunk 1 = .ok (.getfield 26, 3) := by decide +kernel
theorem dX4_hunk_4 : decode cX4_hunk 4 = .ok (.iload_n 1, 1) := by decide +kernel
theorem dX4_hunk_5 : decode cX4_hunk 5 = .ok (.invokevirtual 104, 3) := by decide +kernel
theorem dX4_hunk_8 : decode cX4_hunk 8 = .ok (.istore_n 3, 1) := by decide +kernel
theorem dX4_hunk_9 : decode cX4_hunk 9 = .ok (.iload_n 3, 1) := by decide +kernel
theorem dX4_hunk_10 : decode cX4_hunk 10 = .ok (.ifCond .lt 14, 3) := by decide +kernel
theorem dX4_hunk_13 : decode cX4_hunk 13 = .ok (.iload_n 3, 1) := by decide +kernel
theorem dX4_hunk_14 : decode cX4_hunk 14 = .ok (.aload_n 0, 1) := by decide +kernel
theorem dX4_hunk_15 : decode cX4_hunk 15 = .ok (.getfield 26, 3) := by decide +kernel
theorem dX4_hunk_18 : decode cX4_hunk 18 = .ok (.getfield 82, 3) := by decide +kernel
theorem dX4_hunk_21 : decode cX4_hunk 21 = .ok (.if_icmp .lt 13, 3) := by decide +kernel
theorem dX4_hunk_24 : decode cX4_hunk 24 = .ok (.new 62, 3) := by decide +kernel
theorem dX4_hunk_27 : decode cX4_hunk 27 = .ok (.dup, 1) := by decide +kernel
theorem dX4_hunk_28 : decode cX4_hunk 28 = .ok (.ldc 108, 2) := by decide +kernel
theorem dX4_hunk_30 : decode cX4_hunk 30 = .ok (.invokespecial 66, 3) := by decide +kernel
theorem dX4_hunk_33 : decode cX4_hunk 33 = .ok (.athrow, 1) := by decide +kernel
theorem dX4_hunk_34 : decode cX4_hunk 34 = .ok (.iload_n 2, 1) := by decide +kernel
theorem dX4_hunk_35 : decode cX4_hunk 35 = .ok (.tableswitch 69 0 3 #[29, 39, 49, 59], 29) := by decide +kernel
theorem dX4_hunk_64 : decode cX4_hunk 64 = .ok (.aload_n 0, 1) := by decide +kernel
theorem dX4_hunk_65 : decode cX4_hunk 65 = .ok (.getfield 26, 3) := by decide +kernel
theorem dX4_hunk_68 : decode cX4_hunk 68 = .ok (.getfield 88, 3) := by decide +kernel
theorem dX4_hunk_71 : decode cX4_hunk 71 = .ok (.iload_n 3, 1) := by decide +kernel
theorem dX4_hunk_72 : decode cX4_hunk 72 = .ok (.iaload, 1) := by decide +kernel
theorem dX4_hunk_73 : decode cX4_hunk 73 = .ok (.ireturn, 1) := by decide +kernel
theorem dX4_hunk_74 : decode cX4_hunk 74 = .ok (.aload_n 0, 1) := by decide +kernel
theorem dX4_hunk_75 : decode cX4_hunk 75 = .ok (.getfield 26, 3) := by decide +kernel
theorem dX4_hunk_78 : decode cX4_hunk 78 = .ok (.getfield 91, 3) := by decide +kernel
theorem dX4_hunk_81 : decode cX4_hunk 81 = .ok (.iload_n 3, 1) := by decide +kernel
theorem dX4_hunk_82 : decode cX4_hunk 82 = .ok (.iaload, 1) := by decide +kernel
theorem dX4_hunk_83 : decode cX4_hunk 83 = .ok (.ireturn, 1) := by decide +kernel
theorem dX4_hunk_84 : decode cX4_hunk 84 = .ok (.aload_n 0, 1) := by decide +kernel
theorem dX4_hunk_85 : decode cX4_hunk 85 = .ok (.getfield 26, 3) := by decide +kernel
theorem dX4_hunk_88 : decode cX4_hunk 88 = .ok (.iload_n 3, 1) := by decide +kernel
theorem dX4_hunk_89 : decode cX4_hunk 89 = .ok (.iconst 1, 1) := by decide +kernel
theorem dX4_hunk_90 : decode cX4_hunk 90 = .ok (.invokevirtual 110, 3) := by decide +kernel
theorem dX4_hunk_93 : decode cX4_hunk 93 = .ok (.ireturn, 1) := by decide +kernel
theorem dX4_hunk_94 : decode cX4_hunk 94 = .ok (.aload_n 0, 1) := by decide +kernel
theorem dX4_hunk_95 : decode cX4_hunk 95 = .ok (.getfield 26, 3) := by decide +kernel
theorem dX4_hunk_98 : decode cX4_hunk 98 = .ok (.iload_n 3, 1) := by decide +kernel
theorem dX4_hunk_99 : decode cX4_hunk 99 = .ok (.iconst 2, 1) := by decide +kernel
theorem dX4_hunk_100 : decode cX4_hunk 100 = .ok (.invokevirtual 110, 3) := by decide +kernel
theorem dX4_hunk_103 : decode cX4_hunk 103 = .ok (.ireturn, 1) := by decide +kernel
theorem dX4_hunk_104 : decode cX4_hunk 104 = .ok (.new 95, 3) := by decide +kernel
theorem dX4_hunk_107 : decode cX4_hunk 107 = .ok (.dup, 1) := by decide +kernel
theorem dX4_hunk_108 : decode cX4_hunk 108 = .ok (.ldc 114, 2) := by decide +kernel
theorem dX4_hunk_110 : decode cX4_hunk 110 = .ok (.invokespecial 99, 3) := by decide +kernel
theorem dX4_hunk_113 : decode cX4_hunk 113 = .ok (.athrow, 1) := by decide +kernel
theorem dX4_apply_0 : decode cX4_apply 0 = .ok (.aload_n 0, 1) := by decide +kernel
theorem dX4_apply_1 : decode cX4_apply 1 = .ok (.iload_n 1, 1) := by decide +kernel
theorem dX4_apply_2 : decode cX4_apply 2 = .ok (.invokevirtual 58, 3) := by decide +kernel
theorem dX4_apply_5 : decode cX4_apply 5 = .ok (.astore 4, 2) := by decide +kernel
theorem dX4_apply_7 : decode cX4_apply 7 = .ok (.aload_n 0, 1) := by decide +kernel
theorem dX4_apply_8 : decode cX4_apply 8 = .ok (.iload_n 2, 1) := by decide +kernel
theorem dX4_apply_9 : decode cX4_apply 9 = .ok (.invokevirtual 58, 3) := by decide +kernel
theorem dX4_apply_12 : decode cX4_apply 12 = .ok (.astore 5, 2) := by decide +kernel
theorem dX4_apply_14 : decode cX4_apply 14 = .ok (.aload_n 0, 1) := by decide +kernel
theorem dX4_apply_15 : decode cX4_apply 15 = .ok (.getfield 26, 3) := by decide +kernel
theorem dX4_apply_18 : decode cX4_apply 18 = .ok (.getfield 82, 3) := by decide +kernel
theorem dX4_apply_21 : decode cX4_apply 21 = .ok (.iconst (-1), 1) := by decide +kernel
theorem dX4_apply_22 : decode cX4_apply 22 = .ok (.if_icmp .ne 13, 3) := by decide +kernel
theorem dX4_apply_25 : decode cX4_apply 25 = .ok (.new 77, 3) := by decide +kernel
theorem dX4_apply_28 : decode cX4_apply 28 = .ok (.dup, 1) := by decide +kernel
theorem dX4_apply_29 : decode cX4_apply 29 = .ok (.ldc 116, 2) := by decide +kernel
theorem dX4_apply_31 : decode cX4_apply 31 = .ok (.invokespecial 81, 3) := by decide +kernel
theorem dX4_apply_34 : decode cX4_apply 34 = .ok (.athrow, 1) := by decide +kernel
theorem dX4_apply_35 : decode cX4_apply 35 = .ok (.iload_n 3, 1) := by decide +kernel
theorem dX4_apply_36 : decode cX4_apply 36 = .ok (.ifCond .eq 7, 3) := by decide +kernel
theorem dX4_apply_39 : decode cX4_apply 39 = .ok (.iconst 1, 1) := by decide +kernel
theorem dX4_apply_40 : decode cX4_apply 40 = .ok (.goto 4, 3) := by decide +kernel
theorem dX4_apply_43 : decode cX4_apply 43 = .ok (.iconst 2, 1) := by decide +kernel
theorem dX4_apply_44 : decode cX4_apply 44 = .ok (.istore 6, 2) := by decide +kernel
theorem dX4_apply_46 : decode cX4_apply 46 = .ok (.iload_n 3, 1) := by decide +kernel
theorem dX4_apply_47 : decode cX4_apply 47 = .ok (.ifCond .eq 7, 3) := by decide +kernel
theorem dX4_apply_50 : decode cX4_apply 50 = .ok (.iconst 2, 1) := by decide +kernel
theorem dX4_apply_51 : decode cX4_apply 51 = .ok (.goto 4, 3) := by decide +kernel
theorem dX4_apply_54 : decode cX4_apply 54 = .ok (.iconst 1, 1) := by decide +kernel
theorem dX4_apply_55 : decode cX4_apply 55 = .ok (.istore 7, 2) := by decide +kernel
theorem dX4_apply_57 : decode cX4_apply 57 = .ok (.aload_n 0, 1) := by decide +kernel
theorem dX4_apply_58 : decode cX4_apply 58 = .ok (.getfield 26, 3) := by decide +kernel
theorem dX4_apply_61 : decode cX4_apply 61 = .ok (.aload 4, 2) := by decide +kernel
theorem dX4_apply_63 : decode cX4_apply 63 = .ok (.iload 6, 2) := by decide +kernel
theorem dX4_apply_65 : decode cX4_apply 65 = .ok (.invokevirtual 118, 3) := by decide +kernel
theorem dX4_apply_68 : decode cX4_apply 68 = .ok (.ifCond .ne 13, 3) := by decide +kernel
theorem dX4_apply_71 : decode cX4_apply 71 = .ok (.new 77, 3) := by decide +kernel
theorem dX4_apply_74 : decode cX4_apply 74 = .ok (.dup, 1) := by decide +kernel
theorem dX4_apply_75 : decode cX4_apply 75 = .ok (.ldc 122, 2) := by decide +kernel
theorem dX4_apply_77 : decode cX4_apply 77 = .ok (.invokespecial 81, 3) := by decide +kernel
theorem dX4_apply_80 : decode cX4_apply 80 = .ok (.athrow, 1) := by decide +kernel
theorem dX4_apply_81 : decode cX4_apply 81 = .ok (.aload_n 0, 1) := by decide +kernel
theorem dX4_apply_82 : decode cX4_apply 82 = .ok (.getfield 26, 3) := by decide +kernel
theorem dX4_apply_85 : decode cX4_apply 85 = .ok (.aload 5, 2) := by decide +kernel
theorem dX4_apply_87 : decode cX4_apply 87 = .ok (.iload 7, 2) := by decide +kernel
theorem dX4_apply_89 : decode cX4_apply 89 = .ok (.invokevirtual 124, 3) := by decide +kernel
theorem dX4_apply_92 : decode cX4_apply 92 = .ok (.aload 5, 2) := by decide +kernel
theorem dX4_apply_94 : decode cX4_apply 94 = .ok (.getfield 47, 3) := by decide +kernel
theorem dX4_apply_97 : decode cX4_apply 97 = .ok (.ireturn, 1) := by decide +kernel
theorem dX4_merge_0 : decode cX4_merge 0 = .ok (.aload_n 0, 1) := by decide +kernel
theorem dX4_merge_1 : decode cX4_merge 1 = .ok (.iload_n 1, 1) := by decide +kernel
theorem dX4_merge_2 : decode cX4_merge 2 = .ok (.invokevirtual 58, 3) := by decide +kernel
theorem dX4_merge_5 : decode cX4_merge 5 = .ok (.astore 4, 2) := by decide +kernel
theorem dX4_merge_7 : decode cX4_merge 7 = .ok (.aload_n 0, 1) := by decide +kernel
theorem dX4_merge_8 : decode cX4_merge 8 = .ok (.iload_n 2, 1) := by decide +kernel
theorem dX4_merge_9 : decode cX4_merge 9 = .ok (.invokevirtual 58, 3) := by decide +kernel
theorem dX4_merge_12 : decode cX4_merge 12 = .ok (.astore 5, 2) := by decide +kernel
theorem dX4_merge_14 : decode cX4_merge 14 = .ok (.aload_n 0, 1) := by decide +kernel
theorem dX4_merge_15 : decode cX4_merge 15 = .ok (.iload_n 3, 1) := by decide +kernel
theorem dX4_merge_16 : decode cX4_merge 16 = .ok (.invokevirtual 58, 3) := by decide +kernel
theorem dX4_merge_19 : decode cX4_merge 19 = .ok (.astore 6, 2) := by decide +kernel
theorem dX4_merge_21 : decode cX4_merge 21 = .ok (.aload_n 0, 1) := by decide +kernel
theorem dX4_merge_22 : decode cX4_merge 22 = .ok (.getfield 19, 3) := by decide +kernel
theorem dX4_merge_25 : decode cX4_merge 25 = .ok (.aload 4, 2) := by decide +kernel
theorem dX4_merge_27 : decode cX4_merge 27 = .ok (.aload 5, 2) := by decide +kernel
theorem dX4_merge_29 : decode cX4_merge 29 = .ok (.aload_n 0, 1) := by decide +kernel
theorem dX4_merge_30 : decode cX4_merge 30 = .ok (.getfield 30, 3) := by decide +kernel
theorem dX4_merge_33 : decode cX4_merge 33 = .ok (.invokevirtual 73, 3) := by decide +kernel
theorem dX4_merge_36 : decode cX4_merge 36 = .ok (.bipush 100, 2) := by decide +kernel
theorem dX4_merge_38 : decode cX4_merge 38 = .ok (.if_icmp .gt 23, 3) := by decide +kernel
theorem dX4_merge_41 : decode cX4_merge 41 = .ok (.aload_n 0, 1) := by decide +kernel
theorem dX4_merge_42 : decode cX4_merge 42 = .ok (.getfield 19, 3) := by decide +kernel
theorem dX4_merge_45 : decode cX4_merge 45 = .ok (.aload 4, 2) := by decide +kernel
theorem dX4_merge_47 : decode cX4_merge 47 = .ok (.aload 6, 2) := by decide +kernel
theorem dX4_merge_49 : decode cX4_merge 49 = .ok (.aload_n 0, 1) := by decide +kernel
theorem dX4_merge_50 : decode cX4_merge 50 = .ok (.getfield 33, 3) := by decide +kernel
theorem dX4_merge_53 : decode cX4_merge 53 = .ok (.invokevirtual 73, 3) := by decide +kernel
theorem dX4_merge_56 : decode cX4_merge 56 = .ok (.bipush 100, 2) := by decide +kernel
theorem dX4_merge_58 : decode cX4_merge 58 = .ok (.if_icmp .le 13, 3) := by decide +kernel
theorem dX4_merge_61 : decode cX4_merge 61 = .ok (.new 77, 3) := by decide +kernel
theorem dX4_merge_64 : decode cX4_merge 64 = .ok (.dup, 1) := by decide +kernel
theorem dX4_merge_65 : decode cX4_merge 65 = .ok (.ldc 128, 2) := by decide +kernel
theorem dX4_merge_67 : decode cX4_merge 67 = .ok (.invokespecial 81, 3) := by decide +kernel
theorem dX4_merge_70 : decode cX4_merge 70 = .ok (.athrow, 1) := by decide +kernel
theorem dX4_merge_71 : decode cX4_merge 71 = .ok (.aload_n 0, 1) := by decide +kernel
theorem dX4_merge_72 : decode cX4_merge 72 = .ok (.getfield 39, 3) := by decide +kernel
theorem dX4_merge_75 : decode cX4_merge 75 = .ok (.aload 4, 2) := by decide +kernel
theorem dX4_merge_77 : decode cX4_merge 77 = .ok (.aload_n 0, 1) := by decide +kernel
theorem dX4_merge_78 : decode cX4_merge 78 = .ok (.getfield 30, 3) := by decide +kernel
theorem dX4_merge_81 : decode cX4_merge 81 = .ok (.aload_n 0, 1) := by decide +kernel
theorem dX4_merge_82 : decode cX4_merge 82 = .ok (.getfield 33, 3) := by decide +kernel
theorem dX4_merge_85 : decode cX4_merge 85 = .ok (.invokevirtual 130, 3) := by decide +kernel
theorem dX4_merge_88 : decode cX4_merge 88 = .ok (.aload_n 0, 1) := by decide +kernel
theorem dX4_merge_89 : decode cX4_merge 89 = .ok (.getfield 39, 3) := by decide +kernel
theorem dX4_merge_92 : decode cX4_merge 92 = .ok (.getfield 134, 3) := by decide +kernel
theorem dX4_merge_95 : decode cX4_merge 95 = .ok (.ireturn, 1) := by decide +kernel
theorem dX4_entry_0 : decode cX4_entry 0 = .ok (.iload_n 1, 1) := by decide +kernel
theorem dX4_entry_1 : decode cX4_entry 1 = .ok (.ifCond .lt 14, 3) := by decide +kernel
theorem dX4_entry_4 : decode cX4_entry 4 = .ok (.iload_n 1, 1) := by decide +kernel
theorem dX4_entry_5 : decode cX4_entry 5 = .ok (.aload_n 0, 1) := by decide +kernel
theorem dX4_entry_6 : decode cX4_entry 6 = .ok (.getfield 39, 3) := by decide +kernel
theorem dX4_entry_9 : decode cX4_entry 9 = .ok (.getfield 134, 3) := by decide +kernel
theorem dX4_entry_12 : decode cX4_entry 12 = .ok (.if_icmp .lt 13, 3) := by decide +kernel
theorem dX4_entry_15 : decode cX4_entry 15 = .ok (.new 62, 3) := by decide +kernel
theorem dX4_entry_18 : decode cX4_entry 18 = .ok (.dup, 1) := by decide +kernel
theorem dX4_entry_19 : decode cX4_entry 19 = .ok (.ldc 135, 2) := by decide +kernel
theorem dX4_entry_21 : decode cX4_entry 21 = .ok (.invokespecial 66, 3) := by decide +kernel
theorem dX4_entry_24 : decode cX4_entry 24 = .ok (.athrow, 1) := by decide +kernel
theorem dX4_entry_25 : decode cX4_entry 25 = .ok (.iload_n 2, 1) := by decide +kernel
theorem dX4_entry_26 : decode cX4_entry 26 = .ok (.tableswitch 70 0 3 #[30, 40, 50, 60], 30) := by decide +kernel
theorem dX4_entry_56 : decode cX4_entry 56 = .ok (.aload_n 0, 1) := by decide +kernel
theorem dX4_entry_57 : decode cX4_entry 57 = .ok (.getfield 39, 3) := by decide +kernel
theorem dX4_entry_60 : decode cX4_entry 60 = .ok (.getfield 137, 3) := by decide +kernel
theorem dX4_entry_63 : decode cX4_entry 63 = .ok (.iload_n 1, 1) := by decide +kernel
theorem dX4_entry_64 : decode cX4_entry 64 = .ok (.iaload, 1) := by decide +kernel
theorem dX4_entry_65 : decode cX4_entry 65 = .ok (.ireturn, 1) := by decide +kernel
theorem dX4_entry_66 : decode cX4_entry 66 = .ok (.aload_n 0, 1) := by decide +kernel
theorem dX4_entry_67 : decode cX4_entry 67 = .ok (.getfield 39, 3) := by decide +kernel
theorem dX4_entry_70 : decode cX4_entry 70 = .ok (.getfield 138, 3) := by decide +kernel
theorem dX4_entry_73 : decode cX4_entry 73 = .ok (.iload_n 1, 1) := by decide +kernel
theorem dX4_entry_74 : decode cX4_entry 74 = .ok (.iaload, 1) := by decide +kernel
theorem dX4_entry_75 : decode cX4_entry 75 = .ok (.ireturn, 1) := by decide +kernel
theorem dX4_entry_76 : decode cX4_entry 76 = .ok (.aload_n 0, 1) := by decide +kernel
theorem dX4_entry_77 : decode cX4_entry 77 = .ok (.getfield 39, 3) := by decide +kernel
theorem dX4_entry_80 : decode cX4_entry 80 = .ok (.getfield 141, 3) := by decide +kernel
theorem dX4_entry_83 : decode cX4_entry 83 = .ok (.iload_n 1, 1) := by decide +kernel
theorem dX4_entry_84 : decode cX4_entry 84 = .ok (.iaload, 1) := by decide +kernel
theorem dX4_entry_85 : decode cX4_entry 85 = .ok (.ireturn, 1) := by decide +kernel
theorem dX4_entry_86 : decode cX4_entry 86 = .ok (.aload_n 0, 1) := by decide +kernel
theorem dX4_entry_87 : decode cX4_entry 87 = .ok (.getfield 39, 3) := by decide +kernel
theorem dX4_entry_90 : decode cX4_entry 90 = .ok (.getfield 144, 3) := by decide +kernel
theorem dX4_entry_93 : decode cX4_entry 93 = .ok (.iload_n 1, 1) := by decide +kernel
theorem dX4_entry_94 : decode cX4_entry 94 = .ok (.iaload, 1) := by decide +kernel
theorem dX4_entry_95 : decode cX4_entry 95 = .ok (.ireturn, 1) := by decide +kernel
theorem dX4_entry_96 : decode cX4_entry 96 = .ok (.new 95, 3) := by decide +kernel
theorem dX4_entry_99 : decode cX4_entry 99 = .ok (.dup, 1) := by decide +kernel
theorem dX4_entry_100 : decode cX4_entry 100 = .ok (.ldc 147, 2) := by decide +kernel
theorem dX4_entry_102 : decode cX4_entry 102 = .ok (.invokespecial 99, 3) := by decide +kernel
theorem dX4_entry_105 : decode cX4_entry 105 = .ok (.athrow, 1) := by decide +kernel
theorem dX4_conflicts_0 : decode cX4_conflicts 0 = .ok (.aload_n 0, 1) := by decide +kernel
theorem dX4_conflicts_1 : decode cX4_conflicts 1 = .ok (.getfield 39, 3) := by decide +kernel
theorem dX4_conflicts_4 : decode cX4_conflicts 4 = .ok (.getfield 134, 3) := by decide +kernel
theorem dX4_conflicts_7 : decode cX4_conflicts 7 = .ok (.iconst (-1), 1) := by decide +kernel
theorem dX4_conflicts_8 : decode cX4_conflicts 8 = .ok (.if_icmp .ne 7, 3) := by decide +kernel
theorem dX4_conflicts_11 : decode cX4_conflicts 11 = .ok (.iconst (-1), 1) := by decide +kernel
theorem dX4_conflicts_12 : decode cX4_conflicts 12 = .ok (.goto 10, 3) := by decide +kernel
theorem dX4_conflicts_15 : decode cX4_conflicts 15 = .ok (.aload_n 0, 1) := by decide +kernel
theorem dX4_conflicts_16 : decode cX4_conflicts 16 = .ok (.getfield 39, 3) := by decide +kernel
theorem dX4_conflicts_19 : decode cX4_conflicts 19 = .ok (.getfield 149, 3) := by decide +kernel
theorem dX4_conflicts_22 : decode cX4_conflicts 22 = .ok (.ireturn, 1) := by decide +kernel
theorem dX4_see_0 : decode cX4_see 0 = .ok (.aload_n 0, 1) := by decide +kernel
theorem dX4_see_1 : decode cX4_see 1 = .ok (.iload_n 2, 1) := by decide +kernel
theorem dX4_see_2 : decode cX4_see 2 = .ok (.invokevirtual 58, 3) := by decide +kernel
theorem dX4_see_5 : decode cX4_see 5 = .ok (.astore_n 3, 1) := by decide +kernel
theorem dX4_see_6 : decode cX4_see 6 = .ok (.iload_n 1, 1) := by decide +kernel
theorem dX4_see_7 : decode cX4_see 7 = .ok (.ifCond .lt 8, 3) := by decide +kernel
theorem dX4_see_10 : decode cX4_see 10 = .ok (.iload_n 1, 1) := by decide +kernel
theorem dX4_see_11 : decode cX4_see 11 = .ok (.iconst 3, 1) := by decide +kernel
theorem dX4_see_12 : decode cX4_see 12 = .ok (.if_icmp .le 13, 3) := by decide +kernel
theorem dX4_see_15 : decode cX4_see 15 = .ok (.new 95, 3) := by decide +kernel
theorem dX4_see_18 : decode cX4_see 18 = .ok (.dup, 1) := by decide +kernel
theorem dX4_see_19 : decode cX4_see 19 = .ok (.ldc 152, 2) := by decide +kernel
theorem dX4_see_21 : decode cX4_see 21 = .ok (.invokespecial 99, 3) := by decide +kernel
theorem dX4_see_24 : decode cX4_see 24 = .ok (.athrow, 1) := by decide +kernel
theorem dX4_see_25 : decode cX4_see 25 = .ok (.aload_n 0, 1) := by decide +kernel
theorem dX4_see_26 : decode cX4_see 26 = .ok (.getfield 39, 3) := by decide +kernel
theorem dX4_see_29 : decode cX4_see 29 = .ok (.getfield 134, 3) := by decide +kernel
theorem dX4_see_32 : decode cX4_see 32 = .ok (.iconst (-1), 1) := by decide +kernel
theorem dX4_see_33 : decode cX4_see 33 = .ok (.if_icmp .ne 13, 3) := by decide +kernel
theorem dX4_see_36 : decode cX4_see 36 = .ok (.new 77, 3) := by decide +kernel
theorem dX4_see_39 : decode cX4_see 39 = .ok (.dup, 1) := by decide +kernel
theorem dX4_see_40 : decode cX4_see 40 = .ok (.ldc 154, 2) := by decide +kernel
theorem dX4_see_42 : decode cX4_see 42 = .ok (.invokespecial 81, 3) := by decide +kernel
theorem dX4_see_45 : decode cX4_see 45 = .ok (.athrow, 1) := by decide +kernel
theorem dX4_see_46 : decode cX4_see 46 = .ok (.aload_n 0, 1) := by decide +kernel
theorem dX4_see_47 : decode cX4_see 47 = .ok (.getfield 39, 3) := by decide +kernel
theorem dX4_see_50 : decode cX4_see 50 = .ok (.iload_n 1, 1) := by decide +kernel
theorem dX4_see_51 : decode cX4_see 51 = .ok (.invokevirtual 156, 3) := by decide +kernel
theorem dX4_see_54 : decode cX4_see 54 = .ok (.bipush 120, 2) := by decide +kernel
theorem dX4_see_56 : decode cX4_see 56 = .ok (.if_icmp .le 13, 3) := by decide +kernel
theorem dX4_see_59 : decode cX4_see 59 = .ok (.new 77, 3) := by decide +kernel
theorem dX4_see_62 : decode cX4_see 62 = .ok (.dup, 1) := by decide +kernel
theorem dX4_see_63 : decode cX4_see 63 = .ok (.ldc 159, 2) := by decide +kernel
theorem dX4_see_65 : decode cX4_see 65 = .ok (.invokespecial 81, 3) := by decide +kernel
theorem dX4_see_68 : decode cX4_see 68 = .ok (.athrow, 1) := by decide +kernel
theorem dX4_see_69 : decode cX4_see 69 = .ok (.aload_n 0, 1) := by decide +kernel
theorem dX4_see_70 : decode cX4_see 70 = .ok (.getfield 39, 3) := by decide +kernel
theorem dX4_see_73 : decode cX4_see 73 = .ok (.aload_n 3, 1) := by decide +kernel
theorem dX4_see_74 : decode cX4_see 74 = .ok (.iload_n 1, 1) := by decide +kernel
theorem dX4_see_75 : decode cX4_see 75 = .ok (.invokevirtual 161, 3) := by decide +kernel
theorem dX4_see_78 : decode cX4_see 78 = .ok (.aload_n 3, 1) := by decide +kernel
theorem dX4_see_79 : decode cX4_see 79 = .ok (.getfield 47, 3) := by decide +kernel
theorem dX4_see_82 : decode cX4_see 82 = .ok (.ireturn, 1) := by decide +kernel
theorem dX4_isRow_0 : decode cX4_isRow 0 = .ok (.iload_n 0, 1) := by decide +kernel
theorem dX4_isRow_1 : decode cX4_isRow 1 = .ok (.ifCond .lt 13, 3) := by decide +kernel
theorem dX4_isRow_4 : decode cX4_isRow 4 = .ok (.iload_n 0, 1) := by decide +kernel
theorem dX4_isRow_5 : decode cX4_isRow 5 = .ok (.bipush 8, 2) := by decide +kernel
theorem dX4_isRow_7 : decode cX4_isRow 7 = .ok (.if_icmp .ge 7, 3) := by decide +kernel
theorem dX4_isRow_10 : decode cX4_isRow 10 = .ok (.iconst 1, 1) := by decide +kernel
theorem dX4_isRow_11 : decode cX4_isRow 11 = .ok (.goto 4, 3) := by decide +kernel
theorem dX4_isRow_14 : decode cX4_isRow 14 = .ok (.iconst 0, 1) := by decide +kernel
theorem dX4_isRow_15 : decode cX4_isRow 15 = .ok (.ireturn, 1) := by decide +kernel
theorem dX4_existingRow_0 : decode cX4_existingRow 0 = .ok (.iload_n 1, 1) := by decide +kernel
theorem dX4_existingRow_1 : decode cX4_existingRow 1 = .ok (.invokestatic 43, 3) := by decide +kernel
theorem dX4_existingRow_4 : decode cX4_existingRow 4 = .ok (.ifCond .ne 13, 3) := by decide +kernel
theorem dX4_existingRow_7 : decode cX4_existingRow 7 = .ok (.new 62, 3) := by decide +kernel
theorem dX4_existingRow_10 : decode cX4_existingRow 10 = .ok (.dup, 1) := by decide +kernel
theorem dX4_existingRow_11 : decode cX4_existingRow 11 = .ok (.ldc 164, 2) := by decide +kernel
theorem dX4_existingRow_13 : decode cX4_existingRow 13 = .ok (.invokespecial 66, 3) := by decide +kernel
theorem dX4_existingRow_16 : decode cX4_existingRow 16 = .ok (.athrow, 1) := by decide +kernel
theorem dX4_existingRow_17 : decode cX4_existingRow 17 = .ok (.aload_n 0, 1) := by decide +kernel
theorem dX4_existingRow_18 : decode cX4_existingRow 18 = .ok (.getfield 11, 3) := by decide +kernel
theorem dX4_existingRow_21 : decode cX4_existingRow 21 = .ok (.iload_n 1, 1) := by decide +kernel
theorem dX4_existingRow_22 : decode cX4_existingRow 22 = .ok (.aaload, 1) := by decide +kernel
theorem dX4_existingRow_23 : decode cX4_existingRow 23 = .ok (.areturn, 1) := by decide +kernel

theorem dX5_init_0 : decode cX5_init 0 = .ok (.aload_n 0, 1) := by decide +kernel
theorem dX5_init_1 : decode cX5_init 1 = .ok (.invokespecial 1, 3) := by decide +kernel
theorem dX5_init_4 : decode cX5_init 4 = .ok (.aload_n 0, 1) := by decide +kernel
theorem dX5_init_5 : decode cX5_init 5 = .ok (.bipush 8, 2) := by decide +kernel
theorem dX5_init_7 : decode cX5_init 7 = .ok (.newarray .int, 2) := by decide +kernel
theorem dX5_init_9 : decode cX5_init 9 = .ok (.putfield 7, 3) := by decide +kernel
theorem dX5_init_12 : decode cX5_init 12 = .ok (.aload_n 0, 1) := by decide +kernel
theorem dX5_init_13 : decode cX5_init 13 = .ok (.sipush 960, 3) := by decide +kernel
theorem dX5_init_16 : decode cX5_init 16 = .ok (.newarray .int, 2) := by decide +kernel
theorem dX5_init_18 : decode cX5_init 18 = .ok (.putfield 13, 3) := by decide +kernel
theorem dX5_init_21 : decode cX5_init 21 = .ok (.aload_n 0, 1) := by decide +kernel
theorem dX5_init_22 : decode cX5_init 22 = .ok (.sipush 14641, 3) := by decide +kernel
theorem dX5_init_25 : decode cX5_init 25 = .ok (.newarray .short, 2) := by decide +kernel
theorem dX5_init_27 : decode cX5_init 27 = .ok (.putfield 16, 3) := by decide +kernel
theorem dX5_init_30 : decode cX5_init 30 = .ok (.aload_n 0, 1) := by decide +kernel
theorem dX5_init_31 : decode cX5_init 31 = .ok (.iconst (-1), 1) := by decide +kernel
theorem dX5_init_32 : decode cX5_init 32 = .ok (.putfield 20, 3) := by decide +kernel
theorem dX5_init_35 : decode cX5_init 35 = .ok (.aload_n 0, 1) := by decide +kernel
theorem dX5_init_36 : decode cX5_init 36 = .ok (.sipush 240, 3) := by decide +kernel
theorem dX5_init_39 : decode cX5_init 39 = .ok (.newarray .byte, 2) := by decide +kernel
theorem dX5_init_41 : decode cX5_init 41 = .ok (.putfield 24, 3) := by decide +kernel
theorem dX5_init_44 : decode cX5_init 44 = .ok (.aload_n 0, 1) := by decide +kernel
theorem dX5_init_45 : decode cX5_init 45 = .ok (.sipush 240, 3) := by decide +kernel
theorem dX5_init_48 : decode cX5_init 48 = .ok (.newarray .byte, 2) := by decide +kernel
theorem dX5_init_50 : decode cX5_init 50 = .ok (.putfield 28, 3) := by decide +kernel
theorem dX5_init_53 : decode cX5_init 53 = .ok (.aload_n 0, 1) := by decide +kernel
theorem dX5_init_54 : decode cX5_init 54 = .ok (.sipush 240, 3) := by decide +kernel
theorem dX5_init_57 : decode cX5_init 57 = .ok (.newarray .byte, 2) := by decide +kernel
theorem dX5_init_59 : decode cX5_init 59 = .ok (.putfield 31, 3) := by decide +kernel
theorem dX5_init_62 : decode cX5_init 62 = .ok (.aload_n 0, 1) := by decide +kernel
theorem dX5_init_63 : decode cX5_init 63 = .ok (.sipush 240, 3) := by decide +kernel
theorem dX5_init_66 : decode cX5_init 66 = .ok (.newarray .int, 2) := by decide +kernel
theorem dX5_init_68 : decode cX5_init 68 = .ok (.putfield 34, 3) := by decide +kernel
theorem dX5_init_71 : decode cX5_init 71 = .ok (.aload_n 0, 1) := by decide +kernel
theorem dX5_init_72 : decode cX5_init 72 = .ok (.sipush 242, 3) := by decide +kernel
theorem dX5_init_75 : decode cX5_init 75 = .ok (.newarray .byte, 2) := by decide +kernel
theorem dX5_init_77 : decode cX5_init 77 = .ok (.putfield 37, 3) := by decide +kernel
theorem dX5_init_80 : decode cX5_init 80 = .ok (.aload_n 0, 1) := by decide +kernel
theorem dX5_init_81 : decode cX5_init 81 = .ok (.sipush 242, 3) := by decide +kernel
theorem dX5_init_84 : decode cX5_init 84 = .ok (.newarray .byte, 2) := by decide +kernel
theorem dX5_init_86 : decode cX5_init 86 = .ok (.putfield 40, 3) := by decide +kernel
theorem dX5_init_89 : decode cX5_init 89 = .ok (.aload_n 0, 1) := by decide +kernel
theorem dX5_init_90 : decode cX5_init 90 = .ok (.sipush 242, 3) := by decide +kernel
theorem dX5_init_93 : decode cX5_init 93 = .ok (.newarray .boolean, 2) := by decide +kernel
theorem dX5_init_95 : decode cX5_init 95 = .ok (.putfield 43, 3) := by decide +kernel
theorem dX5_init_98 : decode cX5_init 98 = .ok (.aload_n 0, 1) := by decide +kernel
theorem dX5_init_99 : decode cX5_init 99 = .ok (.iconst (-1), 1) := by decide +kernel
theorem dX5_init_100 : decode cX5_init 100 = .ok (.putfield 47, 3) := by decide +kernel
theorem dX5_init_103 : decode cX5_init 103 = .ok (.aload_n 0, 1) := by decide +kernel
theorem dX5_init_104 : decode cX5_init 104 = .ok (.iconst (-1), 1) := by decide +kernel
theorem dX5_init_105 : decode cX5_init 105 = .ok (.putfield 50, 3) := by decide +kernel
theorem dX5_init_108 : decode cX5_init 108 = .ok (.aload_n 0, 1) := by decide +kernel
theorem dX5_init_109 : decode cX5_init 109 = .ok (.sipush 330, 3) := by decide +kernel
theorem dX5_init_112 : decode cX5_init 112 = .ok (.newarray .int, 2) := by decide +kernel
theorem dX5_init_114 : decode cX5_init 114 = .ok (.putfield 53, 3) := by decide +kernel
theorem dX5_init_117 : decode cX5_init 117 = .ok (.aload_n 0, 1) := by decide +kernel
theorem dX5_init_118 : decode cX5_init 118 = .ok (.sipush 330, 3) := by decide +kernel
theorem dX5_init_121 : decode cX5_init 121 = .ok (.newarray .byte, 2) := by decide +kernel
theorem dX5_init_123 : decode cX5_init 123 = .ok (.putfield 56, 3) := by decide +kernel
theorem dX5_init_126 : decode cX5_init 126 = .ok (.aload_n 0, 1) := by decide +kernel
theorem dX5_init_127 : decode cX5_init 127 = .ok (.sipush 330, 3) := by decide +kernel
theorem dX5_init_130 : decode cX5_init 130 = .ok (.newarray .byte, 2) := by decide +kernel
theorem dX5_init_132 : decode cX5_init 132 = .ok (.putfield 59, 3) := by decide +kernel
theorem dX5_init_135 : decode cX5_init 135 = .ok (.aload_n 0, 1) := by decide +kernel
theorem dX5_init_136 : decode cX5_init 136 = .ok (.sipush 330, 3) := by decide +kernel
theorem dX5_init_139 : decode cX5_init 139 = .ok (.newarray .byte, 2) := by decide +kernel
theorem dX5_init_141 : decode cX5_init 141 = .ok (.putfield 62, 3) := by decide +kernel
theorem dX5_init_144 : decode cX5_init 144 = .ok (.aload_n 0, 1) := by decide +kernel
theorem dX5_init_145 : decode cX5_init 145 = .ok (.sipush 330, 3) := by decide +kernel
theorem dX5_init_148 : decode cX5_init 148 = .ok (.newarray .int, 2) := by decide +kernel
theorem dX5_init_150 : decode cX5_init 150 = .ok (.putfield 65, 3) := by decide +kernel
theorem dX5_init_153 : decode cX5_init 153 = .ok (.return_, 1) := by decide +kernel
theorem dX5_thrown_0 : decode cX5_thrown 0 = .ok (.aload_n 0, 1) := by decide +kernel
theorem dX5_thrown_1 : decode cX5_thrown 1 = .ok (.getfield 68, 3) := by decide +kernel
theorem dX5_thrown_4 : decode cX5_thrown 4 = .ok (.ireturn, 1) := by decide +kernel
theorem dX5_raise_0 : decode cX5_raise 0 = .ok (.aload_n 0, 1) := by decide +kernel
theorem dX5_raise_1 : decode cX5_raise 1 = .ok (.iload_n 1, 1) := by decide +kernel
theorem dX5_raise_2 : decode cX5_raise 2 = .ok (.putfield 68, 3) := by decide +kernel
theorem dX5_raise_5 : decode cX5_raise 5 = .ok (.iconst 0, 1) := by decide +kernel
theorem dX5_raise_6 : decode cX5_raise 6 = .ok (.ireturn, 1) := by decide +kernel
theorem dX5_isRow_0 : decode cX5_isRow 0 = .ok (.iload_n 0, 1) := by decide +kernel
theorem dX5_isRow_1 : decode cX5_isRow 1 = .ok (.ifCond .lt 13, 3) := by decide +kernel
theorem dX5_isRow_4 : decode cX5_isRow 4 = .ok (.iload_n 0, 1) := by decide +kernel
theorem dX5_isRow_5 : decode cX5_isRow 5 = .ok (.bipush 8, 2) := by decide +kernel
theorem dX5_isRow_7 : decode cX5_isRow 7 = .ok (.if_icmp .ge 7, 3) := by decide +kernel
theorem dX5_isRow_10 : decode cX5_isRow 10 = .ok (.iconst 1, 1) := by decide +kernel
theorem dX5_isRow_11 : decode cX5_isRow 11 = .ok (.goto 4, 3) := by decide +kernel
theorem dX5_isRow_14 : decode cX5_isRow 14 = .ok (.iconst 0, 1) := by decide +kernel
theorem dX5_isRow_15 : decode cX5_isRow 15 = .ok (.ireturn, 1) := by decide +kernel
theorem dX5_add_0 : decode cX5_add 0 = .ok (.aload_n 0, 1) := by decide +kernel
theorem dX5_add_1 : decode cX5_add 1 = .ok (.iconst 0, 1) := by decide +kernel
theorem dX5_add_2 : decode cX5_add 2 = .ok (.putfield 68, 3) := by decide +kernel
theorem dX5_add_5 : decode cX5_add 5 = .ok (.iload_n 1, 1) := by decide +kernel
theorem dX5_add_6 : decode cX5_add 6 = .ok (.invokestatic 71, 3) := by decide +kernel
theorem dX5_add_9 : decode cX5_add 9 = .ok (.ifCond .eq 14, 3) := by decide +kernel
theorem dX5_add_12 : decode cX5_add 12 = .ok (.aload_n 0, 1) := by decide +kernel
theorem dX5_add_13 : decode cX5_add 13 = .ok (.getfield 7, 3) := by decide +kernel
theorem dX5_add_16 : decode cX5_add 16 = .ok (.iload_n 1, 1) := by decide +kernel
theorem dX5_add_17 : decode cX5_add 17 = .ok (.iaload, 1) := by decide +kernel
theorem dX5_add_18 : decode cX5_add 18 = .ok (.bipush 120, 2) := by decide +kernel
theorem dX5_add_20 : decode cX5_add 20 = .ok (.if_icmp .ne 5, 3) := by decide +kernel
theorem dX5_add_23 : decode cX5_add 23 = .ok (.iconst (-1), 1) := by decide +kernel
theorem dX5_add_24 : decode cX5_add 24 = .ok (.ireturn, 1) := by decide +kernel
theorem dX5_add_25 : decode cX5_add 25 = .ok (.aload_n 0, 1) := by decide +kernel
theorem dX5_add_26 : decode cX5_add 26 = .ok (.getfield 13, 3) := by decide +kernel
theorem dX5_add_29 : decode cX5_add 29 = .ok (.bipush 120, 2) := by decide +kernel
theorem dX5_add_31 : decode cX5_add 31 = .ok (.iload_n 1, 1) := by decide +kernel
theorem dX5_add_32 : decode cX5_add 32 = .ok (.imul, 1) := by decide +kernel
theorem dX5_add_33 : decode cX5_add 33 = .ok (.aload_n 0, 1) := by decide +kernel
theorem dX5_add_34 : decode cX5_add 34 = .ok (.getfield 7, 3) := by decide +kernel
theorem dX5_add_37 : decode cX5_add 37 = .ok (.iload_n 1, 1) := by decide +kernel
theorem dX5_add_38 : decode cX5_add 38 = .ok (.iaload, 1) := by decide +kernel
theorem dX5_add_39 : decode cX5_add 39 = .ok (.iadd, 1) := by decide +kernel
theorem dX5_add_40 : decode cX5_add 40 = .ok (.iload_n 2, 1) := by decide +kernel
theorem dX5_add_41 : decode cX5_add 41 = .ok (.iastore, 1) := by decide +kernel
theorem dX5_add_42 : decode cX5_add 42 = .ok (.aload_n 0, 1) := by decide +kernel
theorem dX5_add_43 : decode cX5_add 43 = .ok (.getfield 7, 3) := by decide +kernel
theorem dX5_add_46 : decode cX5_add 46 = .ok (.iload_n 1, 1) := by decide +kernel
theorem dX5_add_47 : decode cX5_add 47 = .ok (.dup2, 1) := by decide +kernel
theorem dX5_add_48 : decode cX5_add 48 = .ok (.iaload, 1) := by decide +kernel
theorem dX5_add_49 : decode cX5_add 49 = .ok (.iconst 1, 1) := by decide +kernel
theorem dX5_add_50 : decode cX5_add 50 = .ok (.iadd, 1) := by decide +kernel
theorem dX5_add_51 : decode cX5_add 51 = .ok (.iastore, 1) := by decide +kernel
theorem dX5_add_52 : decode cX5_add 52 = .ok (.aload_n 0, 1) := by decide +kernel
theorem dX5_add_53 : decode cX5_add 53 = .ok (.getfield 7, 3) := by decide +kernel
theorem dX5_add_56 : decode cX5_add 56 = .ok (.iload_n 1, 1) := by decide +kernel
theorem dX5_add_57 : decode cX5_add 57 = .ok (.iaload, 1) := by decide +kernel
theorem dX5_add_58 : decode cX5_add 58 = .ok (.ireturn, 1) := by decide +kernel
theorem dX5_wipe_0 : decode cX5_wipe 0 = .ok (.aload_n 0, 1) := by decide +kernel
theorem dX5_wipe_1 : decode cX5_wipe 1 = .ok (.iconst 0, 1) := by decide +kernel
theorem dX5_wipe_2 : decode cX5_wipe 2 = .ok (.putfield 68, 3) := by decide +kernel
theorem dX5_wipe_5 : decode cX5_wipe 5 = .ok (.iload_n 1, 1) := by decide +kernel
theorem dX5_wipe_6 : decode cX5_wipe 6 = .ok (.invokestatic 71, 3) := by decide +kernel
theorem dX5_wipe_9 : decode cX5_wipe 9 = .ok (.ifCond .ne 5, 3) := by decide +kernel
theorem dX5_wipe_12 : decode cX5_wipe 12 = .ok (.iconst (-1), 1) := by decide +kernel
theorem dX5_wipe_13 : decode cX5_wipe 13 = .ok (.ireturn, 1) := by decide +kernel
theorem dX5_wipe_14 : decode cX5_wipe 14 = .ok (.aload_n 0, 1) := by decide +kernel
theorem dX5_wipe_15 : decode cX5_wipe 15 = .ok (.getfield 7, 3) := by decide +kernel
theorem dX5_wipe_18 : decode cX5_wipe 18 = .ok (.iload_n 1, 1) := by decide +kernel
theorem dX5_wipe_19 : decode cX5_wipe 19 = .ok (.iaload, 1) := by decide +kernel
theorem dX5_wipe_20 : decode cX5_wipe 20 = .ok (.istore_n 2, 1) := by decide +kernel
theorem dX5_wipe_21 : decode cX5_wipe 21 = .ok (.aload_n 0, 1) := by decide +kernel
theorem dX5_wipe_22 : decode cX5_wipe 22 = .ok (.getfield 7, 3) := by decide +kernel
theorem dX5_wipe_25 : decode cX5_wipe 25 = .ok (.iload_n 1, 1) := by decide +kernel
theorem dX5_wipe_26 : decode cX5_wipe 26 = .ok (.iconst 0, 1) := by decide +kernel
theorem dX5_wipe_27 : decode cX5_wipe 27 = .ok (.iastore, 1) := by decide +kernel
theorem dX5_wipe_28 : decode cX5_wipe 28 = .ok (.iload_n 2, 1) := by decide +kernel
theorem dX5_wipe_29 : decode cX5_wipe 29 = .ok (.ireturn, 1) := by decide +kernel
theorem dX5_length_0 : decode cX5_length 0 = .ok (.aload_n 0, 1) := by decide +kernel
theorem dX5_length_1 : decode cX5_length 1 = .ok (.iconst 0, 1) := by decide +kernel
theorem dX5_length_2 : decode cX5_length 2 = .ok (.putfield 68, 3) := by decide +kernel
theorem dX5_length_5 : decode cX5_length 5 = .ok (.iload_n 1, 1) := by decide +kernel
theorem dX5_length_6 : decode cX5_length 6 = .ok (.invokestatic 71, 3) := by decide +kernel
theorem dX5_length_9 : decode cX5_length 9 = .ok (.ifCond .eq 12, 3) := by decide +kernel
theorem dX5_length_12 : decode cX5_length 12 = .ok (.aload_n 0, 1) := by decide +kernel
theorem dX5_length_13 : decode cX5_length 13 = .ok (.getfield 7, 3) := by decide +kernel
theorem dX5_length_16 : decode cX5_length 16 = .ok (.iload_n 1, 1) := by decide +kernel
theorem dX5_length_17 : decode cX5_length 17 = .ok (.iaload, 1) := by decide +kernel
theorem dX5_length_18 : decode cX5_length 18 = .ok (.goto 4, 3) := by decide +kernel
theorem dX5_length_21 : decode cX5_length 21 = .ok (.iconst (-1), 1) := by decide +kernel
theorem dX5_length_22 : decode cX5_length 22 = .ok (.ireturn, 1) := by decide +kernel
theorem dX5_number_0 : decode cX5_number 0 = .ok (.aload_n 0, 1) := by decide +kernel
theorem dX5_number_1 : decode cX5_number 1 = .ok (.iload_n 1, 1) := by decide +kernel
theorem dX5_number_2 : decode cX5_number 2 = .ok (.invokestatic 71, 3) := by decide +kernel
theorem dX5_number_5 : decode cX5_number 5 = .ok (.ifCond .eq 17, 3) := by decide +kernel
theorem dX5_number_8 : decode cX5_number 8 = .ok (.iload_n 2, 1) := by decide +kernel
theorem dX5_number_9 : decode cX5_number 9 = .ok (.ifCond .lt 13, 3) := by decide +kernel
theorem dX5_number_12 : decode cX5_number 12 = .ok (.iload_n 2, 1) := by decide +kernel
theorem dX5_number_13 : decode cX5_number 13 = .ok (.aload_n 0, 1) := by decide +kernel
theorem dX5_number_14 : decode cX5_number 14 = .ok (.getfield 7, 3) := by decide +kernel
theorem dX5_number_17 : decode cX5_number 17 = .ok (.iload_n 1, 1) := by decide +kernel
theorem dX5_number_18 : decode cX5_number 18 = .ok (.iaload, 1) := by decide +kernel
theorem dX5_number_19 : decode cX5_number 19 = .ok (.if_icmp .lt 7, 3) := by decide +kernel
theorem dX5_number_22 : decode cX5_number 22 = .ok (.iconst 1, 1) := by decide +kernel
theorem dX5_number_23 : decode cX5_number 23 = .ok (.goto 4, 3) := by decide +kernel
theorem dX5_number_26 : decode cX5_number 26 = .ok (.iconst 0, 1) := by decide +kernel
theorem dX5_number_27 : decode cX5_number 27 = .ok (.putfield 68, 3) := by decide +kernel
theorem dX5_number_30 : decode cX5_number 30 = .ok (.aload_n 0, 1) := by decide +kernel
theorem dX5_number_31 : decode cX5_number 31 = .ok (.getfield 68, 3) := by decide +kernel
theorem dX5_number_34 : decode cX5_number 34 = .ok (.ifCond .le 7, 3) := by decide +kernel
theorem dX5_number_37 : decode cX5_number 37 = .ok (.iconst 0, 1) := by decide +kernel
theorem dX5_number_38 : decode cX5_number 38 = .ok (.goto 14, 3) := by decide +kernel
theorem dX5_number_41 : decode cX5_number 41 = .ok (.aload_n 0, 1) := by decide +kernel
theorem dX5_number_42 : decode cX5_number 42 = .ok (.getfield 13, 3) := by decide +kernel
theorem dX5_number_45 : decode cX5_number 45 = .ok (.bipush 120, 2) := by decide +kernel
theorem dX5_number_47 : decode cX5_number 47 = .ok (.iload_n 1, 1) := by decide +kernel
theorem dX5_number_48 : decode cX5_number 48 = .ok (.imul, 1) := by decide +kernel
theorem dX5_number_49 : decode cX5_number 49 = .ok (.iload_n 2, 1) := by decide +kernel
theorem dX5_number_50 : decode cX5_number 50 = .ok (.iadd, 1) := by decide +kernel
theorem dX5_number_51 : decode cX5_number 51 = .ok (.iaload, 1) := by decide +kernel
theorem dX5_number_52 : decode cX5_number 52 = .ok (.ireturn, 1) := by decide +kernel
theorem dX5_same_0 : decode cX5_same 0 = .ok (.aload_n 0, 1) := by decide +kernel
theorem dX5_same_1 : decode cX5_same 1 = .ok (.getfield 13, 3) := by decide +kernel
theorem dX5_same_4 : decode cX5_same 4 = .ok (.bipush 120, 2) := by decide +kernel
theorem dX5_same_6 : decode cX5_same 6 = .ok (.iload_n 1, 1) := by decide +kernel
theorem dX5_same_7 : decode cX5_same 7 = .ok (.imul, 1) := by decide +kernel
theorem dX5_same_8 : decode cX5_same 8 = .ok (.iload_n 2, 1) := by decide +kernel
theorem dX5_same_9 : decode cX5_same 9 = .ok (.iadd, 1) := by decide +kernel
theorem dX5_same_10 : decode cX5_same 10 = .ok (.iaload, 1) := by decide +kernel
theorem dX5_same_11 : decode cX5_same 11 = .ok (.aload_n 0, 1) := by decide +kernel
theorem dX5_same_12 : decode cX5_same 12 = .ok (.getfield 13, 3) := by decide +kernel
theorem dX5_same_15 : decode cX5_same 15 = .ok (.bipush 120, 2) := by decide +kernel
theorem dX5_same_17 : decode cX5_same 17 = .ok (.iload_n 3, 1) := by decide +kernel
theorem dX5_same_18 : decode cX5_same 18 = .ok (.imul, 1) := by decide +kernel
theorem dX5_same_19 : decode cX5_same 19 = .ok (.iload 4, 2) := by decide +kernel
theorem dX5_same_21 : decode cX5_same 21 = .ok (.iadd, 1) := by decide +kernel
theorem dX5_same_22 : decode cX5_same 22 = .ok (.iaload, 1) := by decide +kernel
theorem dX5_same_23 : decode cX5_same 23 = .ok (.if_icmp .ne 7, 3) := by decide +kernel
theorem dX5_same_26 : decode cX5_same 26 = .ok (.iconst 1, 1) := by decide +kernel
theorem dX5_same_27 : decode cX5_same 27 = .ok (.goto 4, 3) := by decide +kernel
theorem dX5_same_30 : decode cX5_same 30 = .ok (.iconst 0, 1) := by decide +kernel
theorem dX5_same_31 : decode cX5_same 31 = .ok (.ireturn, 1) := by decide +kernel
theorem dX5_measure_0 : decode cX5_measure 0 = .ok (.aload_n 0, 1) := by decide +kernel
theorem dX5_measure_1 : decode cX5_measure 1 = .ok (.getfield 7, 3) := by decide +kernel
theorem dX5_measure_4 : decode cX5_measure 4 = .ok (.iload_n 1, 1) := by decide +kernel
theorem dX5_measure_5 : decode cX5_measure 5 = .ok (.iaload, 1) := by decide +kernel
theorem dX5_measure_6 : decode cX5_measure 6 = .ok (.istore_n 3, 1) := by decide +kernel
theorem dX5_measure_7 : decode cX5_measure 7 = .ok (.iload_n 3, 1) := by decide +kernel
theorem dX5_measure_8 : decode cX5_measure 8 = .ok (.ifCond .lt 181, 3) := by decide +kernel
theorem dX5_measure_11 : decode cX5_measure 11 = .ok (.aload_n 0, 1) := by decide +kernel
theorem dX5_measure_12 : decode cX5_measure 12 = .ok (.getfield 7, 3) := by decide +kernel
theorem dX5_measure_15 : decode cX5_measure 15 = .ok (.iload_n 2, 1) := by decide +kernel
theorem dX5_measure_16 : decode cX5_measure 16 = .ok (.iaload, 1) := by decide +kernel
theorem dX5_measure_17 : decode cX5_measure 17 = .ok (.istore 4, 2) := by decide +kernel
theorem dX5_measure_19 : decode cX5_measure 19 = .ok (.iload 4, 2) := by decide +kernel
theorem dX5_measure_21 : decode cX5_measure 21 = .ok (.ifCond .lt 162, 3) := by decide +kernel
theorem dX5_measure_24 : decode cX5_measure 24 = .ok (.aload_n 0, 1) := by decide +kernel
theorem dX5_measure_25 : decode cX5_measure 25 = .ok (.getfield 7, 3) := by decide +kernel
theorem dX5_measure_28 : decode cX5_measure 28 = .ok (.iload_n 2, 1) := by decide +kernel
theorem dX5_measure_29 : decode cX5_measure 29 = .ok (.iaload, 1) := by decide +kernel
theorem dX5_measure_30 : decode cX5_measure 30 = .ok (.iload 4, 2) := by decide +kernel
theorem dX5_measure_32 : decode cX5_measure 32 = .ok (.isub, 1) := by decide +kernel
theorem dX5_measure_33 : decode cX5_measure 33 = .ok (.istore 5, 2) := by decide +kernel
theorem dX5_measure_35 : decode cX5_measure 35 = .ok (.iload_n 3, 1) := by decide +kernel
theorem dX5_measure_36 : decode cX5_measure 36 = .ok (.aload_n 0, 1) := by decide +kernel
theorem dX5_measure_37 : decode cX5_measure 37 = .ok (.getfield 7, 3) := by decide +kernel
theorem dX5_measure_40 : decode cX5_measure 40 = .ok (.iload_n 1, 1) := by decide +kernel
theorem dX5_measure_41 : decode cX5_measure 41 = .ok (.iaload, 1) := by decide +kernel
theorem dX5_measure_42 : decode cX5_measure 42 = .ok (.if_icmp .ge 27, 3) := by decide +kernel
theorem dX5_measure_45 : decode cX5_measure 45 = .ok (.iload 4, 2) := by decide +kernel
theorem dX5_measure_47 : decode cX5_measure 47 = .ok (.aload_n 0, 1) := by decide +kernel
theorem dX5_measure_48 : decode cX5_measure 48 = .ok (.getfield 7, 3) := by decide +kernel
theorem dX5_measure_51 : decode cX5_measure 51 = .ok (.iload_n 2, 1) := by decide +kernel
theorem dX5_measure_52 : decode cX5_measure 52 = .ok (.iaload, 1) := by decide +kernel
theorem dX5_measure_53 : decode cX5_measure 53 = .ok (.if_icmp .ne 16, 3) := by decide +kernel
theorem dX5_measure_56 : decode cX5_measure 56 = .ok (.aload_n 0, 1) := by decide +kernel
theorem dX5_measure_57 : decode cX5_measure 57 = .ok (.getfield 7, 3) := by decide +kernel
theorem dX5_measure_60 : decode cX5_measure 60 = .ok (.iload_n 1, 1) := by decide +kernel
theorem dX5_measure_61 : decode cX5_measure 61 = .ok (.iaload, 1) := by decide +kernel
theorem dX5_measure_62 : decode cX5_measure 62 = .ok (.iload_n 3, 1) := by decide +kernel
theorem dX5_measure_63 : decode cX5_measure 63 = .ok (.isub, 1) := by decide +kernel
theorem dX5_measure_64 : decode cX5_measure 64 = .ok (.istore 5, 2) := by decide +kernel
theorem dX5_measure_66 : decode cX5_measure 66 = .ok (.goto 96, 3) := by decide +kernel
theorem dX5_measure_69 : decode cX5_measure 69 = .ok (.iload_n 3, 1) := by decide +kernel
theorem dX5_measure_70 : decode cX5_measure 70 = .ok (.aload_n 0, 1) := by decide +kernel
theorem dX5_measure_71 : decode cX5_measure 71 = .ok (.getfield 7, 3) := by decide +kernel
theorem dX5_measure_74 : decode cX5_measure 74 = .ok (.iload_n 1, 1) := by decide +kernel
theorem dX5_measure_75 : decode cX5_measure 75 = .ok (.iaload, 1) := by decide +kernel
theorem dX5_measure_76 : decode cX5_measure 76 = .ok (.if_icmp .ge 86, 3) := by decide +kernel
theorem dX5_measure_79 : decode cX5_measure 79 = .ok (.iconst 1, 1) := by decide +kernel
theorem dX5_measure_80 : decode cX5_measure 80 = .ok (.aload_n 0, 1) := by decide +kernel
theorem dX5_measure_81 : decode cX5_measure 81 = .ok (.getfield 16, 3) := by decide +kernel
theorem dX5_measure_84 : decode cX5_measure 84 = .ok (.bipush 121, 2) := by decide +kernel
theorem dX5_measure_86 : decode cX5_measure 86 = .ok (.iload_n 3, 1) := by decide +kernel
theorem dX5_measure_87 : decode cX5_measure 87 = .ok (.iconst 1, 1) := by decide +kernel
theorem dX5_measure_88 : decode cX5_measure 88 = .ok (.iadd, 1) := by decide +kernel
theorem dX5_measure_89 : decode cX5_measure 89 = .ok (.imul, 1) := by decide +kernel
theorem dX5_measure_90 : decode cX5_measure 90 = .ok (.iload 4, 2) := by decide +kernel
theorem dX5_measure_92 : decode cX5_measure 92 = .ok (.iadd, 1) := by decide +kernel
theorem dX5_measure_93 : decode cX5_measure 93 = .ok (.saload, 1) := by decide +kernel
theorem dX5_measure_94 : decode cX5_measure 94 = .ok (.iadd, 1) := by decide +kernel
theorem dX5_measure_95 : decode cX5_measure 95 = .ok (.istore 6, 2) := by decide +kernel
theorem dX5_measure_97 : decode cX5_measure 97 = .ok (.iconst 1, 1) := by decide +kernel
theorem dX5_measure_98 : decode cX5_measure 98 = .ok (.aload_n 0, 1) := by decide +kernel
theorem dX5_measure_99 : decode cX5_measure 99 = .ok (.getfield 16, 3) := by decide +kernel
theorem dX5_measure_102 : decode cX5_measure 102 = .ok (.bipush 121, 2) := by decide +kernel
theorem dX5_measure_104 : decode cX5_measure 104 = .ok (.iload_n 3, 1) := by decide +kernel
theorem dX5_measure_105 : decode cX5_measure 105 = .ok (.imul, 1) := by decide +kernel
theorem dX5_measure_106 : decode cX5_measure 106 = .ok (.iload 4, 2) := by decide +kernel
theorem dX5_measure_108 : decode cX5_measure 108 = .ok (.iadd, 1) := by decide +kernel
theorem dX5_measure_109 : decode cX5_measure 109 = .ok (.iconst 1, 1) := by decide +kernel
theorem dX5_measure_110 : decode cX5_measure 110 = .ok (.iadd, 1) := by decide +kernel
theorem dX5_measure_111 : decode cX5_measure 111 = .ok (.saload, 1) := by decide +kernel
theorem dX5_measure_112 : decode cX5_measure 112 = .ok (.iadd, 1) := by decide +kernel
theorem dX5_measure_113 : decode cX5_measure 113 = .ok (.istore 7, 2) := by decide +kernel
theorem dX5_measure_115 : decode cX5_measure 115 = .ok (.aload_n 0, 1) := by decide +kernel
theorem dX5_measure_116 : decode cX5_measure 116 = .ok (.iload_n 1, 1) := by decide +kernel
theorem dX5_measure_117 : decode cX5_measure 117 = .ok (.iload_n 3, 1) := by decide +kernel
theorem dX5_measure_118 : decode cX5_measure 118 = .ok (.iload_n 2, 1) := by decide +kernel
theorem dX5_measure_119 : decode cX5_measure 119 = .ok (.iload 4, 2) := by decide +kernel
theorem dX5_measure_121 : decode cX5_measure 121 = .ok (.invokevirtual 75, 3) := by decide +kernel
theorem dX5_measure_124 : decode cX5_measure 124 = .ok (.ifCond .eq 22, 3) := by decide +kernel
theorem dX5_measure_127 : decode cX5_measure 127 = .ok (.aload_n 0, 1) := by decide +kernel
theorem dX5_measure_128 : decode cX5_measure 128 = .ok (.getfield 16, 3) := by decide +kernel
theorem dX5_measure_131 : decode cX5_measure 131 = .ok (.bipush 121, 2) := by decide +kernel
theorem dX5_measure_133 : decode cX5_measure 133 = .ok (.iload_n 3, 1) := by decide +kernel
theorem dX5_measure_134 : decode cX5_measure 134 = .ok (.iconst 1, 1) := by decide +kernel
theorem dX5_measure_135 : decode cX5_measure 135 = .ok (.iadd, 1) := by decide +kernel
theorem dX5_measure_136 : decode cX5_measure 136 = .ok (.imul, 1) := by decide +kernel
theorem dX5_measure_137 : decode cX5_measure 137 = .ok (.iload 4, 2) := by decide +kernel
theorem dX5_measure_139 : decode cX5_measure 139 = .ok (.iadd, 1) := by decide +kernel
theorem dX5_measure_140 : decode cX5_measure 140 = .ok (.iconst 1, 1) := by decide +kernel
theorem dX5_measure_141 : decode cX5_measure 141 = .ok (.iadd, 1) := by decide +kernel
theorem dX5_measure_142 : decode cX5_measure 142 = .ok (.saload, 1) := by decide +kernel
theorem dX5_measure_143 : decode cX5_measure 143 = .ok (.goto 17, 3) := by decide +kernel
theorem dX5_measure_146 : decode cX5_measure 146 = .ok (.iload 6, 2) := by decide +kernel
theorem dX5_measure_148 : decode cX5_measure 148 = .ok (.iload 7, 2) := by decide +kernel
theorem dX5_measure_150 : decode cX5_measure 150 = .ok (.if_icmp .ge 8, 3) := by decide +kernel
theorem dX5_measure_153 : decode cX5_measure 153 = .ok (.iload 6, 2) := by decide +kernel
theorem dX5_measure_155 : decode cX5_measure 155 = .ok (.goto 5, 3) := by decide +kernel
theorem dX5_measure_158 : decode cX5_measure 158 = .ok (.iload 7, 2) := by decide +kernel
theorem dX5_measure_160 : decode cX5_measure 160 = .ok (.istore 5, 2) := by decide +kernel
theorem dX5_measure_162 : decode cX5_measure 162 = .ok (.aload_n 0, 1) := by decide +kernel
theorem dX5_measure_163 : decode cX5_measure 163 = .ok (.getfield 16, 3) := by decide +kernel
theorem dX5_measure_166 : decode cX5_measure 166 = .ok (.bipush 121, 2) := by decide +kernel
theorem dX5_measure_168 : decode cX5_measure 168 = .ok (.iload_n 3, 1) := by decide +kernel
theorem dX5_measure_169 : decode cX5_measure 169 = .ok (.imul, 1) := by decide +kernel
theorem dX5_measure_170 : decode cX5_measure 170 = .ok (.iload 4, 2) := by decide +kernel
theorem dX5_measure_172 : decode cX5_measure 172 = .ok (.iadd, 1) := by decide +kernel
theorem dX5_measure_173 : decode cX5_measure 173 = .ok (.iload 5, 2) := by decide +kernel
theorem dX5_measure_175 : decode cX5_measure 175 = .ok (.i2s, 1) := by decide +kernel
theorem dX5_measure_176 : decode cX5_measure 176 = .ok (.sastore, 1) := by decide +kernel
theorem dX5_measure_177 : decode cX5_measure 177 = .ok (.iinc 4 (-1), 3) := by decide +kernel
theorem dX5_measure_180 : decode cX5_measure 180 = .ok (.goto (-161), 3) := by decide +kernel
theorem dX5_measure_183 : decode cX5_measure 183 = .ok (.iinc 3 (-1), 3) := by decide +kernel
theorem dX5_measure_186 : decode cX5_measure 186 = .ok (.goto (-179), 3) := by decide +kernel
theorem dX5_measure_189 : decode cX5_measure 189 = .ok (.aload_n 0, 1) := by decide +kernel
theorem dX5_measure_190 : decode cX5_measure 190 = .ok (.getfield 16, 3) := by decide +kernel
theorem dX5_measure_193 : decode cX5_measure 193 = .ok (.iconst 0, 1) := by decide +kernel
theorem dX5_measure_194 : decode cX5_measure 194 = .ok (.saload, 1) := by decide +kernel
theorem dX5_measure_195 : decode cX5_measure 195 = .ok (.ireturn, 1) := by decide +kernel
theorem dX5_due_0 : decode cX5_due 0 = .ok (.iload_n 2, 1) := by decide +kernel
theorem dX5_due_1 : decode cX5_due 1 = .ok (.aload_n 0, 1) := by decide +kernel
theorem dX5_due_2 : decode cX5_due 2 = .ok (.getfield 7, 3) := by decide +kernel
theorem dX5_due_5 : decode cX5_due 5 = .ok (.iload_n 1, 1) := by decide +kernel
theorem dX5_due_6 : decode cX5_due 6 = .ok (.iaload, 1) := by decide +kernel
theorem dX5_due_7 : decode cX5_due 7 = .ok (.if_icmp .ge 28, 3) := by decide +kernel
theorem dX5_due_10 : decode cX5_due 10 = .ok (.iload 4, 2) := by decide +kernel
theorem dX5_due_12 : decode cX5_due 12 = .ok (.aload_n 0, 1) := by decide +kernel
theorem dX5_due_13 : decode cX5_due 13 = .ok (.getfield 7, 3) := by decide +kernel
theorem dX5_due_16 : decode cX5_due 16 = .ok (.iload_n 3, 1) := by decide +kernel
theorem dX5_due_17 : decode cX5_due 17 = .ok (.iaload, 1) := by decide +kernel
theorem dX5_due_18 : decode cX5_due 18 = .ok (.if_icmp .ge 17, 3) := by decide +kernel
theorem dX5_due_21 : decode cX5_due 21 = .ok (.aload_n 0, 1) := by decide +kernel
theorem dX5_due_22 : decode cX5_due 22 = .ok (.iload_n 1, 1) := by decide +kernel
theorem dX5_due_23 : decode cX5_due 23 = .ok (.iload_n 2, 1) := by decide +kernel
theorem dX5_due_24 : decode cX5_due 24 = .ok (.iload_n 3, 1) := by decide +kernel
theorem dX5_due_25 : decode cX5_due 25 = .ok (.iload 4, 2) := by decide +kernel
theorem dX5_due_27 : decode cX5_due 27 = .ok (.invokevirtual 75, 3) := by decide +kernel
theorem dX5_due_30 : decode cX5_due 30 = .ok (.ifCond .eq 5, 3) := by decide +kernel
theorem dX5_due_33 : decode cX5_due 33 = .ok (.iconst 0, 1) := by decide +kernel
theorem dX5_due_34 : decode cX5_due 34 = .ok (.ireturn, 1) := by decide +kernel
theorem dX5_due_35 : decode cX5_due 35 = .ok (.iload_n 2, 1) := by decide +kernel
theorem dX5_due_36 : decode cX5_due 36 = .ok (.aload_n 0, 1) := by decide +kernel
theorem dX5_due_37 : decode cX5_due 37 = .ok (.getfield 7, 3) := by decide +kernel
theorem dX5_due_40 : decode cX5_due 40 = .ok (.iload_n 1, 1) := by decide +kernel
theorem dX5_due_41 : decode cX5_due 41 = .ok (.iaload, 1) := by decide +kernel
theorem dX5_due_42 : decode cX5_due 42 = .ok (.if_icmp .ge 36, 3) := by decide +kernel
theorem dX5_due_45 : decode cX5_due 45 = .ok (.aload_n 0, 1) := by decide +kernel
theorem dX5_due_46 : decode cX5_due 46 = .ok (.getfield 16, 3) := by decide +kernel
theorem dX5_due_49 : decode cX5_due 49 = .ok (.bipush 121, 2) := by decide +kernel
theorem dX5_due_51 : decode cX5_due 51 = .ok (.iload_n 2, 1) := by decide +kernel
theorem dX5_due_52 : decode cX5_due 52 = .ok (.imul, 1) := by decide +kernel
theorem dX5_due_53 : decode cX5_due 53 = .ok (.iload 4, 2) := by decide +kernel
theorem dX5_due_55 : decode cX5_due 55 = .ok (.iadd, 1) := by decide +kernel
theorem dX5_due_56 : decode cX5_due 56 = .ok (.saload, 1) := by decide +kernel
theorem dX5_due_57 : decode cX5_due 57 = .ok (.iconst 1, 1) := by decide +kernel
theorem dX5_due_58 : decode cX5_due 58 = .ok (.aload_n 0, 1) := by decide +kernel
theorem dX5_due_59 : decode cX5_due 59 = .ok (.getfield 16, 3) := by decide +kernel
theorem dX5_due_62 : decode cX5_due 62 = .ok (.bipush 121, 2) := by decide +kernel
theorem dX5_due_64 : decode cX5_due 64 = .ok (.iload_n 2, 1) := by decide +kernel
theorem dX5_due_65 : decode cX5_due 65 = .ok (.iconst 1, 1) := by decide +kernel
theorem dX5_due_66 : decode cX5_due 66 = .ok (.iadd, 1) := by decide +kernel
theorem dX5_due_67 : decode cX5_due 67 = .ok (.imul, 1) := by decide +kernel
theorem dX5_due_68 : decode cX5_due 68 = .ok (.iload 4, 2) := by decide +kernel
theorem dX5_due_70 : decode cX5_due 70 = .ok (.iadd, 1) := by decide +kernel
theorem dX5_due_71 : decode cX5_due 71 = .ok (.saload, 1) := by decide +kernel
theorem dX5_due_72 : decode cX5_due 72 = .ok (.iadd, 1) := by decide +kernel
theorem dX5_due_73 : decode cX5_due 73 = .ok (.if_icmp .ne 5, 3) := by decide +kernel
theorem dX5_due_76 : decode cX5_due 76 = .ok (.iconst 1, 1) := by decide +kernel
theorem dX5_due_77 : decode cX5_due 77 = .ok (.ireturn, 1) := by decide +kernel
theorem dX5_due_78 : decode cX5_due 78 = .ok (.iload 4, 2) := by decide +kernel
theorem dX5_due_80 : decode cX5_due 80 = .ok (.aload_n 0, 1) := by decide +kernel
theorem dX5_due_81 : decode cX5_due 81 = .ok (.getfield 7, 3) := by decide +kernel
theorem dX5_due_84 : decode cX5_due 84 = .ok (.iload_n 3, 1) := by decide +kernel
theorem dX5_due_85 : decode cX5_due 85 = .ok (.iaload, 1) := by decide +kernel
theorem dX5_due_86 : decode cX5_due 86 = .ok (.if_icmp .ge 7, 3) := by decide +kernel
theorem dX5_due_89 : decode cX5_due 89 = .ok (.iconst 2, 1) := by decide +kernel
theorem dX5_due_90 : decode cX5_due 90 = .ok (.goto 4, 3) := by decide +kernel
theorem dX5_due_93 : decode cX5_due 93 = .ok (.iconst (-1), 1) := by decide +kernel
theorem dX5_due_94 : decode cX5_due 94 = .ok (.ireturn, 1) := by decide +kernel
theorem dX5_diff_0 : decode cX5_diff 0 = .ok (.aload_n 0, 1) := by decide +kernel
theorem dX5_diff_1 : decode cX5_diff 1 = .ok (.iload_n 1, 1) := by decide +kernel
theorem dX5_diff_2 : decode cX5_diff 2 = .ok (.invokestatic 71, 3) := by decide +kernel
theorem dX5_diff_5 : decode cX5_diff 5 = .ok (.ifCond .eq 14, 3) := by decide +kernel
theorem dX5_diff_8 : decode cX5_diff 8 = .ok (.iload_n 2, 1) := by decide +kernel
theorem dX5_diff_9 : decode cX5_diff 9 = .ok (.invokestatic 71, 3) := by decide +kernel
theorem dX5_diff_12 : decode cX5_diff 12 = .ok (.ifCond .eq 7, 3) := by decide +kernel
theorem dX5_diff_15 : decode cX5_diff 15 = .ok (.iconst 0, 1) := by decide +kernel
theorem dX5_diff_16 : decode cX5_diff 16 = .ok (.goto 4, 3) := by decide +kernel
theorem dX5_diff_19 : decode cX5_diff 19 = .ok (.iconst 1, 1) := by decide +kernel
theorem dX5_diff_20 : decode cX5_diff 20 = .ok (.putfield 68, 3) := by decide +kernel
theorem dX5_diff_23 : decode cX5_diff 23 = .ok (.aload_n 0, 1) := by decide +kernel
theorem dX5_diff_24 : decode cX5_diff 24 = .ok (.getfield 68, 3) := by decide +kernel
theorem dX5_diff_27 : decode cX5_diff 27 = .ok (.ifCond .le 5, 3) := by decide +kernel
theorem dX5_diff_30 : decode cX5_diff 30 = .ok (.iconst 0, 1) := by decide +kernel
theorem dX5_diff_31 : decode cX5_diff 31 = .ok (.ireturn, 1) := by decide +kernel
theorem dX5_diff_32 : decode cX5_diff 32 = .ok (.aload_n 0, 1) := by decide +kernel
theorem dX5_diff_33 : decode cX5_diff 33 = .ok (.iload_n 1, 1) := by decide +kernel
theorem dX5_diff_34 : decode cX5_diff 34 = .ok (.iload_n 2, 1) := by decide +kernel
theorem dX5_diff_35 : decode cX5_diff 35 = .ok (.invokevirtual 79, 3) := by decide +kernel
theorem dX5_diff_38 : decode cX5_diff 38 = .ok (.istore_n 3, 1) := by decide +kernel
theorem dX5_diff_39 : decode cX5_diff 39 = .ok (.iload_n 3, 1) := by decide +kernel
theorem dX5_diff_40 : decode cX5_diff 40 = .ok (.bipush 100, 2) := by decide +kernel
theorem dX5_diff_42 : decode cX5_diff 42 = .ok (.if_icmp .le 9, 3) := by decide +kernel
theorem dX5_diff_45 : decode cX5_diff 45 = .ok (.aload_n 0, 1) := by decide +kernel
theorem dX5_diff_46 : decode cX5_diff 46 = .ok (.iconst 2, 1) := by decide +kernel
theorem dX5_diff_47 : decode cX5_diff 47 = .ok (.invokevirtual 83, 3) := by decide +kernel
theorem dX5_diff_50 : decode cX5_diff 50 = .ok (.ireturn, 1) := by decide +kernel
theorem dX5_diff_51 : decode cX5_diff 51 = .ok (.aload_n 0, 1) := by decide +kernel
theorem dX5_diff_52 : decode cX5_diff 52 = .ok (.iconst 0, 1) := by decide +kernel
theorem dX5_diff_53 : decode cX5_diff 53 = .ok (.putfield 20, 3) := by decide +kernel
theorem dX5_diff_56 : decode cX5_diff 56 = .ok (.iconst 0, 1) := by decide +kernel
theorem dX5_diff_57 : decode cX5_diff 57 = .ok (.istore 4, 2) := by decide +kernel
theorem dX5_diff_59 : decode cX5_diff 59 = .ok (.iconst 0, 1) := by decide +kernel
theorem dX5_diff_60 : decode cX5_diff 60 = .ok (.istore 5, 2) := by decide +kernel
theorem dX5_diff_62 : decode cX5_diff 62 = .ok (.aload_n 0, 1) := by decide +kernel
theorem dX5_diff_63 : decode cX5_diff 63 = .ok (.iload_n 1, 1) := by decide +kernel
theorem dX5_diff_64 : decode cX5_diff 64 = .ok (.iconst 0, 1) := by decide +kernel
theorem dX5_diff_65 : decode cX5_diff 65 = .ok (.iload_n 2, 1) := by decide +kernel
theorem dX5_diff_66 : decode cX5_diff 66 = .ok (.iconst 0, 1) := by decide +kernel
theorem dX5_diff_67 : decode cX5_diff 67 = .ok (.invokevirtual 87, 3) := by decide +kernel
theorem dX5_diff_70 : decode cX5_diff 70 = .ok (.istore 6, 2) := by decide +kernel
theorem dX5_diff_72 : decode cX5_diff 72 = .ok (.iload 6, 2) := by decide +kernel
theorem dX5_diff_74 : decode cX5_diff 74 = .ok (.ifCond .lt 138, 3) := by decide +kernel
theorem dX5_diff_77 : decode cX5_diff 77 = .ok (.aload_n 0, 1) := by decide +kernel
theorem dX5_diff_78 : decode cX5_diff 78 = .ok (.getfield 24, 3) := by decide +kernel
theorem dX5_diff_81 : decode cX5_diff 81 = .ok (.aload_n 0, 1) := by decide +kernel
theorem dX5_diff_82 : decode cX5_diff 82 = .ok (.getfield 20, 3) := by decide +kernel
theorem dX5_diff_85 : decode cX5_diff 85 = .ok (.iload 6, 2) := by decide +kernel
theorem dX5_diff_87 : decode cX5_diff 87 = .ok (.i2b, 1) := by decide +kernel
theorem dX5_diff_88 : decode cX5_diff 88 = .ok (.bastore, 1) := by decide +kernel
theorem dX5_diff_89 : decode cX5_diff 89 = .ok (.aload_n 0, 1) := by decide +kernel
theorem dX5_diff_90 : decode cX5_diff 90 = .ok (.getfield 28, 3) := by decide +kernel
theorem dX5_diff_93 : decode cX5_diff 93 = .ok (.aload_n 0, 1) := by decide +kernel
theorem dX5_diff_94 : decode cX5_diff 94 = .ok (.getfield 20, 3) := by decide +kernel
theorem dX5_diff_97 : decode cX5_diff 97 = .ok (.iload 4, 2) := by decide +kernel
theorem dX5_diff_99 : decode cX5_diff 99 = .ok (.i2b, 1) := by decide +kernel
theorem dX5_diff_100 : decode cX5_diff 100 = .ok (.bastore, 1) := by decide +kernel
theorem dX5_diff_101 : decode cX5_diff 101 = .ok (.aload_n 0, 1) := by decide +kernel
theorem dX5_diff_102 : decode cX5_diff 102 = .ok (.getfield 31, 3) := by decide +kernel
theorem dX5_diff_105 : decode cX5_diff 105 = .ok (.aload_n 0, 1) := by decide +kernel
theorem dX5_diff_106 : decode cX5_diff 106 = .ok (.getfield 20, 3) := by decide +kernel
theorem dX5_diff_109 : decode cX5_diff 109 = .ok (.iload 5, 2) := by decide +kernel
theorem dX5_diff_111 : decode cX5_diff 111 = .ok (.i2b, 1) := by decide +kernel
theorem dX5_diff_112 : decode cX5_diff 112 = .ok (.bastore, 1) := by decide +kernel
theorem dX5_diff_113 : decode cX5_diff 113 = .ok (.aload_n 0, 1) := by decide +kernel
theorem dX5_diff_114 : decode cX5_diff 114 = .ok (.getfield 34, 3) := by decide +kernel
theorem dX5_diff_117 : decode cX5_diff 117 = .ok (.aload_n 0, 1) := by decide +kernel
theorem dX5_diff_118 : decode cX5_diff 118 = .ok (.getfield 20, 3) := by decide +kernel
theorem dX5_diff_121 : decode cX5_diff 121 = .ok (.iload 6, 2) := by decide +kernel
theorem dX5_diff_123 : decode cX5_diff 123 = .ok (.iconst 2, 1) := by decide +kernel
theorem dX5_diff_124 : decode cX5_diff 124 = .ok (.if_icmp .ne 18, 3) := by decide +kernel
theorem dX5_diff_127 : decode cX5_diff 127 = .ok (.aload_n 0, 1) := by decide +kernel
theorem dX5_diff_128 : decode cX5_diff 128 = .ok (.getfield 13, 3) := by decide +kernel
theorem dX5_diff_131 : decode cX5_diff 131 = .ok (.bipush 120, 2) := by decide +kernel
theorem dX5_diff_133 : decode cX5_diff 133 = .ok (.iload_n 2, 1) := by decide +kernel
theorem dX5_diff_134 : decode cX5_diff 134 = .ok (.imul, 1) := by decide +kernel
theorem dX5_diff_135 : decode cX5_diff 135 = .ok (.iload 5, 2) := by decide +kernel
theorem dX5_diff_137 : decode cX5_diff 137 = .ok (.iadd, 1) := by decide +kernel
theorem dX5_diff_138 : decode cX5_diff 138 = .ok (.iaload, 1) := by decide +kernel
theorem dX5_diff_139 : decode cX5_diff 139 = .ok (.goto 15, 3) := by decide +kernel
theorem dX5_diff_142 : decode cX5_diff 142 = .ok (.aload_n 0, 1) := by decide +kernel
theorem dX5_diff_143 : decode cX5_diff 143 = .ok (.getfield 13, 3) := by decide +kernel
theorem dX5_diff_146 : decode cX5_diff 146 = .ok (.bipush 120, 2) := by decide +kernel
theorem dX5_diff_148 : decode cX5_diff 148 = .ok (.iload_n 1, 1) := by decide +kernel
theorem dX5_diff_149 : decode cX5_diff 149 = .ok (.imul, 1) := by decide +kernel
theorem dX5_diff_150 : decode cX5_diff 150 = .ok (.iload 4, 2) := by decide +kernel
theorem dX5_diff_152 : decode cX5_diff 152 = .ok (.iadd, 1) := by decide +kernel
theorem dX5_diff_153 : decode cX5_diff 153 = .ok (.iaload, 1) := by decide +kernel
theorem dX5_diff_154 : decode cX5_diff 154 = .ok (.iastore, 1) := by decide +kernel
theorem dX5_diff_155 : decode cX5_diff 155 = .ok (.aload_n 0, 1) := by decide +kernel
theorem dX5_diff_156 : decode cX5_diff 156 = .ok (.dup, 1) := by decide +kernel
theorem dX5_diff_157 : decode cX5_diff 157 = .ok (.getfield 20, 3) := by decide +kernel
theorem dX5_diff_160 : decode cX5_diff 160 = .ok (.iconst 1, 1) := by decide +kernel
theorem dX5_diff_161 : decode cX5_diff 161 = .ok (.iadd, 1) := by decide +kernel
theorem dX5_diff_162 : decode cX5_diff 162 = .ok (.putfield 20, 3) := by decide +kernel
theorem dX5_diff_165 : decode cX5_diff 165 = .ok (.iload 4, 2) := by decide +kernel
theorem dX5_diff_167 : decode cX5_diff 167 = .ok (.iload 6, 2) := by decide +kernel
theorem dX5_diff_169 : decode cX5_diff 169 = .ok (.iconst 2, 1) := by decide +kernel
theorem dX5_diff_170 : decode cX5_diff 170 = .ok (.if_icmp .ge 7, 3) := by decide +kernel
theorem dX5_diff_173 : decode cX5_diff 173 = .ok (.iconst 1, 1) := by decide +kernel
theorem dX5_diff_174 : decode cX5_diff 174 = .ok (.goto 4, 3) := by decide +kernel
theorem dX5_diff_177 : decode cX5_diff 177 = .ok (.iconst 0, 1) := by decide +kernel
theorem dX5_diff_178 : decode cX5_diff 178 = .ok (.iadd, 1) := by decide +kernel
theorem dX5_diff_179 : decode cX5_diff 179 = .ok (.istore 4, 2) := by decide +kernel
theorem dX5_diff_181 : decode cX5_diff 181 = .ok (.iload 5, 2) := by decide +kernel
theorem dX5_diff_183 : decode cX5_diff 183 = .ok (.iload 6, 2) := by decide +kernel
theorem dX5_diff_185 : decode cX5_diff 185 = .ok (.iconst 1, 1) := by decide +kernel
theorem dX5_diff_186 : decode cX5_diff 186 = .ok (.if_icmp .eq 7, 3) := by decide +kernel
theorem dX5_diff_189 : decode cX5_diff 189 = .ok (.iconst 1, 1) := by decide +kernel
theorem dX5_diff_190 : decode cX5_diff 190 = .ok (.goto 4, 3) := by decide +kernel
theorem dX5_diff_193 : decode cX5_diff 193 = .ok (.iconst 0, 1) := by decide +kernel
theorem dX5_diff_194 : decode cX5_diff 194 = .ok (.iadd, 1) := by decide +kernel
theorem dX5_diff_195 : decode cX5_diff 195 = .ok (.istore 5, 2) := by decide +kernel
theorem dX5_diff_197 : decode cX5_diff 197 = .ok (.aload_n 0, 1) := by decide +kernel
theorem dX5_diff_198 : decode cX5_diff 198 = .ok (.iload_n 1, 1) := by decide +kernel
theorem dX5_diff_199 : decode cX5_diff 199 = .ok (.iload 4, 2) := by decide +kernel
theorem dX5_diff_201 : decode cX5_diff 201 = .ok (.iload_n 2, 1) := by decide +kernel
theorem dX5_diff_202 : decode cX5_diff 202 = .ok (.iload 5, 2) := by decide +kernel
theorem dX5_diff_204 : decode cX5_diff 204 = .ok (.invokevirtual 87, 3) := by decide +kernel
theorem dX5_diff_207 : decode cX5_diff 207 = .ok (.istore 6, 2) := by decide +kernel
theorem dX5_diff_209 : decode cX5_diff 209 = .ok (.goto (-137), 3) := by decide +kernel
theorem dX5_diff_212 : decode cX5_diff 212 = .ok (.iload_n 3, 1) := by decide +kernel
theorem dX5_diff_213 : decode cX5_diff 213 = .ok (.ireturn, 1) := by decide +kernel
theorem dX5_steps_0 : decode cX5_steps 0 = .ok (.aload_n 0, 1) := by decide +kernel
theorem dX5_steps_1 : decode cX5_steps 1 = .ok (.iconst 0, 1) := by decide +kernel
theorem dX5_steps_2 : decode cX5_steps 2 = .ok (.putfield 68, 3) := by decide +kernel
theorem dX5_steps_5 : decode cX5_steps 5 = .ok (.aload_n 0, 1) := by decide +kernel
theorem dX5_steps_6 : decode cX5_steps 6 = .ok (.getfield 20, 3) := by decide +kernel
theorem dX5_steps_9 : decode cX5_steps 9 = .ok (.ireturn, 1) := by decide +kernel
theorem dX5_step_0 : decode cX5_step 0 = .ok (.aload_n 0, 1) := by decide +kernel
theorem dX5_step_1 : decode cX5_step 1 = .ok (.iload_n 1, 1) := by decide +kernel
theorem dX5_step_2 : decode cX5_step 2 = .ok (.ifCond .lt 11, 3) := by decide +kernel
theorem dX5_step_5 : decode cX5_step 5 = .ok (.iload_n 1, 1) := by decide +kernel
theorem dX5_step_6 : decode cX5_step 6 = .ok (.aload_n 0, 1) := by decide +kernel
theorem dX5_step_7 : decode cX5_step 7 = .ok (.getfield 20, 3) := by decide +kernel
theorem dX5_step_10 : decode cX5_step 10 = .ok (.if_icmp .lt 7, 3) := by decide +kernel
theorem dX5_step_13 : decode cX5_step 13 = .ok (.iconst 1, 1) := by decide +kernel
theorem dX5_step_14 : decode cX5_step 14 = .ok (.goto 17, 3) := by decide +kernel
theorem dX5_step_17 : decode cX5_step 17 = .ok (.iload_n 2, 1) := by decide +kernel
theorem dX5_step_18 : decode cX5_step 18 = .ok (.ifCond .lt 8, 3) := by decide +kernel
theorem dX5_step_21 : decode cX5_step 21 = .ok (.iload_n 2, 1) := by decide +kernel
theorem dX5_step_22 : decode cX5_step 22 = .ok (.iconst 3, 1) := by decide +kernel
theorem dX5_step_23 : decode cX5_step 23 = .ok (.if_icmp .le 7, 3) := by decide +kernel
theorem dX5_step_26 : decode cX5_step 26 = .ok (.iconst 2, 1) := by decide +kernel
theorem dX5_step_27 : decode cX5_step 27 = .ok (.goto 4, 3) := by decide +kernel
theorem dX5_step_30 : decode cX5_step 30 = .ok (.iconst 0, 1) := by decide +kernel
theorem dX5_step_31 : decode cX5_step 31 = .ok (.putfield 68, 3) := by decide +kernel
theorem dX5_step_34 : decode cX5_step 34 = .ok (.aload_n 0, 1) := by decide +kernel
theorem dX5_step_35 : decode cX5_step 35 = .ok (.getfield 68, 3) := by decide +kernel
theorem dX5_step_38 : decode cX5_step 38 = .ok (.ifCond .le 5, 3) := by decide +kernel
theorem dX5_step_41 : decode cX5_step 41 = .ok (.iconst 0, 1) := by decide +kernel
theorem dX5_step_42 : decode cX5_step 42 = .ok (.ireturn, 1) := by decide +kernel
theorem dX5_step_43 : decode cX5_step 43 = .ok (.iload_n 2, 1) := by decide +kernel
theorem dX5_step_44 : decode cX5_step 44 = .ok (.ifCond .ne 12, 3) := by decide +kernel
theorem dX5_step_47 : decode cX5_step 47 = .ok (.aload_n 0, 1) := by decide +kernel
theorem dX5_step_48 : decode cX5_step 48 = .ok (.getfield 24, 3) := by decide +kernel
theorem dX5_step_51 : decode cX5_step 51 = .ok (.iload_n 1, 1) := by decide +kernel
theorem dX5_step_52 : decode cX5_step 52 = .ok (.baload, 1) := by decide +kernel
theorem dX5_step_53 : decode cX5_step 53 = .ok (.goto 37, 3) := by decide +kernel
theorem dX5_step_56 : decode cX5_step 56 = .ok (.iload_n 2, 1) := by decide +kernel
theorem dX5_step_57 : decode cX5_step 57 = .ok (.iconst 1, 1) := by decide +kernel
theorem dX5_step_58 : decode cX5_step 58 = .ok (.if_icmp .ne 12, 3) := by decide +kernel
theorem dX5_step_61 : decode cX5_step 61 = .ok (.aload_n 0, 1) := by decide +kernel
theorem dX5_step_62 : decode cX5_step 62 = .ok (.getfield 28, 3) := by decide +kernel
theorem dX5_step_65 : decode cX5_step 65 = .ok (.iload_n 1, 1) := by decide +kernel
theorem dX5_step_66 : decode cX5_step 66 = .ok (.baload, 1) := by decide +kernel
theorem dX5_step_67 : decode cX5_step 67 = .ok (.goto 23, 3) := by decide +kernel
theorem dX5_step_70 : decode cX5_step 70 = .ok (.iload_n 2, 1) := by decide +kernel
theorem dX5_step_71 : decode cX5_step 71 = .ok (.iconst 2, 1) := by decide +kernel
theorem dX5_step_72 : decode cX5_step 72 = .ok (.if_icmp .ne 12, 3) := by decide +kernel
theorem dX5_step_75 : decode cX5_step 75 = .ok (.aload_n 0, 1) := by decide +kernel
theorem dX5_step_76 : decode cX5_step 76 = .ok (.getfield 31, 3) := by decide +kernel
theorem dX5_step_79 : decode cX5_step 79 = .ok (.iload_n 1, 1) := by decide +kernel
theorem dX5_step_80 : decode cX5_step 80 = .ok (.baload, 1) := by decide +kernel
theorem dX5_step_81 : decode cX5_step 81 = .ok (.goto 9, 3) := by decide +kernel
theorem dX5_step_84 : decode cX5_step 84 = .ok (.aload_n 0, 1) := by decide +kernel
theorem dX5_step_85 : decode cX5_step 85 = .ok (.getfield 34, 3) := by decide +kernel
theorem dX5_step_88 : decode cX5_step 88 = .ok (.iload_n 1, 1) := by decide +kernel
theorem dX5_step_89 : decode cX5_step 89 = .ok (.iaload, 1) := by decide +kernel
theorem dX5_step_90 : decode cX5_step 90 = .ok (.ireturn, 1) := by decide +kernel
theorem dX5_opens_0 : decode cX5_opens 0 = .ok (.aload_n 0, 1) := by decide +kernel
theorem dX5_opens_1 : decode cX5_opens 1 = .ok (.getfield 24, 3) := by decide +kernel
theorem dX5_opens_4 : decode cX5_opens 4 = .ok (.iload_n 1, 1) := by decide +kernel
theorem dX5_opens_5 : decode cX5_opens 5 = .ok (.baload, 1) := by decide +kernel
theorem dX5_opens_6 : decode cX5_opens 6 = .ok (.ifCond .le 22, 3) := by decide +kernel
theorem dX5_opens_9 : decode cX5_opens 9 = .ok (.iload_n 1, 1) := by decide +kernel
theorem dX5_opens_10 : decode cX5_opens 10 = .ok (.ifCond .eq 14, 3) := by decide +kernel
theorem dX5_opens_13 : decode cX5_opens 13 = .ok (.aload_n 0, 1) := by decide +kernel
theorem dX5_opens_14 : decode cX5_opens 14 = .ok (.getfield 24, 3) := by decide +kernel
theorem dX5_opens_17 : decode cX5_opens 17 = .ok (.iload_n 1, 1) := by decide +kernel
theorem dX5_opens_18 : decode cX5_opens 18 = .ok (.iconst 1, 1) := by decide +kernel
theorem dX5_opens_19 : decode cX5_opens 19 = .ok (.isub, 1) := by decide +kernel
theorem dX5_opens_20 : decode cX5_opens 20 = .ok (.baload, 1) := by decide +kernel
theorem dX5_opens_21 : decode cX5_opens 21 = .ok (.ifCond .ne 7, 3) := by decide +kernel
theorem dX5_opens_24 : decode cX5_opens 24 = .ok (.iconst 1, 1) := by decide +kernel
theorem dX5_opens_25 : decode cX5_opens 25 = .ok (.goto 4, 3) := by decide +kernel
theorem dX5_opens_28 : decode cX5_opens 28 = .ok (.iconst 0, 1) := by decide +kernel
theorem dX5_opens_29 : decode cX5_opens 29 = .ok (.ireturn, 1) := by decide +kernel
theorem dX5_hunks_0 : decode cX5_hunks 0 = .ok (.aload_n 0, 1) := by decide +kernel
theorem dX5_hunks_1 : decode cX5_hunks 1 = .ok (.iconst 0, 1) := by decide +kernel
theorem dX5_hunks_2 : decode cX5_hunks 2 = .ok (.putfield 68, 3) := by decide +kernel
theorem dX5_hunks_5 : decode cX5_hunks 5 = .ok (.aload_n 0, 1) := by decide +kernel
theorem dX5_hunks_6 : decode cX5_hunks 6 = .ok (.getfield 20, 3) := by decide +kernel
theorem dX5_hunks_9 : decode cX5_hunks 9 = .ok (.ifCond .ge 7, 3) := by decide +kernel
theorem dX5_hunks_12 : decode cX5_hunks 12 = .ok (.iconst (-1), 1) := by decide +kernel
theorem dX5_hunks_13 : decode cX5_hunks 13 = .ok (.goto 4, 3) := by decide +kernel
theorem dX5_hunks_16 : decode cX5_hunks 16 = .ok (.iconst 0, 1) := by decide +kernel
theorem dX5_hunks_17 : decode cX5_hunks 17 = .ok (.istore_n 1, 1) := by decide +kernel
theorem dX5_hunks_18 : decode cX5_hunks 18 = .ok (.iconst 0, 1) := by decide +kernel
theorem dX5_hunks_19 : decode cX5_hunks 19 = .ok (.istore_n 2, 1) := by decide +kernel
theorem dX5_hunks_20 : decode cX5_hunks 20 = .ok (.iload_n 2, 1) := by decide +kernel
theorem dX5_hunks_21 : decode cX5_hunks 21 = .ok (.aload_n 0, 1) := by decide +kernel
theorem dX5_hunks_22 : decode cX5_hunks 22 = .ok (.getfield 20, 3) := by decide +kernel
theorem dX5_hunks_25 : decode cX5_hunks 25 = .ok (.if_icmp .ge 25, 3) := by decide +kernel
theorem dX5_hunks_28 : decode cX5_hunks 28 = .ok (.iload_n 1, 1) := by decide +kernel
theorem dX5_hunks_29 : decode cX5_hunks 29 = .ok (.aload_n 0, 1) := by decide +kernel
theorem dX5_hunks_30 : decode cX5_hunks 30 = .ok (.iload_n 2, 1) := by decide +kernel
theorem dX5_hunks_31 : decode cX5_hunks 31 = .ok (.invokevirtual 91, 3) := by decide +kernel
theorem dX5_hunks_34 : decode cX5_hunks 34 = .ok (.ifCond .eq 7, 3) := by decide +kernel
theorem dX5_hunks_37 : decode cX5_hunks 37 = .ok (.iconst 1, 1) := by decide +kernel
theorem dX5_hunks_38 : decode cX5_hunks 38 = .ok (.goto 4, 3) := by decide +kernel
theorem dX5_hunks_41 : decode cX5_hunks 41 = .ok (.iconst 0, 1) := by decide +kernel
theorem dX5_hunks_42 : decode cX5_hunks 42 = .ok (.iadd, 1) := by decide +kernel
theorem dX5_hunks_43 : decode cX5_hunks 43 = .ok (.istore_n 1, 1) := by decide +kernel
theorem dX5_hunks_44 : decode cX5_hunks 44 = .ok (.iinc 2 1, 3) := by decide +kernel
theorem dX5_hunks_47 : decode cX5_hunks 47 = .ok (.goto (-27), 3) := by decide +kernel
theorem dX5_hunks_50 : decode cX5_hunks 50 = .ok (.iload_n 1, 1) := by decide +kernel
theorem dX5_hunks_51 : decode cX5_hunks 51 = .ok (.ireturn, 1) := by decide +kernel
theorem dX5_hunk_0 : decode cX5_hunk 0 = .ok (.iconst 0, 1) := by decide +kernel
theorem dX5_hunk_1 : decode cX5_hunk 1 = .ok (.istore_n 3, 1) := by decide +kernel
theorem dX5_hunk_2 : decode cX5_hunk 2 = .ok (.iload_n 1, 1) := by decide +kernel
theorem dX5_hunk_3 : decode cX5_hunk 3 = .ok (.istore 4, 2) := by decide +kernel
theorem dX5_hunk_5 : decode cX5_hunk 5 = .ok (.iload_n 3, 1) := by decide +kernel
theorem dX5_hunk_6 : decode cX5_hunk 6 = .ok (.aload_n 0, 1) := by decide +kernel
theorem dX5_hunk_7 : decode cX5_hunk 7 = .ok (.getfield 20, 3) := by decide +kernel
theorem dX5_hunk_10 : decode cX5_hunk 10 = .ok (.if_icmp .ge 40, 3) := by decide +kernel
theorem dX5_hunk_13 : decode cX5_hunk 13 = .ok (.aload_n 0, 1) := by decide +kernel
theorem dX5_hunk_14 : decode cX5_hunk 14 = .ok (.iload_n 3, 1) := by decide +kernel
theorem dX5_hunk_15 : decode cX5_hunk 15 = .ok (.invokevirtual 91, 3) := by decide +kernel
theorem dX5_hunk_18 : decode cX5_hunk 18 = .ok (.ifCond .eq 8, 3) := by decide +kernel
theorem dX5_hunk_21 : decode cX5_hunk 21 = .ok (.iload 4, 2) := by decide +kernel
theorem dX5_hunk_23 : decode cX5_hunk 23 = .ok (.ifCond .le 27, 3) := by decide +kernel
theorem dX5_hunk_26 : decode cX5_hunk 26 = .ok (.iload 4, 2) := by decide +kernel
theorem dX5_hunk_28 : decode cX5_hunk 28 = .ok (.aload_n 0, 1) := by decide +kernel
theorem dX5_hunk_29 : decode cX5_hunk 29 = .ok (.iload_n 3, 1) := by decide +kernel
theorem dX5_hunk_30 : decode cX5_hunk 30 = .ok (.invokevirtual 91, 3) := by decide +kernel
theorem dX5_hunk_33 : decode cX5_hunk 33 = .ok (.ifCond .eq 7, 3) := by decide +kernel
theorem dX5_hunk_36 : decode cX5_hunk 36 = .ok (.iconst 1, 1) := by decide +kernel
theorem dX5_hunk_37 : decode cX5_hunk 37 = .ok (.goto 4, 3) := by decide +kernel
theorem dX5_hunk_40 : decode cX5_hunk 40 = .ok (.iconst 0, 1) := by decide +kernel
theorem dX5_hunk_41 : decode cX5_hunk 41 = .ok (.isub, 1) := by decide +kernel
theorem dX5_hunk_42 : decode cX5_hunk 42 = .ok (.istore 4, 2) := by decide +kernel
theorem dX5_hunk_44 : decode cX5_hunk 44 = .ok (.iinc 3 1, 3) := by decide +kernel
theorem dX5_hunk_47 : decode cX5_hunk 47 = .ok (.goto (-42), 3) := by decide +kernel
theorem dX5_hunk_50 : decode cX5_hunk 50 = .ok (.aload_n 0, 1) := by decide +kernel
theorem dX5_hunk_51 : decode cX5_hunk 51 = .ok (.iload_n 1, 1) := by decide +kernel
theorem dX5_hunk_52 : decode cX5_hunk 52 = .ok (.ifCond .lt 11, 3) := by decide +kernel
theorem dX5_hunk_55 : decode cX5_hunk 55 = .ok (.iload_n 3, 1) := by decide +kernel
theorem dX5_hunk_56 : decode cX5_hunk 56 = .ok (.aload_n 0, 1) := by decide +kernel
theorem dX5_hunk_57 : decode cX5_hunk 57 = .ok (.getfield 20, 3) := by decide +kernel
theorem dX5_hunk_60 : decode cX5_hunk 60 = .ok (.if_icmp .lt 7, 3) := by decide +kernel
theorem dX5_hunk_63 : decode cX5_hunk 63 = .ok (.iconst 1, 1) := by decide +kernel
theorem dX5_hunk_64 : decode cX5_hunk 64 = .ok (.goto 17, 3) := by decide +kernel
theorem dX5_hunk_67 : decode cX5_hunk 67 = .ok (.iload_n 2, 1) := by decide +kernel
theorem dX5_hunk_68 : decode cX5_hunk 68 = .ok (.ifCond .lt 8, 3) := by decide +kernel
theorem dX5_hunk_71 : decode cX5_hunk 71 = .ok (.iload_n 2, 1) := by decide +kernel
theorem dX5_hunk_72 : decode cX5_hunk 72 = .ok (.iconst 3, 1) := by decide +kernel
theorem dX5_hunk_73 : decode cX5_hunk 73 = .ok (.if_icmp .le 7, 3) := by decide +kernel
theorem dX5_hunk_76 : decode cX5_hunk 76 = .ok (.iconst 2, 1) := by decide +kernel
theorem dX5_hunk_77 : decode cX5_hunk 77 = .ok (.goto 4, 3) := by decide +kernel
theorem dX5_hunk_80 : decode cX5_hunk 80 = .ok (.iconst 0, 1) := by decide +kernel
theorem dX5_hunk_81 : decode cX5_hunk 81 = .ok (.putfield 68, 3) := by decide +kernel
theorem dX5_hunk_84 : decode cX5_hunk 84 = .ok (.aload_n 0, 1) := by decide +kernel
theorem dX5_hunk_85 : decode cX5_hunk 85 = .ok (.getfield 68, 3) := by decide +kernel
theorem dX5_hunk_88 : decode cX5_hunk 88 = .ok (.ifCond .le 5, 3) := by decide +kernel
theorem dX5_hunk_91 : decode cX5_hunk 91 = .ok (.iconst 0, 1) := by decide +kernel
theorem dX5_hunk_92 : decode cX5_hunk 92 = .ok (.ireturn, 1) := by decide +kernel
theorem dX5_hunk_93 : decode cX5_hunk 93 = .ok (.iconst 0, 1) := by decide +kernel
theorem dX5_hunk_94 : decode cX5_hunk 94 = .ok (.istore 5, 2) := by decide +kernel
theorem dX5_hunk_96 : decode cX5_hunk 96 = .ok (.iload_n 3, 1) := by decide +kernel
theorem dX5_hunk_97 : decode cX5_hunk 97 = .ok (.istore 6, 2) := by decide +kernel
theorem dX5_hunk_99 : decode cX5_hunk 99 = .ok (.iload 6, 2) := by decide +kernel
theorem dX5_hunk_101 : decode cX5_hunk 101 = .ok (.aload_n 0, 1) := by decide +kernel
theorem dX5_hunk_102 : decode cX5_hunk 102 = .ok (.getfield 20, 3) := by decide +kernel
theorem dX5_hunk_105 : decode cX5_hunk 105 = .ok (.if_icmp .ge 42, 3) := by decide +kernel
theorem dX5_hunk_108 : decode cX5_hunk 108 = .ok (.aload_n 0, 1) := by decide +kernel
theorem dX5_hunk_109 : decode cX5_hunk 109 = .ok (.getfield 24, 3) := by decide +kernel
theorem dX5_hunk_112 : decode cX5_hunk 112 = .ok (.iload 6, 2) := by decide +kernel
theorem dX5_hunk_114 : decode cX5_hunk 114 = .ok (.baload, 1) := by decide +kernel
theorem dX5_hunk_115 : decode cX5_hunk 115 = .ok (.ifCond .le 32, 3) := by decide +kernel
theorem dX5_hunk_118 : decode cX5_hunk 118 = .ok (.iload 5, 2) := by decide +kernel
theorem dX5_hunk_120 : decode cX5_hunk 120 = .ok (.aload_n 0, 1) := by decide +kernel
theorem dX5_hunk_121 : decode cX5_hunk 121 = .ok (.getfield 24, 3) := by decide +kernel
theorem dX5_hunk_124 : decode cX5_hunk 124 = .ok (.iload 6, 2) := by decide +kernel
theorem dX5_hunk_126 : decode cX5_hunk 126 = .ok (.baload, 1) := by decide +kernel
theorem dX5_hunk_127 : decode cX5_hunk 127 = .ok (.iload_n 2, 1) := by decide +kernel
theorem dX5_hunk_128 : decode cX5_hunk 128 = .ok (.iconst 1, 1) := by decide +kernel
theorem dX5_hunk_129 : decode cX5_hunk 129 = .ok (.isub, 1) := by decide +kernel
theorem dX5_hunk_130 : decode cX5_hunk 130 = .ok (.if_icmp .ne 7, 3) := by decide +kernel
theorem dX5_hunk_133 : decode cX5_hunk 133 = .ok (.iconst 1, 1) := by decide +kernel
theorem dX5_hunk_134 : decode cX5_hunk 134 = .ok (.goto 4, 3) := by decide +kernel
theorem dX5_hunk_137 : decode cX5_hunk 137 = .ok (.iconst 0, 1) := by decide +kernel
theorem dX5_hunk_138 : decode cX5_hunk 138 = .ok (.iadd, 1) := by decide +kernel
theorem dX5_hunk_139 : decode cX5_hunk 139 = .ok (.istore 5, 2) := by decide +kernel
theorem dX5_hunk_141 : decode cX5_hunk 141 = .ok (.iinc 6 1, 3) := by decide +kernel
theorem dX5_hunk_144 : decode cX5_hunk 144 = .ok (.goto (-45), 3) := by decide +kernel
theorem dX5_hunk_147 : decode cX5_hunk 147 = .ok (.iload_n 2, 1) := by decide +kernel
theorem dX5_hunk_148 : decode cX5_hunk 148 = .ok (.ifCond .ne 12, 3) := by decide +kernel
theorem dX5_hunk_151 : decode cX5_hunk 151 = .ok (.aload_n 0, 1) := by decide +kernel
theorem dX5_hunk_152 : decode cX5_hunk 152 = .ok (.getfield 28, 3) := by decide +kernel
theorem dX5_hunk_155 : decode cX5_hunk 155 = .ok (.iload_n 3, 1) := by decide +kernel
theorem dX5_hunk_156 : decode cX5_hunk 156 = .ok (.baload, 1) := by decide +kernel
theorem dX5_hunk_157 : decode cX5_hunk 157 = .ok (.goto 19, 3) := by decide +kernel
theorem dX5_hunk_160 : decode cX5_hunk 160 = .ok (.iload_n 2, 1) := by decide +kernel
theorem dX5_hunk_161 : decode cX5_hunk 161 = .ok (.iconst 1, 1) := by decide +kernel
theorem dX5_hunk_162 : decode cX5_hunk 162 = .ok (.if_icmp .ne 12, 3) := by decide +kernel
theorem dX5_hunk_165 : decode cX5_hunk 165 = .ok (.aload_n 0, 1) := by decide +kernel
theorem dX5_hunk_166 : decode cX5_hunk 166 = .ok (.getfield 31, 3) := by decide +kernel
theorem dX5_hunk_169 : decode cX5_hunk 169 = .ok (.iload_n 3, 1) := by decide +kernel
theorem dX5_hunk_170 : decode cX5_hunk 170 = .ok (.baload, 1) := by decide +kernel
theorem dX5_hunk_171 : decode cX5_hunk 171 = .ok (.goto 5, 3) := by decide +kernel
theorem dX5_hunk_174 : decode cX5_hunk 174 = .ok (.iload 5, 2) := by decide +kernel
theorem dX5_hunk_176 : decode cX5_hunk 176 = .ok (.ireturn, 1) := by decide +kernel
theorem dX5_store_0 : decode cX5_store 0 = .ok (.iconst 0, 1) := by decide +kernel
theorem dX5_store_1 : decode cX5_store 1 = .ok (.istore_n 3, 1) := by decide +kernel
theorem dX5_store_2 : decode cX5_store 2 = .ok (.iload_n 3, 1) := by decide +kernel
theorem dX5_store_3 : decode cX5_store 3 = .ok (.iload_n 2, 1) := by decide +kernel
theorem dX5_store_4 : decode cX5_store 4 = .ok (.if_icmp .ge 26, 3) := by decide +kernel
theorem dX5_store_7 : decode cX5_store 7 = .ok (.aload_n 0, 1) := by decide +kernel
theorem dX5_store_8 : decode cX5_store 8 = .ok (.getfield 13, 3) := by decide +kernel
theorem dX5_store_11 : decode cX5_store 11 = .ok (.bipush 120, 2) := by decide +kernel
theorem dX5_store_13 : decode cX5_store 13 = .ok (.iload_n 1, 1) := by decide +kernel
theorem dX5_store_14 : decode cX5_store 14 = .ok (.imul, 1) := by decide +kernel
theorem dX5_store_15 : decode cX5_store 15 = .ok (.iload_n 3, 1) := by decide +kernel
theorem dX5_store_16 : decode cX5_store 16 = .ok (.iadd, 1) := by decide +kernel
theorem dX5_store_17 : decode cX5_store 17 = .ok (.aload_n 0, 1) := by decide +kernel
theorem dX5_store_18 : decode cX5_store 18 = .ok (.getfield 65, 3) := by decide +kernel
theorem dX5_store_21 : decode cX5_store 21 = .ok (.iload_n 3, 1) := by decide +kernel
theorem dX5_store_22 : decode cX5_store 22 = .ok (.iaload, 1) := by decide +kernel
theorem dX5_store_23 : decode cX5_store 23 = .ok (.iastore, 1) := by decide +kernel
theorem dX5_store_24 : decode cX5_store 24 = .ok (.iinc 3 1, 3) := by decide +kernel
theorem dX5_store_27 : decode cX5_store 27 = .ok (.goto (-25), 3) := by decide +kernel
theorem dX5_store_30 : decode cX5_store 30 = .ok (.aload_n 0, 1) := by decide +kernel
theorem dX5_store_31 : decode cX5_store 31 = .ok (.getfield 7, 3) := by decide +kernel
theorem dX5_store_34 : decode cX5_store 34 = .ok (.iload_n 1, 1) := by decide +kernel
theorem dX5_store_35 : decode cX5_store 35 = .ok (.iload_n 2, 1) := by decide +kernel
theorem dX5_store_36 : decode cX5_store 36 = .ok (.iastore, 1) := by decide +kernel
theorem dX5_store_37 : decode cX5_store 37 = .ok (.return_, 1) := by decide +kernel
theorem dX5_apply_0 : decode cX5_apply 0 = .ok (.aload_n 0, 1) := by decide +kernel
theorem dX5_apply_1 : decode cX5_apply 1 = .ok (.iload_n 1, 1) := by decide +kernel
theorem dX5_apply_2 : decode cX5_apply 2 = .ok (.invokestatic 71, 3) := by decide +kernel
theorem dX5_apply_5 : decode cX5_apply 5 = .ok (.ifCond .eq 10, 3) := by decide +kernel
theorem dX5_apply_8 : decode cX5_apply 8 = .ok (.iload_n 2, 1) := by decide +kernel
theorem dX5_apply_9 : decode cX5_apply 9 = .ok (.invokestatic 71, 3) := by decide +kernel
theorem dX5_apply_12 : decode cX5_apply 12 = .ok (.ifCond .ne 7, 3) := by decide +kernel
theorem dX5_apply_15 : decode cX5_apply 15 = .ok (.iconst 1, 1) := by decide +kernel
theorem dX5_apply_16 : decode cX5_apply 16 = .ok (.goto 15, 3) := by decide +kernel
theorem dX5_apply_19 : decode cX5_apply 19 = .ok (.aload_n 0, 1) := by decide +kernel
theorem dX5_apply_20 : decode cX5_apply 20 = .ok (.getfield 20, 3) := by decide +kernel
theorem dX5_apply_23 : decode cX5_apply 23 = .ok (.ifCond .ge 7, 3) := by decide +kernel
theorem dX5_apply_26 : decode cX5_apply 26 = .ok (.iconst 2, 1) := by decide +kernel
theorem dX5_apply_27 : decode cX5_apply 27 = .ok (.goto 4, 3) := by decide +kernel
theorem dX5_apply_30 : decode cX5_apply 30 = .ok (.iconst 0, 1) := by decide +kernel
theorem dX5_apply_31 : decode cX5_apply 31 = .ok (.putfield 68, 3) := by decide +kernel
theorem dX5_apply_34 : decode cX5_apply 34 = .ok (.aload_n 0, 1) := by decide +kernel
theorem dX5_apply_35 : decode cX5_apply 35 = .ok (.getfield 68, 3) := by decide +kernel
theorem dX5_apply_38 : decode cX5_apply 38 = .ok (.ifCond .le 5, 3) := by decide +kernel
theorem dX5_apply_41 : decode cX5_apply 41 = .ok (.iconst 0, 1) := by decide +kernel
theorem dX5_apply_42 : decode cX5_apply 42 = .ok (.ireturn, 1) := by decide +kernel
theorem dX5_apply_43 : decode cX5_apply 43 = .ok (.iconst 0, 1) := by decide +kernel
theorem dX5_apply_44 : decode cX5_apply 44 = .ok (.istore 4, 2) := by decide +kernel
theorem dX5_apply_46 : decode cX5_apply 46 = .ok (.iconst 0, 1) := by decide +kernel
theorem dX5_apply_47 : decode cX5_apply 47 = .ok (.istore 5, 2) := by decide +kernel
theorem dX5_apply_49 : decode cX5_apply 49 = .ok (.iload_n 3, 1) := by decide +kernel
theorem dX5_apply_50 : decode cX5_apply 50 = .ok (.ifCond .eq 7, 3) := by decide +kernel
theorem dX5_apply_53 : decode cX5_apply 53 = .ok (.iconst 2, 1) := by decide +kernel
theorem dX5_apply_54 : decode cX5_apply 54 = .ok (.goto 4, 3) := by decide +kernel
theorem dX5_apply_57 : decode cX5_apply 57 = .ok (.iconst 1, 1) := by decide +kernel
theorem dX5_apply_58 : decode cX5_apply 58 = .ok (.istore 6, 2) := by decide +kernel
theorem dX5_apply_60 : decode cX5_apply 60 = .ok (.iconst 0, 1) := by decide +kernel
theorem dX5_apply_61 : decode cX5_apply 61 = .ok (.istore 7, 2) := by decide +kernel
theorem dX5_apply_63 : decode cX5_apply 63 = .ok (.iload 7, 2) := by decide +kernel
theorem dX5_apply_65 : decode cX5_apply 65 = .ok (.aload_n 0, 1) := by decide +kernel
theorem dX5_apply_66 : decode cX5_apply 66 = .ok (.getfield 20, 3) := by decide +kernel
theorem dX5_apply_69 : decode cX5_apply 69 = .ok (.if_icmp .ge 102, 3) := by decide +kernel
theorem dX5_apply_72 : decode cX5_apply 72 = .ok (.aload_n 0, 1) := by decide +kernel
theorem dX5_apply_73 : decode cX5_apply 73 = .ok (.getfield 24, 3) := by decide +kernel
theorem dX5_apply_76 : decode cX5_apply 76 = .ok (.iload 7, 2) := by decide +kernel
theorem dX5_apply_78 : decode cX5_apply 78 = .ok (.baload, 1) := by decide +kernel
theorem dX5_apply_79 : decode cX5_apply 79 = .ok (.ifCond .eq 15, 3) := by decide +kernel
theorem dX5_apply_82 : decode cX5_apply 82 = .ok (.aload_n 0, 1) := by decide +kernel
theorem dX5_apply_83 : decode cX5_apply 83 = .ok (.getfield 24, 3) := by decide +kernel
theorem dX5_apply_86 : decode cX5_apply 86 = .ok (.iload 7, 2) := by decide +kernel
theorem dX5_apply_88 : decode cX5_apply 88 = .ok (.baload, 1) := by decide +kernel
theorem dX5_apply_89 : decode cX5_apply 89 = .ok (.iload 6, 2) := by decide +kernel
theorem dX5_apply_91 : decode cX5_apply 91 = .ok (.if_icmp .ne 45, 3) := by decide +kernel
theorem dX5_apply_94 : decode cX5_apply 94 = .ok (.iload 4, 2) := by decide +kernel
theorem dX5_apply_96 : decode cX5_apply 96 = .ok (.aload_n 0, 1) := by decide +kernel
theorem dX5_apply_97 : decode cX5_apply 97 = .ok (.getfield 7, 3) := by decide +kernel
theorem dX5_apply_100 : decode cX5_apply 100 = .ok (.iload_n 1, 1) := by decide +kernel
theorem dX5_apply_101 : decode cX5_apply 101 = .ok (.iaload, 1) := by decide +kernel
theorem dX5_apply_102 : decode cX5_apply 102 = .ok (.if_icmp .ge 25, 3) := by decide +kernel
theorem dX5_apply_105 : decode cX5_apply 105 = .ok (.aload_n 0, 1) := by decide +kernel
theorem dX5_apply_106 : decode cX5_apply 106 = .ok (.getfield 13, 3) := by decide +kernel
theorem dX5_apply_109 : decode cX5_apply 109 = .ok (.bipush 120, 2) := by decide +kernel
theorem dX5_apply_111 : decode cX5_apply 111 = .ok (.iload_n 1, 1) := by decide +kernel
theorem dX5_apply_112 : decode cX5_apply 112 = .ok (.imul, 1) := by decide +kernel
theorem dX5_apply_113 : decode cX5_apply 113 = .ok (.iload 4, 2) := by decide +kernel
theorem dX5_apply_115 : decode cX5_apply 115 = .ok (.iadd, 1) := by decide +kernel
theorem dX5_apply_116 : decode cX5_apply 116 = .ok (.iaload, 1) := by decide +kernel
theorem dX5_apply_117 : decode cX5_apply 117 = .ok (.aload_n 0, 1) := by decide +kernel
theorem dX5_apply_118 : decode cX5_apply 118 = .ok (.getfield 34, 3) := by decide +kernel
theorem dX5_apply_121 : decode cX5_apply 121 = .ok (.iload 7, 2) := by decide +kernel
theorem dX5_apply_123 : decode cX5_apply 123 = .ok (.iaload, 1) := by decide +kernel
theorem dX5_apply_124 : decode cX5_apply 124 = .ok (.if_icmp .eq 9, 3) := by decide +kernel
theorem dX5_apply_127 : decode cX5_apply 127 = .ok (.aload_n 0, 1) := by decide +kernel
theorem dX5_apply_128 : decode cX5_apply 128 = .ok (.iconst 2, 1) := by decide +kernel
theorem dX5_apply_129 : decode cX5_apply 129 = .ok (.invokevirtual 83, 3) := by decide +kernel
theorem dX5_apply_132 : decode cX5_apply 132 = .ok (.ireturn, 1) := by decide +kernel
theorem dX5_apply_133 : decode cX5_apply 133 = .ok (.iinc 4 1, 3) := by decide +kernel
theorem dX5_apply_136 : decode cX5_apply 136 = .ok (.aload_n 0, 1) := by decide +kernel
theorem dX5_apply_137 : decode cX5_apply 137 = .ok (.getfield 24, 3) := by decide +kernel
theorem dX5_apply_140 : decode cX5_apply 140 = .ok (.iload 7, 2) := by decide +kernel
theorem dX5_apply_142 : decode cX5_apply 142 = .ok (.baload, 1) := by decide +kernel
theorem dX5_apply_143 : decode cX5_apply 143 = .ok (.iload 6, 2) := by decide +kernel
theorem dX5_apply_145 : decode cX5_apply 145 = .ok (.if_icmp .eq 20, 3) := by decide +kernel
theorem dX5_apply_148 : decode cX5_apply 148 = .ok (.aload_n 0, 1) := by decide +kernel
theorem dX5_apply_149 : decode cX5_apply 149 = .ok (.getfield 65, 3) := by decide +kernel
theorem dX5_apply_152 : decode cX5_apply 152 = .ok (.iload 5, 2) := by decide +kernel
theorem dX5_apply_154 : decode cX5_apply 154 = .ok (.aload_n 0, 1) := by decide +kernel
theorem dX5_apply_155 : decode cX5_apply 155 = .ok (.getfield 34, 3) := by decide +kernel
theorem dX5_apply_158 : decode cX5_apply 158 = .ok (.iload 7, 2) := by decide +kernel
theorem dX5_apply_160 : decode cX5_apply 160 = .ok (.iaload, 1) := by decide +kernel
theorem dX5_apply_161 : decode cX5_apply 161 = .ok (.iastore, 1) := by decide +kernel
theorem dX5_apply_162 : decode cX5_apply 162 = .ok (.iinc 5 1, 3) := by decide +kernel
theorem dX5_apply_165 : decode cX5_apply 165 = .ok (.iinc 7 1, 3) := by decide +kernel
theorem dX5_apply_168 : decode cX5_apply 168 = .ok (.goto (-105), 3) := by decide +kernel
theorem dX5_apply_171 : decode cX5_apply 171 = .ok (.iload 4, 2) := by decide +kernel
theorem dX5_apply_173 : decode cX5_apply 173 = .ok (.aload_n 0, 1) := by decide +kernel
theorem dX5_apply_174 : decode cX5_apply 174 = .ok (.getfield 7, 3) := by decide +kernel
theorem dX5_apply_177 : decode cX5_apply 177 = .ok (.iload_n 1, 1) := by decide +kernel
theorem dX5_apply_178 : decode cX5_apply 178 = .ok (.iaload, 1) := by decide +kernel
theorem dX5_apply_179 : decode cX5_apply 179 = .ok (.if_icmp .ge 9, 3) := by decide +kernel
theorem dX5_apply_182 : decode cX5_apply 182 = .ok (.aload_n 0, 1) := by decide +kernel
theorem dX5_apply_183 : decode cX5_apply 183 = .ok (.iconst 2, 1) := by decide +kernel
theorem dX5_apply_184 : decode cX5_apply 184 = .ok (.invokevirtual 83, 3) := by decide +kernel
theorem dX5_apply_187 : decode cX5_apply 187 = .ok (.ireturn, 1) := by decide +kernel
theorem dX5_apply_188 : decode cX5_apply 188 = .ok (.aload_n 0, 1) := by decide +kernel
theorem dX5_apply_189 : decode cX5_apply 189 = .ok (.iload_n 2, 1) := by decide +kernel
theorem dX5_apply_190 : decode cX5_apply 190 = .ok (.iload 5, 2) := by decide +kernel
theorem dX5_apply_192 : decode cX5_apply 192 = .ok (.invokevirtual 94, 3) := by decide +kernel
theorem dX5_apply_195 : decode cX5_apply 195 = .ok (.iload 5, 2) := by decide +kernel
theorem dX5_apply_197 : decode cX5_apply 197 = .ok (.ireturn, 1) := by decide +kernel
theorem dX5_side_0 : decode cX5_side 0 = .ok (.aload_n 0, 1) := by decide +kernel
theorem dX5_side_1 : decode cX5_side 1 = .ok (.iload_n 2, 1) := by decide +kernel
theorem dX5_side_2 : decode cX5_side 2 = .ok (.iload_n 3, 1) := by decide +kernel
theorem dX5_side_3 : decode cX5_side 3 = .ok (.invokevirtual 79, 3) := by decide +kernel
theorem dX5_side_6 : decode cX5_side 6 = .ok (.bipush 100, 2) := by decide +kernel
theorem dX5_side_8 : decode cX5_side 8 = .ok (.if_icmp .le 5, 3) := by decide +kernel
theorem dX5_side_11 : decode cX5_side 11 = .ok (.iconst 0, 1) := by decide +kernel
theorem dX5_side_12 : decode cX5_side 12 = .ok (.ireturn, 1) := by decide +kernel
theorem dX5_side_13 : decode cX5_side 13 = .ok (.iconst 0, 1) := by decide +kernel
theorem dX5_side_14 : decode cX5_side 14 = .ok (.istore 4, 2) := by decide +kernel
theorem dX5_side_16 : decode cX5_side 16 = .ok (.iconst 0, 1) := by decide +kernel
theorem dX5_side_17 : decode cX5_side 17 = .ok (.istore 5, 2) := by decide +kernel
theorem dX5_side_19 : decode cX5_side 19 = .ok (.iload 5, 2) := by decide +kernel
theorem dX5_side_21 : decode cX5_side 21 = .ok (.aload_n 0, 1) := by decide +kernel
theorem dX5_side_22 : decode cX5_side 22 = .ok (.getfield 7, 3) := by decide +kernel
theorem dX5_side_25 : decode cX5_side 25 = .ok (.iload_n 2, 1) := by decide +kernel
theorem dX5_side_26 : decode cX5_side 26 = .ok (.iaload, 1) := by decide +kernel
theorem dX5_side_27 : decode cX5_side 27 = .ok (.if_icmp .gt 126, 3) := by decide +kernel
theorem dX5_side_30 : decode cX5_side 30 = .ok (.aload_n 0, 1) := by decide +kernel
theorem dX5_side_31 : decode cX5_side 31 = .ok (.getfield 37, 3) := by decide +kernel
theorem dX5_side_34 : decode cX5_side 34 = .ok (.bipush 121, 2) := by decide +kernel
theorem dX5_side_36 : decode cX5_side 36 = .ok (.iload_n 1, 1) := by decide +kernel
theorem dX5_side_37 : decode cX5_side 37 = .ok (.imul, 1) := by decide +kernel
theorem dX5_side_38 : decode cX5_side 38 = .ok (.iload 5, 2) := by decide +kernel
theorem dX5_side_40 : decode cX5_side 40 = .ok (.iadd, 1) := by decide +kernel
theorem dX5_side_41 : decode cX5_side 41 = .ok (.iload 4, 2) := by decide +kernel
theorem dX5_side_43 : decode cX5_side 43 = .ok (.i2b, 1) := by decide +kernel
theorem dX5_side_44 : decode cX5_side 44 = .ok (.bastore, 1) := by decide +kernel
theorem dX5_side_45 : decode cX5_side 45 = .ok (.aload_n 0, 1) := by decide +kernel
theorem dX5_side_46 : decode cX5_side 46 = .ok (.iload_n 2, 1) := by decide +kernel
theorem dX5_side_47 : decode cX5_side 47 = .ok (.iload 5, 2) := by decide +kernel
theorem dX5_side_49 : decode cX5_side 49 = .ok (.iload_n 3, 1) := by decide +kernel
theorem dX5_side_50 : decode cX5_side 50 = .ok (.iload 4, 2) := by decide +kernel
theorem dX5_side_52 : decode cX5_side 52 = .ok (.invokevirtual 87, 3) := by decide +kernel
theorem dX5_side_55 : decode cX5_side 55 = .ok (.iconst 2, 1) := by decide +kernel
theorem dX5_side_56 : decode cX5_side 56 = .ok (.if_icmp .ne 9, 3) := by decide +kernel
theorem dX5_side_59 : decode cX5_side 59 = .ok (.iinc 4 1, 3) := by decide +kernel
theorem dX5_side_62 : decode cX5_side 62 = .ok (.goto (-17), 3) := by decide +kernel
theorem dX5_side_65 : decode cX5_side 65 = .ok (.aload_n 0, 1) := by decide +kernel
theorem dX5_side_66 : decode cX5_side 66 = .ok (.getfield 40, 3) := by decide +kernel
theorem dX5_side_69 : decode cX5_side 69 = .ok (.bipush 121, 2) := by decide +kernel
theorem dX5_side_71 : decode cX5_side 71 = .ok (.iload_n 1, 1) := by decide +kernel
theorem dX5_side_72 : decode cX5_side 72 = .ok (.imul, 1) := by decide +kernel
theorem dX5_side_73 : decode cX5_side 73 = .ok (.iload 5, 2) := by decide +kernel
theorem dX5_side_75 : decode cX5_side 75 = .ok (.iadd, 1) := by decide +kernel
theorem dX5_side_76 : decode cX5_side 76 = .ok (.iload 4, 2) := by decide +kernel
theorem dX5_side_78 : decode cX5_side 78 = .ok (.aload_n 0, 1) := by decide +kernel
theorem dX5_side_79 : decode cX5_side 79 = .ok (.getfield 37, 3) := by decide +kernel
theorem dX5_side_82 : decode cX5_side 82 = .ok (.bipush 121, 2) := by decide +kernel
theorem dX5_side_84 : decode cX5_side 84 = .ok (.iload_n 1, 1) := by decide +kernel
theorem dX5_side_85 : decode cX5_side 85 = .ok (.imul, 1) := by decide +kernel
theorem dX5_side_86 : decode cX5_side 86 = .ok (.iload 5, 2) := by decide +kernel
theorem dX5_side_88 : decode cX5_side 88 = .ok (.iadd, 1) := by decide +kernel
theorem dX5_side_89 : decode cX5_side 89 = .ok (.baload, 1) := by decide +kernel
theorem dX5_side_90 : decode cX5_side 90 = .ok (.isub, 1) := by decide +kernel
theorem dX5_side_91 : decode cX5_side 91 = .ok (.i2b, 1) := by decide +kernel
theorem dX5_side_92 : decode cX5_side 92 = .ok (.bastore, 1) := by decide +kernel
theorem dX5_side_93 : decode cX5_side 93 = .ok (.aload_n 0, 1) := by decide +kernel
theorem dX5_side_94 : decode cX5_side 94 = .ok (.getfield 43, 3) := by decide +kernel
theorem dX5_side_97 : decode cX5_side 97 = .ok (.bipush 121, 2) := by decide +kernel
theorem dX5_side_99 : decode cX5_side 99 = .ok (.iload_n 1, 1) := by decide +kernel
theorem dX5_side_100 : decode cX5_side 100 = .ok (.imul, 1) := by decide +kernel
theorem dX5_side_101 : decode cX5_side 101 = .ok (.iload 5, 2) := by decide +kernel
theorem dX5_side_103 : decode cX5_side 103 = .ok (.iadd, 1) := by decide +kernel
theorem dX5_side_104 : decode cX5_side 104 = .ok (.aload_n 0, 1) := by decide +kernel
theorem dX5_side_105 : decode cX5_side 105 = .ok (.iload_n 2, 1) := by decide +kernel
theorem dX5_side_106 : decode cX5_side 106 = .ok (.iload 5, 2) := by decide +kernel
theorem dX5_side_108 : decode cX5_side 108 = .ok (.iload_n 3, 1) := by decide +kernel
theorem dX5_side_109 : decode cX5_side 109 = .ok (.iload 4, 2) := by decide +kernel
theorem dX5_side_111 : decode cX5_side 111 = .ok (.invokevirtual 87, 3) := by decide +kernel
theorem dX5_side_114 : decode cX5_side 114 = .ok (.iconst 1, 1) := by decide +kernel
theorem dX5_side_115 : decode cX5_side 115 = .ok (.if_icmp .ne 7, 3) := by decide +kernel
theorem dX5_side_118 : decode cX5_side 118 = .ok (.iconst 1, 1) := by decide +kernel
theorem dX5_side_119 : decode cX5_side 119 = .ok (.goto 4, 3) := by decide +kernel
theorem dX5_side_122 : decode cX5_side 122 = .ok (.iconst 0, 1) := by decide +kernel
theorem dX5_side_123 : decode cX5_side 123 = .ok (.bastore, 1) := by decide +kernel
theorem dX5_side_124 : decode cX5_side 124 = .ok (.iload 4, 2) := by decide +kernel
theorem dX5_side_126 : decode cX5_side 126 = .ok (.aload_n 0, 1) := by decide +kernel
theorem dX5_side_127 : decode cX5_side 127 = .ok (.iload_n 2, 1) := by decide +kernel
theorem dX5_side_128 : decode cX5_side 128 = .ok (.iload 5, 2) := by decide +kernel
theorem dX5_side_130 : decode cX5_side 130 = .ok (.iload_n 3, 1) := by decide +kernel
theorem dX5_side_131 : decode cX5_side 131 = .ok (.iload 4, 2) := by decide +kernel
theorem dX5_side_133 : decode cX5_side 133 = .ok (.invokevirtual 87, 3) := by decide +kernel
theorem dX5_side_136 : decode cX5_side 136 = .ok (.ifCond .ne 7, 3) := by decide +kernel
theorem dX5_side_139 : decode cX5_side 139 = .ok (.iconst 1, 1) := by decide +kernel
theorem dX5_side_140 : decode cX5_side 140 = .ok (.goto 4, 3) := by decide +kernel
theorem dX5_side_143 : decode cX5_side 143 = .ok (.iconst 0, 1) := by decide +kernel
theorem dX5_side_144 : decode cX5_side 144 = .ok (.iadd, 1) := by decide +kernel
theorem dX5_side_145 : decode cX5_side 145 = .ok (.istore 4, 2) := by decide +kernel
theorem dX5_side_147 : decode cX5_side 147 = .ok (.iinc 5 1, 3) := by decide +kernel
theorem dX5_side_150 : decode cX5_side 150 = .ok (.goto (-131), 3) := by decide +kernel
theorem dX5_side_153 : decode cX5_side 153 = .ok (.iconst 1, 1) := by decide +kernel
theorem dX5_side_154 : decode cX5_side 154 = .ok (.ireturn, 1) := by decide +kernel
theorem dX5_enter_0 : decode cX5_enter 0 = .ok (.aload_n 0, 1) := by decide +kernel
theorem dX5_enter_1 : decode cX5_enter 1 = .ok (.getfield 53, 3) := by decide +kernel
theorem dX5_enter_4 : decode cX5_enter 4 = .ok (.aload_n 0, 1) := by decide +kernel
theorem dX5_enter_5 : decode cX5_enter 5 = .ok (.getfield 47, 3) := by decide +kernel
theorem dX5_enter_8 : decode cX5_enter 8 = .ok (.iload_n 1, 1) := by decide +kernel
theorem dX5_enter_9 : decode cX5_enter 9 = .ok (.iastore, 1) := by decide +kernel
theorem dX5_enter_10 : decode cX5_enter 10 = .ok (.aload_n 0, 1) := by decide +kernel
theorem dX5_enter_11 : decode cX5_enter 11 = .ok (.getfield 56, 3) := by decide +kernel
theorem dX5_enter_14 : decode cX5_enter 14 = .ok (.aload_n 0, 1) := by decide +kernel
theorem dX5_enter_15 : decode cX5_enter 15 = .ok (.getfield 47, 3) := by decide +kernel
theorem dX5_enter_18 : decode cX5_enter 18 = .ok (.iload_n 2, 1) := by decide +kernel
theorem dX5_enter_19 : decode cX5_enter 19 = .ok (.i2b, 1) := by decide +kernel
theorem dX5_enter_20 : decode cX5_enter 20 = .ok (.bastore, 1) := by decide +kernel
theorem dX5_enter_21 : decode cX5_enter 21 = .ok (.aload_n 0, 1) := by decide +kernel
theorem dX5_enter_22 : decode cX5_enter 22 = .ok (.getfield 59, 3) := by decide +kernel
theorem dX5_enter_25 : decode cX5_enter 25 = .ok (.aload_n 0, 1) := by decide +kernel
theorem dX5_enter_26 : decode cX5_enter 26 = .ok (.getfield 47, 3) := by decide +kernel
theorem dX5_enter_29 : decode cX5_enter 29 = .ok (.iload_n 3, 1) := by decide +kernel
theorem dX5_enter_30 : decode cX5_enter 30 = .ok (.i2b, 1) := by decide +kernel
theorem dX5_enter_31 : decode cX5_enter 31 = .ok (.bastore, 1) := by decide +kernel
theorem dX5_enter_32 : decode cX5_enter 32 = .ok (.aload_n 0, 1) := by decide +kernel
theorem dX5_enter_33 : decode cX5_enter 33 = .ok (.getfield 62, 3) := by decide +kernel
theorem dX5_enter_36 : decode cX5_enter 36 = .ok (.aload_n 0, 1) := by decide +kernel
theorem dX5_enter_37 : decode cX5_enter 37 = .ok (.getfield 47, 3) := by decide +kernel
theorem dX5_enter_40 : decode cX5_enter 40 = .ok (.iload 4, 2) := by decide +kernel
theorem dX5_enter_42 : decode cX5_enter 42 = .ok (.i2b, 1) := by decide +kernel
theorem dX5_enter_43 : decode cX5_enter 43 = .ok (.bastore, 1) := by decide +kernel
theorem dX5_enter_44 : decode cX5_enter 44 = .ok (.aload_n 0, 1) := by decide +kernel
theorem dX5_enter_45 : decode cX5_enter 45 = .ok (.dup, 1) := by decide +kernel
theorem dX5_enter_46 : decode cX5_enter 46 = .ok (.getfield 47, 3) := by decide +kernel
theorem dX5_enter_49 : decode cX5_enter 49 = .ok (.iconst 1, 1) := by decide +kernel
theorem dX5_enter_50 : decode cX5_enter 50 = .ok (.iadd, 1) := by decide +kernel
theorem dX5_enter_51 : decode cX5_enter 51 = .ok (.putfield 47, 3) := by decide +kernel
theorem dX5_enter_54 : decode cX5_enter 54 = .ok (.return_, 1) := by decide +kernel
theorem dX5_putIn_0 : decode cX5_putIn 0 = .ok (.aload_n 0, 1) := by decide +kernel
theorem dX5_putIn_1 : decode cX5_putIn 1 = .ok (.getfield 37, 3) := by decide +kernel
theorem dX5_putIn_4 : decode cX5_putIn 4 = .ok (.iload_n 1, 1) := by decide +kernel
theorem dX5_putIn_5 : decode cX5_putIn 5 = .ok (.baload, 1) := by decide +kernel
theorem dX5_putIn_6 : decode cX5_putIn 6 = .ok (.istore 4, 2) := by decide +kernel
theorem dX5_putIn_8 : decode cX5_putIn 8 = .ok (.aload_n 0, 1) := by decide +kernel
theorem dX5_putIn_9 : decode cX5_putIn 9 = .ok (.getfield 37, 3) := by decide +kernel
theorem dX5_putIn_12 : decode cX5_putIn 12 = .ok (.bipush 121, 2) := by decide +kernel
theorem dX5_putIn_14 : decode cX5_putIn 14 = .ok (.iload_n 1, 1) := by decide +kernel
theorem dX5_putIn_15 : decode cX5_putIn 15 = .ok (.iadd, 1) := by decide +kernel
theorem dX5_putIn_16 : decode cX5_putIn 16 = .ok (.baload, 1) := by decide +kernel
theorem dX5_putIn_17 : decode cX5_putIn 17 = .ok (.istore 5, 2) := by decide +kernel
theorem dX5_putIn_19 : decode cX5_putIn 19 = .ok (.aload_n 0, 1) := by decide +kernel
theorem dX5_putIn_20 : decode cX5_putIn 20 = .ok (.getfield 40, 3) := by decide +kernel
theorem dX5_putIn_23 : decode cX5_putIn 23 = .ok (.iload_n 1, 1) := by decide +kernel
theorem dX5_putIn_24 : decode cX5_putIn 24 = .ok (.baload, 1) := by decide +kernel
theorem dX5_putIn_25 : decode cX5_putIn 25 = .ok (.istore 6, 2) := by decide +kernel
theorem dX5_putIn_27 : decode cX5_putIn 27 = .ok (.aload_n 0, 1) := by decide +kernel
theorem dX5_putIn_28 : decode cX5_putIn 28 = .ok (.getfield 40, 3) := by decide +kernel
theorem dX5_putIn_31 : decode cX5_putIn 31 = .ok (.bipush 121, 2) := by decide +kernel
theorem dX5_putIn_33 : decode cX5_putIn 33 = .ok (.iload_n 1, 1) := by decide +kernel
theorem dX5_putIn_34 : decode cX5_putIn 34 = .ok (.iadd, 1) := by decide +kernel
theorem dX5_putIn_35 : decode cX5_putIn 35 = .ok (.baload, 1) := by decide +kernel
theorem dX5_putIn_36 : decode cX5_putIn 36 = .ok (.istore 7, 2) := by decide +kernel
theorem dX5_putIn_38 : decode cX5_putIn 38 = .ok (.iconst 0, 1) := by decide +kernel
theorem dX5_putIn_39 : decode cX5_putIn 39 = .ok (.istore 8, 2) := by decide +kernel
theorem dX5_putIn_41 : decode cX5_putIn 41 = .ok (.iload 8, 2) := by decide +kernel
theorem dX5_putIn_43 : decode cX5_putIn 43 = .ok (.iload 6, 2) := by decide +kernel
theorem dX5_putIn_45 : decode cX5_putIn 45 = .ok (.if_icmp .ge 57, 3) := by decide +kernel
theorem dX5_putIn_48 : decode cX5_putIn 48 = .ok (.iload 8, 2) := by decide +kernel
theorem dX5_putIn_50 : decode cX5_putIn 50 = .ok (.iload 7, 2) := by decide +kernel
theorem dX5_putIn_52 : decode cX5_putIn 52 = .ok (.if_icmp .ge 50, 3) := by decide +kernel
theorem dX5_putIn_55 : decode cX5_putIn 55 = .ok (.aload_n 0, 1) := by decide +kernel
theorem dX5_putIn_56 : decode cX5_putIn 56 = .ok (.iload_n 2, 1) := by decide +kernel
theorem dX5_putIn_57 : decode cX5_putIn 57 = .ok (.iload 4, 2) := by decide +kernel
theorem dX5_putIn_59 : decode cX5_putIn 59 = .ok (.iload 8, 2) := by decide +kernel
theorem dX5_putIn_61 : decode cX5_putIn 61 = .ok (.iadd, 1) := by decide +kernel
theorem dX5_putIn_62 : decode cX5_putIn 62 = .ok (.iload_n 3, 1) := by decide +kernel
theorem dX5_putIn_63 : decode cX5_putIn 63 = .ok (.iload 5, 2) := by decide +kernel
theorem dX5_putIn_65 : decode cX5_putIn 65 = .ok (.iload 8, 2) := by decide +kernel
theorem dX5_putIn_67 : decode cX5_putIn 67 = .ok (.iadd, 1) := by decide +kernel
theorem dX5_putIn_68 : decode cX5_putIn 68 = .ok (.invokevirtual 75, 3) := by decide +kernel
theorem dX5_putIn_71 : decode cX5_putIn 71 = .ok (.ifCond .eq 31, 3) := by decide +kernel
theorem dX5_putIn_74 : decode cX5_putIn 74 = .ok (.aload_n 0, 1) := by decide +kernel
theorem dX5_putIn_75 : decode cX5_putIn 75 = .ok (.aload_n 0, 1) := by decide +kernel
theorem dX5_putIn_76 : decode cX5_putIn 76 = .ok (.getfield 13, 3) := by decide +kernel
theorem dX5_putIn_79 : decode cX5_putIn 79 = .ok (.bipush 120, 2) := by decide +kernel
theorem dX5_putIn_81 : decode cX5_putIn 81 = .ok (.iload_n 2, 1) := by decide +kernel
theorem dX5_putIn_82 : decode cX5_putIn 82 = .ok (.imul, 1) := by decide +kernel
theorem dX5_putIn_83 : decode cX5_putIn 83 = .ok (.iload 4, 2) := by decide +kernel
theorem dX5_putIn_85 : decode cX5_putIn 85 = .ok (.iadd, 1) := by decide +kernel
theorem dX5_putIn_86 : decode cX5_putIn 86 = .ok (.iload 8, 2) := by decide +kernel
theorem dX5_putIn_88 : decode cX5_putIn 88 = .ok (.iadd, 1) := by decide +kernel
theorem dX5_putIn_89 : decode cX5_putIn 89 = .ok (.iaload, 1) := by decide +kernel
theorem dX5_putIn_90 : decode cX5_putIn 90 = .ok (.iconst 3, 1) := by decide +kernel
theorem dX5_putIn_91 : decode cX5_putIn 91 = .ok (.iconst 0, 1) := by decide +kernel
theorem dX5_putIn_92 : decode cX5_putIn 92 = .ok (.iconst (-1), 1) := by decide +kernel
theorem dX5_putIn_93 : decode cX5_putIn 93 = .ok (.invokevirtual 98, 3) := by decide +kernel
theorem dX5_putIn_96 : decode cX5_putIn 96 = .ok (.iinc 8 1, 3) := by decide +kernel
theorem dX5_putIn_99 : decode cX5_putIn 99 = .ok (.goto (-58), 3) := by decide +kernel
theorem dX5_putIn_102 : decode cX5_putIn 102 = .ok (.iload 8, 2) := by decide +kernel
theorem dX5_putIn_104 : decode cX5_putIn 104 = .ok (.istore 9, 2) := by decide +kernel
theorem dX5_putIn_106 : decode cX5_putIn 106 = .ok (.iload 9, 2) := by decide +kernel
theorem dX5_putIn_108 : decode cX5_putIn 108 = .ok (.iload 6, 2) := by decide +kernel
theorem dX5_putIn_110 : decode cX5_putIn 110 = .ok (.if_icmp .ge 31, 3) := by decide +kernel
theorem dX5_putIn_113 : decode cX5_putIn 113 = .ok (.aload_n 0, 1) := by decide +kernel
theorem dX5_putIn_114 : decode cX5_putIn 114 = .ok (.aload_n 0, 1) := by decide +kernel
theorem dX5_putIn_115 : decode cX5_putIn 115 = .ok (.getfield 13, 3) := by decide +kernel
theorem dX5_putIn_118 : decode cX5_putIn 118 = .ok (.bipush 120, 2) := by decide +kernel
theorem dX5_putIn_120 : decode cX5_putIn 120 = .ok (.iload_n 2, 1) := by decide +kernel
theorem dX5_putIn_121 : decode cX5_putIn 121 = .ok (.imul, 1) := by decide +kernel
theorem dX5_putIn_122 : decode cX5_putIn 122 = .ok (.iload 4, 2) := by decide +kernel
theorem dX5_putIn_124 : decode cX5_putIn 124 = .ok (.iadd, 1) := by decide +kernel
theorem dX5_putIn_125 : decode cX5_putIn 125 = .ok (.iload 9, 2) := by decide +kernel
theorem dX5_putIn_127 : decode cX5_putIn 127 = .ok (.iadd, 1) := by decide +kernel
theorem dX5_putIn_128 : decode cX5_putIn 128 = .ok (.iaload, 1) := by decide +kernel
theorem dX5_putIn_129 : decode cX5_putIn 129 = .ok (.iconst 1, 1) := by decide +kernel
theorem dX5_putIn_130 : decode cX5_putIn 130 = .ok (.iconst 0, 1) := by decide +kernel
theorem dX5_putIn_131 : decode cX5_putIn 131 = .ok (.iconst (-1), 1) := by decide +kernel
theorem dX5_putIn_132 : decode cX5_putIn 132 = .ok (.invokevirtual 98, 3) := by decide +kernel
theorem dX5_putIn_135 : decode cX5_putIn 135 = .ok (.iinc 9 1, 3) := by decide +kernel
theorem dX5_putIn_138 : decode cX5_putIn 138 = .ok (.goto (-32), 3) := by decide +kernel
theorem dX5_putIn_141 : decode cX5_putIn 141 = .ok (.iload 8, 2) := by decide +kernel
theorem dX5_putIn_143 : decode cX5_putIn 143 = .ok (.istore 9, 2) := by decide +kernel
theorem dX5_putIn_145 : decode cX5_putIn 145 = .ok (.iload 9, 2) := by decide +kernel
theorem dX5_putIn_147 : decode cX5_putIn 147 = .ok (.iload 7, 2) := by decide +kernel
theorem dX5_putIn_149 : decode cX5_putIn 149 = .ok (.if_icmp .ge 31, 3) := by decide +kernel
theorem dX5_putIn_152 : decode cX5_putIn 152 = .ok (.aload_n 0, 1) := by decide +kernel
theorem dX5_putIn_153 : decode cX5_putIn 153 = .ok (.aload_n 0, 1) := by decide +kernel
theorem dX5_putIn_154 : decode cX5_putIn 154 = .ok (.getfield 13, 3) := by decide +kernel
theorem dX5_putIn_157 : decode cX5_putIn 157 = .ok (.bipush 120, 2) := by decide +kernel
theorem dX5_putIn_159 : decode cX5_putIn 159 = .ok (.iload_n 3, 1) := by decide +kernel
theorem dX5_putIn_160 : decode cX5_putIn 160 = .ok (.imul, 1) := by decide +kernel
theorem dX5_putIn_161 : decode cX5_putIn 161 = .ok (.iload 5, 2) := by decide +kernel
theorem dX5_putIn_163 : decode cX5_putIn 163 = .ok (.iadd, 1) := by decide +kernel
theorem dX5_putIn_164 : decode cX5_putIn 164 = .ok (.iload 9, 2) := by decide +kernel
theorem dX5_putIn_166 : decode cX5_putIn 166 = .ok (.iadd, 1) := by decide +kernel
theorem dX5_putIn_167 : decode cX5_putIn 167 = .ok (.iaload, 1) := by decide +kernel
theorem dX5_putIn_168 : decode cX5_putIn 168 = .ok (.iconst 2, 1) := by decide +kernel
theorem dX5_putIn_169 : decode cX5_putIn 169 = .ok (.iconst 0, 1) := by decide +kernel
theorem dX5_putIn_170 : decode cX5_putIn 170 = .ok (.iconst (-1), 1) := by decide +kernel
theorem dX5_putIn_171 : decode cX5_putIn 171 = .ok (.invokevirtual 98, 3) := by decide +kernel
theorem dX5_putIn_174 : decode cX5_putIn 174 = .ok (.iinc 9 1, 3) := by decide +kernel
theorem dX5_putIn_177 : decode cX5_putIn 177 = .ok (.goto (-32), 3) := by decide +kernel
theorem dX5_putIn_180 : decode cX5_putIn 180 = .ok (.aload_n 0, 1) := by decide +kernel
theorem dX5_putIn_181 : decode cX5_putIn 181 = .ok (.dup, 1) := by decide +kernel
theorem dX5_putIn_182 : decode cX5_putIn 182 = .ok (.getfield 50, 3) := by decide +kernel
theorem dX5_putIn_185 : decode cX5_putIn 185 = .ok (.iload 8, 2) := by decide +kernel
theorem dX5_putIn_187 : decode cX5_putIn 187 = .ok (.iload 6, 2) := by decide +kernel
theorem dX5_putIn_189 : decode cX5_putIn 189 = .ok (.if_icmp .ge 14, 3) := by decide +kernel
theorem dX5_putIn_192 : decode cX5_putIn 192 = .ok (.iload 8, 2) := by decide +kernel
theorem dX5_putIn_194 : decode cX5_putIn 194 = .ok (.iload 7, 2) := by decide +kernel
theorem dX5_putIn_196 : decode cX5_putIn 196 = .ok (.if_icmp .ge 7, 3) := by decide +kernel
theorem dX5_putIn_199 : decode cX5_putIn 199 = .ok (.iconst 1, 1) := by decide +kernel
theorem dX5_putIn_200 : decode cX5_putIn 200 = .ok (.goto 4, 3) := by decide +kernel
theorem dX5_putIn_203 : decode cX5_putIn 203 = .ok (.iconst 0, 1) := by decide +kernel
theorem dX5_putIn_204 : decode cX5_putIn 204 = .ok (.iadd, 1) := by decide +kernel
theorem dX5_putIn_205 : decode cX5_putIn 205 = .ok (.putfield 50, 3) := by decide +kernel
theorem dX5_putIn_208 : decode cX5_putIn 208 = .ok (.return_, 1) := by decide +kernel
theorem dX5_merge_0 : decode cX5_merge 0 = .ok (.aload_n 0, 1) := by decide +kernel
theorem dX5_merge_1 : decode cX5_merge 1 = .ok (.iload_n 1, 1) := by decide +kernel
theorem dX5_merge_2 : decode cX5_merge 2 = .ok (.invokestatic 71, 3) := by decide +kernel
theorem dX5_merge_5 : decode cX5_merge 5 = .ok (.ifCond .eq 21, 3) := by decide +kernel
theorem dX5_merge_8 : decode cX5_merge 8 = .ok (.iload_n 2, 1) := by decide +kernel
theorem dX5_merge_9 : decode cX5_merge 9 = .ok (.invokestatic 71, 3) := by decide +kernel
theorem dX5_merge_12 : decode cX5_merge 12 = .ok (.ifCond .eq 14, 3) := by decide +kernel
theorem dX5_merge_15 : decode cX5_merge 15 = .ok (.iload_n 3, 1) := by decide +kernel
theorem dX5_merge_16 : decode cX5_merge 16 = .ok (.invokestatic 71, 3) := by decide +kernel
theorem dX5_merge_19 : decode cX5_merge 19 = .ok (.ifCond .eq 7, 3) := by decide +kernel
theorem dX5_merge_22 : decode cX5_merge 22 = .ok (.iconst 0, 1) := by decide +kernel
theorem dX5_merge_23 : decode cX5_merge 23 = .ok (.goto 4, 3) := by decide +kernel
theorem dX5_merge_26 : decode cX5_merge 26 = .ok (.iconst 1, 1) := by decide +kernel
theorem dX5_merge_27 : decode cX5_merge 27 = .ok (.putfield 68, 3) := by decide +kernel
theorem dX5_merge_30 : decode cX5_merge 30 = .ok (.aload_n 0, 1) := by decide +kernel
theorem dX5_merge_31 : decode cX5_merge 31 = .ok (.getfield 68, 3) := by decide +kernel
theorem dX5_merge_34 : decode cX5_merge 34 = .ok (.ifCond .le 5, 3) := by decide +kernel
theorem dX5_merge_37 : decode cX5_merge 37 = .ok (.iconst 0, 1) := by decide +kernel
theorem dX5_merge_38 : decode cX5_merge 38 = .ok (.ireturn, 1) := by decide +kernel
theorem dX5_merge_39 : decode cX5_merge 39 = .ok (.aload_n 0, 1) := by decide +kernel
theorem dX5_merge_40 : decode cX5_merge 40 = .ok (.iconst 0, 1) := by decide +kernel
theorem dX5_merge_41 : decode cX5_merge 41 = .ok (.iload_n 1, 1) := by decide +kernel
theorem dX5_merge_42 : decode cX5_merge 42 = .ok (.iload_n 2, 1) := by decide +kernel
theorem dX5_merge_43 : decode cX5_merge 43 = .ok (.invokevirtual 102, 3) := by decide +kernel
theorem dX5_merge_46 : decode cX5_merge 46 = .ok (.ifCond .eq 13, 3) := by decide +kernel
theorem dX5_merge_49 : decode cX5_merge 49 = .ok (.aload_n 0, 1) := by decide +kernel
theorem dX5_merge_50 : decode cX5_merge 50 = .ok (.iconst 1, 1) := by decide +kernel
theorem dX5_merge_51 : decode cX5_merge 51 = .ok (.iload_n 1, 1) := by decide +kernel
theorem dX5_merge_52 : decode cX5_merge 52 = .ok (.iload_n 3, 1) := by decide +kernel
theorem dX5_merge_53 : decode cX5_merge 53 = .ok (.invokevirtual 102, 3) := by decide +kernel
theorem dX5_merge_56 : decode cX5_merge 56 = .ok (.ifCond .ne 9, 3) := by decide +kernel
theorem dX5_merge_59 : decode cX5_merge 59 = .ok (.aload_n 0, 1) := by decide +kernel
theorem dX5_merge_60 : decode cX5_merge 60 = .ok (.iconst 2, 1) := by decide +kernel
theorem dX5_merge_61 : decode cX5_merge 61 = .ok (.invokevirtual 83, 3) := by decide +kernel
theorem dX5_merge_64 : decode cX5_merge 64 = .ok (.ireturn, 1) := by decide +kernel
theorem dX5_merge_65 : decode cX5_merge 65 = .ok (.aload_n 0, 1) := by decide +kernel
theorem dX5_merge_66 : decode cX5_merge 66 = .ok (.iconst 0, 1) := by decide +kernel
theorem dX5_merge_67 : decode cX5_merge 67 = .ok (.putfield 47, 3) := by decide +kernel
theorem dX5_merge_70 : decode cX5_merge 70 = .ok (.aload_n 0, 1) := by decide +kernel
theorem dX5_merge_71 : decode cX5_merge 71 = .ok (.iconst 0, 1) := by decide +kernel
theorem dX5_merge_72 : decode cX5_merge 72 = .ok (.putfield 50, 3) := by decide +kernel
theorem dX5_merge_75 : decode cX5_merge 75 = .ok (.iconst 0, 1) := by decide +kernel
theorem dX5_merge_76 : decode cX5_merge 76 = .ok (.istore 4, 2) := by decide +kernel
theorem dX5_merge_78 : decode cX5_merge 78 = .ok (.iload 4, 2) := by decide +kernel
theorem dX5_merge_80 : decode cX5_merge 80 = .ok (.aload_n 0, 1) := by decide +kernel
theorem dX5_merge_81 : decode cX5_merge 81 = .ok (.getfield 7, 3) := by decide +kernel
theorem dX5_merge_84 : decode cX5_merge 84 = .ok (.iload_n 1, 1) := by decide +kernel
theorem dX5_merge_85 : decode cX5_merge 85 = .ok (.iaload, 1) := by decide +kernel
theorem dX5_merge_86 : decode cX5_merge 86 = .ok (.if_icmp .gt 81, 3) := by decide +kernel
theorem dX5_merge_89 : decode cX5_merge 89 = .ok (.aload_n 0, 1) := by decide +kernel
theorem dX5_merge_90 : decode cX5_merge 90 = .ok (.iload 4, 2) := by decide +kernel
theorem dX5_merge_92 : decode cX5_merge 92 = .ok (.iload_n 2, 1) := by decide +kernel
theorem dX5_merge_93 : decode cX5_merge 93 = .ok (.iload_n 3, 1) := by decide +kernel
theorem dX5_merge_94 : decode cX5_merge 94 = .ok (.invokevirtual 106, 3) := by decide +kernel
theorem dX5_merge_97 : decode cX5_merge 97 = .ok (.iload 4, 2) := by decide +kernel
theorem dX5_merge_99 : decode cX5_merge 99 = .ok (.aload_n 0, 1) := by decide +kernel
theorem dX5_merge_100 : decode cX5_merge 100 = .ok (.getfield 7, 3) := by decide +kernel
theorem dX5_merge_103 : decode cX5_merge 103 = .ok (.iload_n 1, 1) := by decide +kernel
theorem dX5_merge_104 : decode cX5_merge 104 = .ok (.iaload, 1) := by decide +kernel
theorem dX5_merge_105 : decode cX5_merge 105 = .ok (.if_icmp .ge 56, 3) := by decide +kernel
theorem dX5_merge_108 : decode cX5_merge 108 = .ok (.aload_n 0, 1) := by decide +kernel
theorem dX5_merge_109 : decode cX5_merge 109 = .ok (.aload_n 0, 1) := by decide +kernel
theorem dX5_merge_110 : decode cX5_merge 110 = .ok (.getfield 13, 3) := by decide +kernel
theorem dX5_merge_113 : decode cX5_merge 113 = .ok (.bipush 120, 2) := by decide +kernel
theorem dX5_merge_115 : decode cX5_merge 115 = .ok (.iload_n 1, 1) := by decide +kernel
theorem dX5_merge_116 : decode cX5_merge 116 = .ok (.imul, 1) := by decide +kernel
theorem dX5_merge_117 : decode cX5_merge 117 = .ok (.iload 4, 2) := by decide +kernel
theorem dX5_merge_119 : decode cX5_merge 119 = .ok (.iadd, 1) := by decide +kernel
theorem dX5_merge_120 : decode cX5_merge 120 = .ok (.iaload, 1) := by decide +kernel
theorem dX5_merge_121 : decode cX5_merge 121 = .ok (.iconst 0, 1) := by decide +kernel
theorem dX5_merge_122 : decode cX5_merge 122 = .ok (.aload_n 0, 1) := by decide +kernel
theorem dX5_merge_123 : decode cX5_merge 123 = .ok (.getfield 43, 3) := by decide +kernel
theorem dX5_merge_126 : decode cX5_merge 126 = .ok (.iload 4, 2) := by decide +kernel
theorem dX5_merge_128 : decode cX5_merge 128 = .ok (.baload, 1) := by decide +kernel
theorem dX5_merge_129 : decode cX5_merge 129 = .ok (.ifCond .eq 7, 3) := by decide +kernel
theorem dX5_merge_132 : decode cX5_merge 132 = .ok (.iconst 1, 1) := by decide +kernel
theorem dX5_merge_133 : decode cX5_merge 133 = .ok (.goto 4, 3) := by decide +kernel
theorem dX5_merge_136 : decode cX5_merge 136 = .ok (.iconst 0, 1) := by decide +kernel
theorem dX5_merge_137 : decode cX5_merge 137 = .ok (.aload_n 0, 1) := by decide +kernel
theorem dX5_merge_138 : decode cX5_merge 138 = .ok (.getfield 43, 3) := by decide +kernel
theorem dX5_merge_141 : decode cX5_merge 141 = .ok (.bipush 121, 2) := by decide +kernel
theorem dX5_merge_143 : decode cX5_merge 143 = .ok (.iload 4, 2) := by decide +kernel
theorem dX5_merge_145 : decode cX5_merge 145 = .ok (.iadd, 1) := by decide +kernel
theorem dX5_merge_146 : decode cX5_merge 146 = .ok (.baload, 1) := by decide +kernel
theorem dX5_merge_147 : decode cX5_merge 147 = .ok (.ifCond .eq 7, 3) := by decide +kernel
theorem dX5_merge_150 : decode cX5_merge 150 = .ok (.iconst 2, 1) := by decide +kernel
theorem dX5_merge_151 : decode cX5_merge 151 = .ok (.goto 4, 3) := by decide +kernel
theorem dX5_merge_154 : decode cX5_merge 154 = .ok (.iconst 0, 1) := by decide +kernel
theorem dX5_merge_155 : decode cX5_merge 155 = .ok (.iadd, 1) := by decide +kernel
theorem dX5_merge_156 : decode cX5_merge 156 = .ok (.iload 4, 2) := by decide +kernel
theorem dX5_merge_158 : decode cX5_merge 158 = .ok (.invokevirtual 98, 3) := by decide +kernel
theorem dX5_merge_161 : decode cX5_merge 161 = .ok (.iinc 4 1, 3) := by decide +kernel
theorem dX5_merge_164 : decode cX5_merge 164 = .ok (.goto (-86), 3) := by decide +kernel
theorem dX5_merge_167 : decode cX5_merge 167 = .ok (.aload_n 0, 1) := by decide +kernel
theorem dX5_merge_168 : decode cX5_merge 168 = .ok (.getfield 47, 3) := by decide +kernel
theorem dX5_merge_171 : decode cX5_merge 171 = .ok (.ireturn, 1) := by decide +kernel
theorem dX5_entry_0 : decode cX5_entry 0 = .ok (.aload_n 0, 1) := by decide +kernel
theorem dX5_entry_1 : decode cX5_entry 1 = .ok (.iload_n 1, 1) := by decide +kernel
theorem dX5_entry_2 : decode cX5_entry 2 = .ok (.ifCond .lt 11, 3) := by decide +kernel
theorem dX5_entry_5 : decode cX5_entry 5 = .ok (.iload_n 1, 1) := by decide +kernel
theorem dX5_entry_6 : decode cX5_entry 6 = .ok (.aload_n 0, 1) := by decide +kernel
theorem dX5_entry_7 : decode cX5_entry 7 = .ok (.getfield 47, 3) := by decide +kernel
theorem dX5_entry_10 : decode cX5_entry 10 = .ok (.if_icmp .lt 7, 3) := by decide +kernel
theorem dX5_entry_13 : decode cX5_entry 13 = .ok (.iconst 1, 1) := by decide +kernel
theorem dX5_entry_14 : decode cX5_entry 14 = .ok (.goto 17, 3) := by decide +kernel
theorem dX5_entry_17 : decode cX5_entry 17 = .ok (.iload_n 2, 1) := by decide +kernel
theorem dX5_entry_18 : decode cX5_entry 18 = .ok (.ifCond .lt 8, 3) := by decide +kernel
theorem dX5_entry_21 : decode cX5_entry 21 = .ok (.iload_n 2, 1) := by decide +kernel
theorem dX5_entry_22 : decode cX5_entry 22 = .ok (.iconst 3, 1) := by decide +kernel
theorem dX5_entry_23 : decode cX5_entry 23 = .ok (.if_icmp .le 7, 3) := by decide +kernel
theorem dX5_entry_26 : decode cX5_entry 26 = .ok (.iconst 2, 1) := by decide +kernel
theorem dX5_entry_27 : decode cX5_entry 27 = .ok (.goto 4, 3) := by decide +kernel
theorem dX5_entry_30 : decode cX5_entry 30 = .ok (.iconst 0, 1) := by decide +kernel
theorem dX5_entry_31 : decode cX5_entry 31 = .ok (.putfield 68, 3) := by decide +kernel
theorem dX5_entry_34 : decode cX5_entry 34 = .ok (.aload_n 0, 1) := by decide +kernel
theorem dX5_entry_35 : decode cX5_entry 35 = .ok (.getfield 68, 3) := by decide +kernel
theorem dX5_entry_38 : decode cX5_entry 38 = .ok (.ifCond .le 5, 3) := by decide +kernel
theorem dX5_entry_41 : decode cX5_entry 41 = .ok (.iconst 0, 1) := by decide +kernel
theorem dX5_entry_42 : decode cX5_entry 42 = .ok (.ireturn, 1) := by decide +kernel
theorem dX5_entry_43 : decode cX5_entry 43 = .ok (.iload_n 2, 1) := by decide +kernel
theorem dX5_entry_44 : decode cX5_entry 44 = .ok (.ifCond .ne 12, 3) := by decide +kernel
theorem dX5_entry_47 : decode cX5_entry 47 = .ok (.aload_n 0, 1) := by decide +kernel
theorem dX5_entry_48 : decode cX5_entry 48 = .ok (.getfield 53, 3) := by decide +kernel
theorem dX5_entry_51 : decode cX5_entry 51 = .ok (.iload_n 1, 1) := by decide +kernel
theorem dX5_entry_52 : decode cX5_entry 52 = .ok (.iaload, 1) := by decide +kernel
theorem dX5_entry_53 : decode cX5_entry 53 = .ok (.goto 37, 3) := by decide +kernel
theorem dX5_entry_56 : decode cX5_entry 56 = .ok (.iload_n 2, 1) := by decide +kernel
theorem dX5_entry_57 : decode cX5_entry 57 = .ok (.iconst 1, 1) := by decide +kernel
theorem dX5_entry_58 : decode cX5_entry 58 = .ok (.if_icmp .ne 12, 3) := by decide +kernel
theorem dX5_entry_61 : decode cX5_entry 61 = .ok (.aload_n 0, 1) := by decide +kernel
theorem dX5_entry_62 : decode cX5_entry 62 = .ok (.getfield 56, 3) := by decide +kernel
theorem dX5_entry_65 : decode cX5_entry 65 = .ok (.iload_n 1, 1) := by decide +kernel
theorem dX5_entry_66 : decode cX5_entry 66 = .ok (.baload, 1) := by decide +kernel
theorem dX5_entry_67 : decode cX5_entry 67 = .ok (.goto 23, 3) := by decide +kernel
theorem dX5_entry_70 : decode cX5_entry 70 = .ok (.iload_n 2, 1) := by decide +kernel
theorem dX5_entry_71 : decode cX5_entry 71 = .ok (.iconst 2, 1) := by decide +kernel
theorem dX5_entry_72 : decode cX5_entry 72 = .ok (.if_icmp .ne 12, 3) := by decide +kernel
theorem dX5_entry_75 : decode cX5_entry 75 = .ok (.aload_n 0, 1) := by decide +kernel
theorem dX5_entry_76 : decode cX5_entry 76 = .ok (.getfield 59, 3) := by decide +kernel
theorem dX5_entry_79 : decode cX5_entry 79 = .ok (.iload_n 1, 1) := by decide +kernel
theorem dX5_entry_80 : decode cX5_entry 80 = .ok (.baload, 1) := by decide +kernel
theorem dX5_entry_81 : decode cX5_entry 81 = .ok (.goto 9, 3) := by decide +kernel
theorem dX5_entry_84 : decode cX5_entry 84 = .ok (.aload_n 0, 1) := by decide +kernel
theorem dX5_entry_85 : decode cX5_entry 85 = .ok (.getfield 62, 3) := by decide +kernel
theorem dX5_entry_88 : decode cX5_entry 88 = .ok (.iload_n 1, 1) := by decide +kernel
theorem dX5_entry_89 : decode cX5_entry 89 = .ok (.baload, 1) := by decide +kernel
theorem dX5_entry_90 : decode cX5_entry 90 = .ok (.ireturn, 1) := by decide +kernel
theorem dX5_conflicts_0 : decode cX5_conflicts 0 = .ok (.aload_n 0, 1) := by decide +kernel
theorem dX5_conflicts_1 : decode cX5_conflicts 1 = .ok (.iconst 0, 1) := by decide +kernel
theorem dX5_conflicts_2 : decode cX5_conflicts 2 = .ok (.putfield 68, 3) := by decide +kernel
theorem dX5_conflicts_5 : decode cX5_conflicts 5 = .ok (.aload_n 0, 1) := by decide +kernel
theorem dX5_conflicts_6 : decode cX5_conflicts 6 = .ok (.getfield 50, 3) := by decide +kernel
theorem dX5_conflicts_9 : decode cX5_conflicts 9 = .ok (.ireturn, 1) := by decide +kernel
theorem dX5_see_0 : decode cX5_see 0 = .ok (.aload_n 0, 1) := by decide +kernel
theorem dX5_see_1 : decode cX5_see 1 = .ok (.iload_n 2, 1) := by decide +kernel
theorem dX5_see_2 : decode cX5_see 2 = .ok (.invokestatic 71, 3) := by decide +kernel
theorem dX5_see_5 : decode cX5_see 5 = .ok (.ifCond .ne 7, 3) := by decide +kernel
theorem dX5_see_8 : decode cX5_see 8 = .ok (.iconst 1, 1) := by decide +kernel
theorem dX5_see_9 : decode cX5_see 9 = .ok (.goto 28, 3) := by decide +kernel
theorem dX5_see_12 : decode cX5_see 12 = .ok (.iload_n 1, 1) := by decide +kernel
theorem dX5_see_13 : decode cX5_see 13 = .ok (.ifCond .lt 8, 3) := by decide +kernel
theorem dX5_see_16 : decode cX5_see 16 = .ok (.iload_n 1, 1) := by decide +kernel
theorem dX5_see_17 : decode cX5_see 17 = .ok (.iconst 3, 1) := by decide +kernel
theorem dX5_see_18 : decode cX5_see 18 = .ok (.if_icmp .le 7, 3) := by decide +kernel
theorem dX5_see_21 : decode cX5_see 21 = .ok (.iconst 2, 1) := by decide +kernel
theorem dX5_see_22 : decode cX5_see 22 = .ok (.goto 15, 3) := by decide +kernel
theorem dX5_see_25 : decode cX5_see 25 = .ok (.aload_n 0, 1) := by decide +kernel
theorem dX5_see_26 : decode cX5_see 26 = .ok (.getfield 47, 3) := by decide +kernel
theorem dX5_see_29 : decode cX5_see 29 = .ok (.ifCond .ge 7, 3) := by decide +kernel
theorem dX5_see_32 : decode cX5_see 32 = .ok (.iconst 3, 1) := by decide +kernel
theorem dX5_see_33 : decode cX5_see 33 = .ok (.goto 4, 3) := by decide +kernel
theorem dX5_see_36 : decode cX5_see 36 = .ok (.iconst 0, 1) := by decide +kernel
theorem dX5_see_37 : decode cX5_see 37 = .ok (.putfield 68, 3) := by decide +kernel
theorem dX5_see_40 : decode cX5_see 40 = .ok (.aload_n 0, 1) := by decide +kernel
theorem dX5_see_41 : decode cX5_see 41 = .ok (.getfield 68, 3) := by decide +kernel
theorem dX5_see_44 : decode cX5_see 44 = .ok (.ifCond .le 5, 3) := by decide +kernel
theorem dX5_see_47 : decode cX5_see 47 = .ok (.iconst 0, 1) := by decide +kernel
theorem dX5_see_48 : decode cX5_see 48 = .ok (.ireturn, 1) := by decide +kernel
theorem dX5_see_49 : decode cX5_see 49 = .ok (.iconst 0, 1) := by decide +kernel
theorem dX5_see_50 : decode cX5_see 50 = .ok (.istore_n 3, 1) := by decide +kernel
theorem dX5_see_51 : decode cX5_see 51 = .ok (.iconst 0, 1) := by decide +kernel
theorem dX5_see_52 : decode cX5_see 52 = .ok (.istore 4, 2) := by decide +kernel
theorem dX5_see_54 : decode cX5_see 54 = .ok (.iload 4, 2) := by decide +kernel
theorem dX5_see_56 : decode cX5_see 56 = .ok (.aload_n 0, 1) := by decide +kernel
theorem dX5_see_57 : decode cX5_see 57 = .ok (.getfield 47, 3) := by decide +kernel
theorem dX5_see_60 : decode cX5_see 60 = .ok (.if_icmp .ge 71, 3) := by decide +kernel
theorem dX5_see_63 : decode cX5_see 63 = .ok (.aload_n 0, 1) := by decide +kernel
theorem dX5_see_64 : decode cX5_see 64 = .ok (.getfield 56, 3) := by decide +kernel
theorem dX5_see_67 : decode cX5_see 67 = .ok (.iload 4, 2) := by decide +kernel
theorem dX5_see_69 : decode cX5_see 69 = .ok (.baload, 1) := by decide +kernel
theorem dX5_see_70 : decode cX5_see 70 = .ok (.ifCond .eq 15, 3) := by decide +kernel
theorem dX5_see_73 : decode cX5_see 73 = .ok (.aload_n 0, 1) := by decide +kernel
theorem dX5_see_74 : decode cX5_see 74 = .ok (.getfield 56, 3) := by decide +kernel
theorem dX5_see_77 : decode cX5_see 77 = .ok (.iload 4, 2) := by decide +kernel
theorem dX5_see_79 : decode cX5_see 79 = .ok (.baload, 1) := by decide +kernel
theorem dX5_see_80 : decode cX5_see 80 = .ok (.iload_n 1, 1) := by decide +kernel
theorem dX5_see_81 : decode cX5_see 81 = .ok (.iand, 1) := by decide +kernel
theorem dX5_see_82 : decode cX5_see 82 = .ok (.ifCond .eq 19, 3) := by decide +kernel
theorem dX5_see_85 : decode cX5_see 85 = .ok (.aload_n 0, 1) := by decide +kernel
theorem dX5_see_86 : decode cX5_see 86 = .ok (.getfield 59, 3) := by decide +kernel
theorem dX5_see_89 : decode cX5_see 89 = .ok (.iload 4, 2) := by decide +kernel
theorem dX5_see_91 : decode cX5_see 91 = .ok (.baload, 1) := by decide +kernel
theorem dX5_see_92 : decode cX5_see 92 = .ok (.iload_n 1, 1) := by decide +kernel
theorem dX5_see_93 : decode cX5_see 93 = .ok (.iand, 1) := by decide +kernel
theorem dX5_see_94 : decode cX5_see 94 = .ok (.ifCond .ne 7, 3) := by decide +kernel
theorem dX5_see_97 : decode cX5_see 97 = .ok (.iconst 1, 1) := by decide +kernel
theorem dX5_see_98 : decode cX5_see 98 = .ok (.goto 4, 3) := by decide +kernel
theorem dX5_see_101 : decode cX5_see 101 = .ok (.iconst 0, 1) := by decide +kernel
theorem dX5_see_102 : decode cX5_see 102 = .ok (.istore 5, 2) := by decide +kernel
theorem dX5_see_104 : decode cX5_see 104 = .ok (.iload 5, 2) := by decide +kernel
theorem dX5_see_106 : decode cX5_see 106 = .ok (.ifCond .eq 19, 3) := by decide +kernel
theorem dX5_see_109 : decode cX5_see 109 = .ok (.aload_n 0, 1) := by decide +kernel
theorem dX5_see_110 : decode cX5_see 110 = .ok (.getfield 65, 3) := by decide +kernel
theorem dX5_see_113 : decode cX5_see 113 = .ok (.iload_n 3, 1) := by decide +kernel
theorem dX5_see_114 : decode cX5_see 114 = .ok (.aload_n 0, 1) := by decide +kernel
theorem dX5_see_115 : decode cX5_see 115 = .ok (.getfield 53, 3) := by decide +kernel
theorem dX5_see_118 : decode cX5_see 118 = .ok (.iload 4, 2) := by decide +kernel
theorem dX5_see_120 : decode cX5_see 120 = .ok (.iaload, 1) := by decide +kernel
theorem dX5_see_121 : decode cX5_see 121 = .ok (.iastore, 1) := by decide +kernel
theorem dX5_see_122 : decode cX5_see 122 = .ok (.iinc 3 1, 3) := by decide +kernel
theorem dX5_see_125 : decode cX5_see 125 = .ok (.iinc 4 1, 3) := by decide +kernel
theorem dX5_see_128 : decode cX5_see 128 = .ok (.goto (-74), 3) := by decide +kernel
theorem dX5_see_131 : decode cX5_see 131 = .ok (.iload_n 3, 1) := by decide +kernel
theorem dX5_see_132 : decode cX5_see 132 = .ok (.bipush 120, 2) := by decide +kernel
theorem dX5_see_134 : decode cX5_see 134 = .ok (.if_icmp .le 9, 3) := by decide +kernel
theorem dX5_see_137 : decode cX5_see 137 = .ok (.aload_n 0, 1) := by decide +kernel
theorem dX5_see_138 : decode cX5_see 138 = .ok (.iconst 3, 1) := by decide +kernel
theorem dX5_see_139 : decode cX5_see 139 = .ok (.invokevirtual 83, 3) := by decide +kernel
theorem dX5_see_142 : decode cX5_see 142 = .ok (.ireturn, 1) := by decide +kernel
theorem dX5_see_143 : decode cX5_see 143 = .ok (.aload_n 0, 1) := by decide +kernel
theorem dX5_see_144 : decode cX5_see 144 = .ok (.iload_n 2, 1) := by decide +kernel
theorem dX5_see_145 : decode cX5_see 145 = .ok (.iload_n 3, 1) := by decide +kernel
theorem dX5_see_146 : decode cX5_see 146 = .ok (.invokevirtual 94, 3) := by decide +kernel
theorem dX5_see_149 : decode cX5_see 149 = .ok (.iload_n 3, 1) := by decide +kernel
theorem dX5_see_150 : decode cX5_see 150 = .ok (.ireturn, 1) := by decide +kernel

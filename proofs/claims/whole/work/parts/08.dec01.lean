theorem dX0_init_0 : decode cX0_init 0 = .ok (.aload_n 0, 1) := by decide +kernel
theorem dX0_init_1 : decode cX0_init 1 = .ok (.invokespecial 5, 3) := by decide +kernel
theorem dX0_init_4 : decode cX0_init 4 = .ok (.aload_n 0, 1) := by decide +kernel
theorem dX0_init_5 : decode cX0_init 5 = .ok (.bipush 121, 2) := by decide +kernel
theorem dX0_init_7 : decode cX0_init 7 = .ok (.newarray .int, 2) := by decide +kernel
theorem dX0_init_9 : decode cX0_init 9 = .ok (.putfield 11, 3) := by decide +kernel
theorem dX0_init_12 : decode cX0_init 12 = .ok (.aload_n 0, 1) := by decide +kernel
theorem dX0_init_13 : decode cX0_init 13 = .ok (.sipush 240, 3) := by decide +kernel
theorem dX0_init_16 : decode cX0_init 16 = .ok (.newarray .long, 2) := by decide +kernel
theorem dX0_init_18 : decode cX0_init 18 = .ok (.putfield 15, 3) := by decide +kernel
theorem dX0_init_21 : decode cX0_init 21 = .ok (.return_, 1) := by decide +kernel
theorem dX0_compare_0 : decode cX0_compare 0 = .ok (.aload_n 0, 1) := by decide +kernel
theorem dX0_compare_1 : decode cX0_compare 1 = .ok (.aload_n 1, 1) := by decide +kernel
theorem dX0_compare_2 : decode cX0_compare 2 = .ok (.aload_n 2, 1) := by decide +kernel
theorem dX0_compare_3 : decode cX0_compare 3 = .ok (.invokevirtual 19, 3) := by decide +kernel
theorem dX0_compare_6 : decode cX0_compare 6 = .ok (.istore 4, 2) := by decide +kernel
theorem dX0_compare_8 : decode cX0_compare 8 = .ok (.iload 4, 2) := by decide +kernel
theorem dX0_compare_10 : decode cX0_compare 10 = .ok (.bipush 100, 2) := by decide +kernel
theorem dX0_compare_12 : decode cX0_compare 12 = .ok (.if_icmp .gt 10, 3) := by decide +kernel
theorem dX0_compare_15 : decode cX0_compare 15 = .ok (.aload_n 0, 1) := by decide +kernel
theorem dX0_compare_16 : decode cX0_compare 16 = .ok (.aload_n 1, 1) := by decide +kernel
theorem dX0_compare_17 : decode cX0_compare 17 = .ok (.aload_n 2, 1) := by decide +kernel
theorem dX0_compare_18 : decode cX0_compare 18 = .ok (.aload_n 3, 1) := by decide +kernel
theorem dX0_compare_19 : decode cX0_compare 19 = .ok (.invokevirtual 23, 3) := by decide +kernel
theorem dX0_compare_22 : decode cX0_compare 22 = .ok (.iload 4, 2) := by decide +kernel
theorem dX0_compare_24 : decode cX0_compare 24 = .ok (.ireturn, 1) := by decide +kernel
theorem dX0_findLeastCost_0 : decode cX0_findLeastCost 0 = .ok (.iconst 0, 1) := by decide +kernel
theorem dX0_findLeastCost_1 : decode cX0_findLeastCost 1 = .ok (.istore_n 3, 1) := by decide +kernel
theorem dX0_findLeastCost_2 : decode cX0_findLeastCost 2 = .ok (.iload_n 3, 1) := by decide +kernel
theorem dX0_findLeastCost_3 : decode cX0_findLeastCost 3 = .ok (.aload_n 2, 1) := by decide +kernel
theorem dX0_findLeastCost_4 : decode cX0_findLeastCost 4 = .ok (.getfield 27, 3) := by decide +kernel
theorem dX0_findLeastCost_7 : decode cX0_findLeastCost 7 = .ok (.if_icmp .gt 21, 3) := by decide +kernel
theorem dX0_findLeastCost_10 : decode cX0_findLeastCost 10 = .ok (.aload_n 0, 1) := by decide +kernel
theorem dX0_findLeastCost_11 : decode cX0_findLeastCost 11 = .ok (.getfield 11, 3) := by decide +kernel
theorem dX0_findLeastCost_14 : decode cX0_findLeastCost 14 = .ok (.iload_n 3, 1) := by decide +kernel
theorem dX0_findLeastCost_15 : decode cX0_findLeastCost 15 = .ok (.aload_n 2, 1) := by decide +kernel
theorem dX0_findLeastCost_16 : decode cX0_findLeastCost 16 = .ok (.getfield 27, 3) := by decide +kernel
theorem dX0_findLeastCost_19 : decode cX0_findLeastCost 19 = .ok (.iload_n 3, 1) := by decide +kernel
theorem dX0_findLeastCost_20 : decode cX0_findLeastCost 20 = .ok (.isub, 1) := by decide +kernel
theorem dX0_findLeastCost_21 : decode cX0_findLeastCost 21 = .ok (.iastore, 1) := by decide +kernel
theorem dX0_findLeastCost_22 : decode cX0_findLeastCost 22 = .ok (.iinc 3 1, 3) := by decide +kernel
theorem dX0_findLeastCost_25 : decode cX0_findLeastCost 25 = .ok (.goto (-23), 3) := by decide +kernel
theorem dX0_findLeastCost_28 : decode cX0_findLeastCost 28 = .ok (.aload_n 1, 1) := by decide +kernel
theorem dX0_findLeastCost_29 : decode cX0_findLeastCost 29 = .ok (.getfield 27, 3) := by decide +kernel
theorem dX0_findLeastCost_32 : decode cX0_findLeastCost 32 = .ok (.iconst 1, 1) := by decide +kernel
theorem dX0_findLeastCost_33 : decode cX0_findLeastCost 33 = .ok (.isub, 1) := by decide +kernel
theorem dX0_findLeastCost_34 : decode cX0_findLeastCost 34 = .ok (.istore_n 3, 1) := by decide +kernel
theorem dX0_findLeastCost_35 : decode cX0_findLeastCost 35 = .ok (.iload_n 3, 1) := by decide +kernel
theorem dX0_findLeastCost_36 : decode cX0_findLeastCost 36 = .ok (.ifCond .lt 21, 3) := by decide +kernel
theorem dX0_findLeastCost_39 : decode cX0_findLeastCost 39 = .ok (.aload_n 0, 1) := by decide +kernel
theorem dX0_findLeastCost_40 : decode cX0_findLeastCost 40 = .ok (.iload_n 3, 1) := by decide +kernel
theorem dX0_findLeastCost_41 : decode cX0_findLeastCost 41 = .ok (.aload_n 1, 1) := by decide +kernel
theorem dX0_findLeastCost_42 : decode cX0_findLeastCost 42 = .ok (.getfield 33, 3) := by decide +kernel
theorem dX0_findLeastCost_45 : decode cX0_findLeastCost 45 = .ok (.iload_n 3, 1) := by decide +kernel
theorem dX0_findLeastCost_46 : decode cX0_findLeastCost 46 = .ok (.iaload, 1) := by decide +kernel
theorem dX0_findLeastCost_47 : decode cX0_findLeastCost 47 = .ok (.aload_n 2, 1) := by decide +kernel
theorem dX0_findLeastCost_48 : decode cX0_findLeastCost 48 = .ok (.invokevirtual 36, 3) := by decide +kernel
theorem dX0_findLeastCost_51 : decode cX0_findLeastCost 51 = .ok (.iinc 3 (-1), 3) := by decide +kernel
theorem dX0_findLeastCost_54 : decode cX0_findLeastCost 54 = .ok (.goto (-19), 3) := by decide +kernel
theorem dX0_findLeastCost_57 : decode cX0_findLeastCost 57 = .ok (.aload_n 0, 1) := by decide +kernel
theorem dX0_findLeastCost_58 : decode cX0_findLeastCost 58 = .ok (.getfield 11, 3) := by decide +kernel
theorem dX0_findLeastCost_61 : decode cX0_findLeastCost 61 = .ok (.iconst 0, 1) := by decide +kernel
theorem dX0_findLeastCost_62 : decode cX0_findLeastCost 62 = .ok (.iaload, 1) := by decide +kernel
theorem dX0_findLeastCost_63 : decode cX0_findLeastCost 63 = .ok (.ireturn, 1) := by decide +kernel
theorem dX0_moveCostsBackTo_0 : decode cX0_moveCostsBackTo 0 = .ok (.aload_n 0, 1) := by decide +kernel
theorem dX0_moveCostsBackTo_1 : decode cX0_moveCostsBackTo 1 = .ok (.getfield 11, 3) := by decide +kernel
theorem dX0_moveCostsBackTo_4 : decode cX0_moveCostsBackTo 4 = .ok (.aload_n 3, 1) := by decide +kernel
theorem dX0_moveCostsBackTo_5 : decode cX0_moveCostsBackTo 5 = .ok (.getfield 27, 3) := by decide +kernel
theorem dX0_moveCostsBackTo_8 : decode cX0_moveCostsBackTo 8 = .ok (.iaload, 1) := by decide +kernel
theorem dX0_moveCostsBackTo_9 : decode cX0_moveCostsBackTo 9 = .ok (.istore 4, 2) := by decide +kernel
theorem dX0_moveCostsBackTo_11 : decode cX0_moveCostsBackTo 11 = .ok (.aload_n 0, 1) := by decide +kernel
theorem dX0_moveCostsBackTo_12 : decode cX0_moveCostsBackTo 12 = .ok (.getfield 11, 3) := by decide +kernel
theorem dX0_moveCostsBackTo_15 : decode cX0_moveCostsBackTo 15 = .ok (.aload_n 3, 1) := by decide +kernel
theorem dX0_moveCostsBackTo_16 : decode cX0_moveCostsBackTo 16 = .ok (.getfield 27, 3) := by decide +kernel
theorem dX0_moveCostsBackTo_19 : decode cX0_moveCostsBackTo 19 = .ok (.iload 4, 2) := by decide +kernel
theorem dX0_moveCostsBackTo_21 : decode cX0_moveCostsBackTo 21 = .ok (.iconst 1, 1) := by decide +kernel
theorem dX0_moveCostsBackTo_22 : decode cX0_moveCostsBackTo 22 = .ok (.iadd, 1) := by decide +kernel
theorem dX0_moveCostsBackTo_23 : decode cX0_moveCostsBackTo 23 = .ok (.iastore, 1) := by decide +kernel
theorem dX0_moveCostsBackTo_24 : decode cX0_moveCostsBackTo 24 = .ok (.aload_n 3, 1) := by decide +kernel
theorem dX0_moveCostsBackTo_25 : decode cX0_moveCostsBackTo 25 = .ok (.getfield 27, 3) := by decide +kernel
theorem dX0_moveCostsBackTo_28 : decode cX0_moveCostsBackTo 28 = .ok (.iconst 1, 1) := by decide +kernel
theorem dX0_moveCostsBackTo_29 : decode cX0_moveCostsBackTo 29 = .ok (.isub, 1) := by decide +kernel
theorem dX0_moveCostsBackTo_30 : decode cX0_moveCostsBackTo 30 = .ok (.istore 5, 2) := by decide +kernel
theorem dX0_moveCostsBackTo_32 : decode cX0_moveCostsBackTo 32 = .ok (.iload 5, 2) := by decide +kernel
theorem dX0_moveCostsBackTo_34 : decode cX0_moveCostsBackTo 34 = .ok (.ifCond .lt 84, 3) := by decide +kernel
theorem dX0_moveCostsBackTo_37 : decode cX0_moveCostsBackTo 37 = .ok (.aload_n 0, 1) := by decide +kernel
theorem dX0_moveCostsBackTo_38 : decode cX0_moveCostsBackTo 38 = .ok (.getfield 11, 3) := by decide +kernel
theorem dX0_moveCostsBackTo_41 : decode cX0_moveCostsBackTo 41 = .ok (.iload 5, 2) := by decide +kernel
theorem dX0_moveCostsBackTo_43 : decode cX0_moveCostsBackTo 43 = .ok (.iaload, 1) := by decide +kernel
theorem dX0_moveCostsBackTo_44 : decode cX0_moveCostsBackTo 44 = .ok (.istore 6, 2) := by decide +kernel
theorem dX0_moveCostsBackTo_46 : decode cX0_moveCostsBackTo 46 = .ok (.aload_n 0, 1) := by decide +kernel
theorem dX0_moveCostsBackTo_47 : decode cX0_moveCostsBackTo 47 = .ok (.getfield 11, 3) := by decide +kernel
theorem dX0_moveCostsBackTo_50 : decode cX0_moveCostsBackTo 50 = .ok (.iload 5, 2) := by decide +kernel
theorem dX0_moveCostsBackTo_52 : decode cX0_moveCostsBackTo 52 = .ok (.iconst 1, 1) := by decide +kernel
theorem dX0_moveCostsBackTo_53 : decode cX0_moveCostsBackTo 53 = .ok (.iadd, 1) := by decide +kernel
theorem dX0_moveCostsBackTo_54 : decode cX0_moveCostsBackTo 54 = .ok (.iaload, 1) := by decide +kernel
theorem dX0_moveCostsBackTo_55 : decode cX0_moveCostsBackTo 55 = .ok (.istore 7, 2) := by decide +kernel
theorem dX0_moveCostsBackTo_57 : decode cX0_moveCostsBackTo 57 = .ok (.aload_n 0, 1) := by decide +kernel
theorem dX0_moveCostsBackTo_58 : decode cX0_moveCostsBackTo 58 = .ok (.iload_n 1, 1) := by decide +kernel
theorem dX0_moveCostsBackTo_59 : decode cX0_moveCostsBackTo 59 = .ok (.iload 5, 2) := by decide +kernel
theorem dX0_moveCostsBackTo_61 : decode cX0_moveCostsBackTo 61 = .ok (.iload 6, 2) := by decide +kernel
theorem dX0_moveCostsBackTo_63 : decode cX0_moveCostsBackTo 63 = .ok (.iload 7, 2) := by decide +kernel
theorem dX0_moveCostsBackTo_65 : decode cX0_moveCostsBackTo 65 = .ok (.if_icmp .gt 7, 3) := by decide +kernel
theorem dX0_moveCostsBackTo_68 : decode cX0_moveCostsBackTo 68 = .ok (.iconst 1, 1) := by decide +kernel
theorem dX0_moveCostsBackTo_69 : decode cX0_moveCostsBackTo 69 = .ok (.goto 4, 3) := by decide +kernel
theorem dX0_moveCostsBackTo_72 : decode cX0_moveCostsBackTo 72 = .ok (.iconst 0, 1) := by decide +kernel
theorem dX0_moveCostsBackTo_73 : decode cX0_moveCostsBackTo 73 = .ok (.invokevirtual 40, 3) := by decide +kernel
theorem dX0_moveCostsBackTo_76 : decode cX0_moveCostsBackTo 76 = .ok (.aload_n 0, 1) := by decide +kernel
theorem dX0_moveCostsBackTo_77 : decode cX0_moveCostsBackTo 77 = .ok (.getfield 11, 3) := by decide +kernel
theorem dX0_moveCostsBackTo_80 : decode cX0_moveCostsBackTo 80 = .ok (.iload 5, 2) := by decide +kernel
theorem dX0_moveCostsBackTo_82 : decode cX0_moveCostsBackTo 82 = .ok (.iload_n 2, 1) := by decide +kernel
theorem dX0_moveCostsBackTo_83 : decode cX0_moveCostsBackTo 83 = .ok (.aload_n 3, 1) := by decide +kernel
theorem dX0_moveCostsBackTo_84 : decode cX0_moveCostsBackTo 84 = .ok (.getfield 33, 3) := by decide +kernel
theorem dX0_moveCostsBackTo_87 : decode cX0_moveCostsBackTo 87 = .ok (.iload 5, 2) := by decide +kernel
theorem dX0_moveCostsBackTo_89 : decode cX0_moveCostsBackTo 89 = .ok (.iaload, 1) := by decide +kernel
theorem dX0_moveCostsBackTo_90 : decode cX0_moveCostsBackTo 90 = .ok (.if_icmp .ne 8, 3) := by decide +kernel
theorem dX0_moveCostsBackTo_93 : decode cX0_moveCostsBackTo 93 = .ok (.iload 4, 2) := by decide +kernel
theorem dX0_moveCostsBackTo_95 : decode cX0_moveCostsBackTo 95 = .ok (.goto 12, 3) := by decide +kernel
theorem dX0_moveCostsBackTo_98 : decode cX0_moveCostsBackTo 98 = .ok (.iconst 1, 1) := by decide +kernel
theorem dX0_moveCostsBackTo_99 : decode cX0_moveCostsBackTo 99 = .ok (.iload 6, 2) := by decide +kernel
theorem dX0_moveCostsBackTo_101 : decode cX0_moveCostsBackTo 101 = .ok (.iload 7, 2) := by decide +kernel
theorem dX0_moveCostsBackTo_103 : decode cX0_moveCostsBackTo 103 = .ok (.invokestatic 44, 3) := by decide +kernel
theorem dX0_moveCostsBackTo_106 : decode cX0_moveCostsBackTo 106 = .ok (.iadd, 1) := by decide +kernel
theorem dX0_moveCostsBackTo_107 : decode cX0_moveCostsBackTo 107 = .ok (.iastore, 1) := by decide +kernel
theorem dX0_moveCostsBackTo_108 : decode cX0_moveCostsBackTo 108 = .ok (.iload 6, 2) := by decide +kernel
theorem dX0_moveCostsBackTo_110 : decode cX0_moveCostsBackTo 110 = .ok (.istore 4, 2) := by decide +kernel
theorem dX0_moveCostsBackTo_112 : decode cX0_moveCostsBackTo 112 = .ok (.iinc 5 (-1), 3) := by decide +kernel
theorem dX0_moveCostsBackTo_115 : decode cX0_moveCostsBackTo 115 = .ok (.goto (-83), 3) := by decide +kernel
theorem dX0_moveCostsBackTo_118 : decode cX0_moveCostsBackTo 118 = .ok (.return_, 1) := by decide +kernel
theorem dX0_writeScript_0 : decode cX0_writeScript 0 = .ok (.iconst 0, 1) := by decide +kernel
theorem dX0_writeScript_1 : decode cX0_writeScript 1 = .ok (.istore 4, 2) := by decide +kernel
theorem dX0_writeScript_3 : decode cX0_writeScript 3 = .ok (.iconst 0, 1) := by decide +kernel
theorem dX0_writeScript_4 : decode cX0_writeScript 4 = .ok (.istore 5, 2) := by decide +kernel
theorem dX0_writeScript_6 : decode cX0_writeScript 6 = .ok (.aload_n 3, 1) := by decide +kernel
theorem dX0_writeScript_7 : decode cX0_writeScript 7 = .ok (.invokevirtual 50, 3) := by decide +kernel
theorem dX0_writeScript_10 : decode cX0_writeScript 10 = .ok (.iconst 0, 1) := by decide +kernel
theorem dX0_writeScript_11 : decode cX0_writeScript 11 = .ok (.istore 6, 2) := by decide +kernel
theorem dX0_writeScript_13 : decode cX0_writeScript 13 = .ok (.iload 6, 2) := by decide +kernel
theorem dX0_writeScript_15 : decode cX0_writeScript 15 = .ok (.sipush 240, 3) := by decide +kernel
theorem dX0_writeScript_18 : decode cX0_writeScript 18 = .ok (.if_icmp .ge 157, 3) := by decide +kernel
theorem dX0_writeScript_21 : decode cX0_writeScript 21 = .ok (.iload 4, 2) := by decide +kernel
theorem dX0_writeScript_23 : decode cX0_writeScript 23 = .ok (.aload_n 1, 1) := by decide +kernel
theorem dX0_writeScript_24 : decode cX0_writeScript 24 = .ok (.getfield 27, 3) := by decide +kernel
theorem dX0_writeScript_27 : decode cX0_writeScript 27 = .ok (.if_icmp .lt 12, 3) := by decide +kernel
theorem dX0_writeScript_30 : decode cX0_writeScript 30 = .ok (.iload 5, 2) := by decide +kernel
theorem dX0_writeScript_32 : decode cX0_writeScript 32 = .ok (.aload_n 2, 1) := by decide +kernel
theorem dX0_writeScript_33 : decode cX0_writeScript 33 = .ok (.getfield 27, 3) := by decide +kernel
theorem dX0_writeScript_36 : decode cX0_writeScript 36 = .ok (.if_icmp .ge 139, 3) := by decide +kernel
theorem dX0_writeScript_39 : decode cX0_writeScript 39 = .ok (.iload 4, 2) := by decide +kernel
theorem dX0_writeScript_41 : decode cX0_writeScript 41 = .ok (.aload_n 1, 1) := by decide +kernel
theorem dX0_writeScript_42 : decode cX0_writeScript 42 = .ok (.getfield 27, 3) := by decide +kernel
theorem dX0_writeScript_45 : decode cX0_writeScript 45 = .ok (.if_icmp .ge 54, 3) := by decide +kernel
theorem dX0_writeScript_48 : decode cX0_writeScript 48 = .ok (.iload 5, 2) := by decide +kernel
theorem dX0_writeScript_50 : decode cX0_writeScript 50 = .ok (.aload_n 2, 1) := by decide +kernel
theorem dX0_writeScript_51 : decode cX0_writeScript 51 = .ok (.getfield 27, 3) := by decide +kernel
theorem dX0_writeScript_54 : decode cX0_writeScript 54 = .ok (.if_icmp .ge 45, 3) := by decide +kernel
theorem dX0_writeScript_57 : decode cX0_writeScript 57 = .ok (.aload_n 1, 1) := by decide +kernel
theorem dX0_writeScript_58 : decode cX0_writeScript 58 = .ok (.getfield 33, 3) := by decide +kernel
theorem dX0_writeScript_61 : decode cX0_writeScript 61 = .ok (.iload 4, 2) := by decide +kernel
theorem dX0_writeScript_63 : decode cX0_writeScript 63 = .ok (.iaload, 1) := by decide +kernel
theorem dX0_writeScript_64 : decode cX0_writeScript 64 = .ok (.aload_n 2, 1) := by decide +kernel
theorem dX0_writeScript_65 : decode cX0_writeScript 65 = .ok (.getfield 33, 3) := by decide +kernel
theorem dX0_writeScript_68 : decode cX0_writeScript 68 = .ok (.iload 5, 2) := by decide +kernel
theorem dX0_writeScript_70 : decode cX0_writeScript 70 = .ok (.iaload, 1) := by decide +kernel
theorem dX0_writeScript_71 : decode cX0_writeScript 71 = .ok (.if_icmp .ne 28, 3) := by decide +kernel
theorem dX0_writeScript_74 : decode cX0_writeScript 74 = .ok (.aload_n 3, 1) := by decide +kernel
theorem dX0_writeScript_75 : decode cX0_writeScript 75 = .ok (.iconst 0, 1) := by decide +kernel
theorem dX0_writeScript_76 : decode cX0_writeScript 76 = .ok (.iload 4, 2) := by decide +kernel
theorem dX0_writeScript_78 : decode cX0_writeScript 78 = .ok (.iload 5, 2) := by decide +kernel
theorem dX0_writeScript_80 : decode cX0_writeScript 80 = .ok (.aload_n 1, 1) := by decide +kernel
theorem dX0_writeScript_81 : decode cX0_writeScript 81 = .ok (.getfield 33, 3) := by decide +kernel
theorem dX0_writeScript_84 : decode cX0_writeScript 84 = .ok (.iload 4, 2) := by decide +kernel
theorem dX0_writeScript_86 : decode cX0_writeScript 86 = .ok (.iaload, 1) := by decide +kernel
theorem dX0_writeScript_87 : decode cX0_writeScript 87 = .ok (.invokevirtual 55, 3) := by decide +kernel
theorem dX0_writeScript_90 : decode cX0_writeScript 90 = .ok (.iinc 4 1, 3) := by decide +kernel
theorem dX0_writeScript_93 : decode cX0_writeScript 93 = .ok (.iinc 5 1, 3) := by decide +kernel
theorem dX0_writeScript_96 : decode cX0_writeScript 96 = .ok (.goto 73, 3) := by decide +kernel
theorem dX0_writeScript_99 : decode cX0_writeScript 99 = .ok (.iload 4, 2) := by decide +kernel
theorem dX0_writeScript_101 : decode cX0_writeScript 101 = .ok (.aload_n 1, 1) := by decide +kernel
theorem dX0_writeScript_102 : decode cX0_writeScript 102 = .ok (.getfield 27, 3) := by decide +kernel
theorem dX0_writeScript_105 : decode cX0_writeScript 105 = .ok (.if_icmp .ge 45, 3) := by decide +kernel
theorem dX0_writeScript_108 : decode cX0_writeScript 108 = .ok (.iload 5, 2) := by decide +kernel
theorem dX0_writeScript_110 : decode cX0_writeScript 110 = .ok (.aload_n 2, 1) := by decide +kernel
theorem dX0_writeScript_111 : decode cX0_writeScript 111 = .ok (.getfield 27, 3) := by decide +kernel
theorem dX0_writeScript_114 : decode cX0_writeScript 114 = .ok (.if_icmp .ge 14, 3) := by decide +kernel
theorem dX0_writeScript_117 : decode cX0_writeScript 117 = .ok (.aload_n 0, 1) := by decide +kernel
theorem dX0_writeScript_118 : decode cX0_writeScript 118 = .ok (.iload 4, 2) := by decide +kernel
theorem dX0_writeScript_120 : decode cX0_writeScript 120 = .ok (.iload 5, 2) := by decide +kernel
theorem dX0_writeScript_122 : decode cX0_writeScript 122 = .ok (.invokevirtual 59, 3) := by decide +kernel
theorem dX0_writeScript_125 : decode cX0_writeScript 125 = .ok (.ifCond .eq 25, 3) := by decide +kernel
theorem dX0_writeScript_128 : decode cX0_writeScript 128 = .ok (.aload_n 3, 1) := by decide +kernel
theorem dX0_writeScript_129 : decode cX0_writeScript 129 = .ok (.iconst 1, 1) := by decide +kernel
theorem dX0_writeScript_130 : decode cX0_writeScript 130 = .ok (.iload 4, 2) := by decide +kernel
theorem dX0_writeScript_132 : decode cX0_writeScript 132 = .ok (.iload 5, 2) := by decide +kernel
theorem dX0_writeScript_134 : decode cX0_writeScript 134 = .ok (.aload_n 1, 1) := by decide +kernel
theorem dX0_writeScript_135 : decode cX0_writeScript 135 = .ok (.getfield 33, 3) := by decide +kernel
theorem dX0_writeScript_138 : decode cX0_writeScript 138 = .ok (.iload 4, 2) := by decide +kernel
theorem dX0_writeScript_140 : decode cX0_writeScript 140 = .ok (.iaload, 1) := by decide +kernel
theorem dX0_writeScript_141 : decode cX0_writeScript 141 = .ok (.invokevirtual 55, 3) := by decide +kernel
theorem dX0_writeScript_144 : decode cX0_writeScript 144 = .ok (.iinc 4 1, 3) := by decide +kernel
theorem dX0_writeScript_147 : decode cX0_writeScript 147 = .ok (.goto 22, 3) := by decide +kernel
theorem dX0_writeScript_150 : decode cX0_writeScript 150 = .ok (.aload_n 3, 1) := by decide +kernel
theorem dX0_writeScript_151 : decode cX0_writeScript 151 = .ok (.iconst 2, 1) := by decide +kernel
theorem dX0_writeScript_152 : decode cX0_writeScript 152 = .ok (.iload 4, 2) := by decide +kernel
theorem dX0_writeScript_154 : decode cX0_writeScript 154 = .ok (.iload 5, 2) := by decide +kernel
theorem dX0_writeScript_156 : decode cX0_writeScript 156 = .ok (.aload_n 2, 1) := by decide +kernel
theorem dX0_writeScript_157 : decode cX0_writeScript 157 = .ok (.getfield 33, 3) := by decide +kernel
theorem dX0_writeScript_160 : decode cX0_writeScript 160 = .ok (.iload 5, 2) := by decide +kernel
theorem dX0_writeScript_162 : decode cX0_writeScript 162 = .ok (.iaload, 1) := by decide +kernel
theorem dX0_writeScript_163 : decode cX0_writeScript 163 = .ok (.invokevirtual 55, 3) := by decide +kernel
theorem dX0_writeScript_166 : decode cX0_writeScript 166 = .ok (.iinc 5 1, 3) := by decide +kernel
theorem dX0_writeScript_169 : decode cX0_writeScript 169 = .ok (.iinc 6 1, 3) := by decide +kernel
theorem dX0_writeScript_172 : decode cX0_writeScript 172 = .ok (.goto (-159), 3) := by decide +kernel
theorem dX0_writeScript_175 : decode cX0_writeScript 175 = .ok (.return_, 1) := by decide +kernel
theorem dX0_markErase_0 : decode cX0_markErase 0 = .ok (.iload_n 1, 1) := by decide +kernel
theorem dX0_markErase_1 : decode cX0_markErase 1 = .ok (.iload_n 2, 1) := by decide +kernel
theorem dX0_markErase_2 : decode cX0_markErase 2 = .ok (.invokestatic 63, 3) := by decide +kernel
theorem dX0_markErase_5 : decode cX0_markErase 5 = .ok (.istore 4, 2) := by decide +kernel
theorem dX0_markErase_7 : decode cX0_markErase 7 = .ok (.lconst 1, 1) := by decide +kernel
theorem dX0_markErase_8 : decode cX0_markErase 8 = .ok (.iload_n 2, 1) := by decide +kernel
theorem dX0_markErase_9 : decode cX0_markErase 9 = .ok (.bipush 63, 2) := by decide +kernel
theorem dX0_markErase_11 : decode cX0_markErase 11 = .ok (.iand, 1) := by decide +kernel
theorem dX0_markErase_12 : decode cX0_markErase 12 = .ok (.lshl, 1) := by decide +kernel
theorem dX0_markErase_13 : decode cX0_markErase 13 = .ok (.lstore 5, 2) := by decide +kernel
theorem dX0_markErase_15 : decode cX0_markErase 15 = .ok (.aload_n 0, 1) := by decide +kernel
theorem dX0_markErase_16 : decode cX0_markErase 16 = .ok (.getfield 15, 3) := by decide +kernel
theorem dX0_markErase_19 : decode cX0_markErase 19 = .ok (.iload 4, 2) := by decide +kernel
theorem dX0_markErase_21 : decode cX0_markErase 21 = .ok (.iload_n 3, 1) := by decide +kernel
theorem dX0_markErase_22 : decode cX0_markErase 22 = .ok (.ifCond .eq 16, 3) := by decide +kernel
theorem dX0_markErase_25 : decode cX0_markErase 25 = .ok (.aload_n 0, 1) := by decide +kernel
theorem dX0_markErase_26 : decode cX0_markErase 26 = .ok (.getfield 15, 3) := by decide +kernel
theorem dX0_markErase_29 : decode cX0_markErase 29 = .ok (.iload 4, 2) := by decide +kernel
theorem dX0_markErase_31 : decode cX0_markErase 31 = .ok (.laload, 1) := by decide +kernel
theorem dX0_markErase_32 : decode cX0_markErase 32 = .ok (.lload 5, 2) := by decide +kernel
theorem dX0_markErase_34 : decode cX0_markErase 34 = .ok (.lor, 1) := by decide +kernel
theorem dX0_markErase_35 : decode cX0_markErase 35 = .ok (.goto 17, 3) := by decide +kernel
theorem dX0_markErase_38 : decode cX0_markErase 38 = .ok (.aload_n 0, 1) := by decide +kernel
theorem dX0_markErase_39 : decode cX0_markErase 39 = .ok (.getfield 15, 3) := by decide +kernel
theorem dX0_markErase_42 : decode cX0_markErase 42 = .ok (.iload 4, 2) := by decide +kernel
theorem dX0_markErase_44 : decode cX0_markErase 44 = .ok (.laload, 1) := by decide +kernel
theorem dX0_markErase_45 : decode cX0_markErase 45 = .ok (.lload 5, 2) := by decide +kernel
theorem dX0_markErase_47 : decode cX0_markErase 47 = .ok (.ldc2_w 66, 3) := by decide +kernel
theorem dX0_markErase_50 : decode cX0_markErase 50 = .ok (.lxor, 1) := by decide +kernel
theorem dX0_markErase_51 : decode cX0_markErase 51 = .ok (.land, 1) := by decide +kernel
theorem dX0_markErase_52 : decode cX0_markErase 52 = .ok (.lastore, 1) := by decide +kernel
theorem dX0_markErase_53 : decode cX0_markErase 53 = .ok (.return_, 1) := by decide +kernel
theorem dX0_isEraseMarked_0 : decode cX0_isEraseMarked 0 = .ok (.aload_n 0, 1) := by decide +kernel
theorem dX0_isEraseMarked_1 : decode cX0_isEraseMarked 1 = .ok (.getfield 15, 3) := by decide +kernel
theorem dX0_isEraseMarked_4 : decode cX0_isEraseMarked 4 = .ok (.iload_n 1, 1) := by decide +kernel
theorem dX0_isEraseMarked_5 : decode cX0_isEraseMarked 5 = .ok (.iload_n 2, 1) := by decide +kernel
theorem dX0_isEraseMarked_6 : decode cX0_isEraseMarked 6 = .ok (.invokestatic 63, 3) := by decide +kernel
theorem dX0_isEraseMarked_9 : decode cX0_isEraseMarked 9 = .ok (.laload, 1) := by decide +kernel
theorem dX0_isEraseMarked_10 : decode cX0_isEraseMarked 10 = .ok (.lconst 1, 1) := by decide +kernel
theorem dX0_isEraseMarked_11 : decode cX0_isEraseMarked 11 = .ok (.iload_n 2, 1) := by decide +kernel
theorem dX0_isEraseMarked_12 : decode cX0_isEraseMarked 12 = .ok (.bipush 63, 2) := by decide +kernel
theorem dX0_isEraseMarked_14 : decode cX0_isEraseMarked 14 = .ok (.iand, 1) := by decide +kernel
theorem dX0_isEraseMarked_15 : decode cX0_isEraseMarked 15 = .ok (.lshl, 1) := by decide +kernel
theorem dX0_isEraseMarked_16 : decode cX0_isEraseMarked 16 = .ok (.land, 1) := by decide +kernel
theorem dX0_isEraseMarked_17 : decode cX0_isEraseMarked 17 = .ok (.lconst 0, 1) := by decide +kernel
theorem dX0_isEraseMarked_18 : decode cX0_isEraseMarked 18 = .ok (.lcmp, 1) := by decide +kernel
theorem dX0_isEraseMarked_19 : decode cX0_isEraseMarked 19 = .ok (.ifCond .eq 7, 3) := by decide +kernel
theorem dX0_isEraseMarked_22 : decode cX0_isEraseMarked 22 = .ok (.iconst 1, 1) := by decide +kernel
theorem dX0_isEraseMarked_23 : decode cX0_isEraseMarked 23 = .ok (.goto 4, 3) := by decide +kernel
theorem dX0_isEraseMarked_26 : decode cX0_isEraseMarked 26 = .ok (.iconst 0, 1) := by decide +kernel
theorem dX0_isEraseMarked_27 : decode cX0_isEraseMarked 27 = .ok (.ireturn, 1) := by decide +kernel
theorem dX0_wordOf_0 : decode cX0_wordOf 0 = .ok (.iload_n 0, 1) := by decide +kernel
theorem dX0_wordOf_1 : decode cX0_wordOf 1 = .ok (.iconst 2, 1) := by decide +kernel
theorem dX0_wordOf_2 : decode cX0_wordOf 2 = .ok (.imul, 1) := by decide +kernel
theorem dX0_wordOf_3 : decode cX0_wordOf 3 = .ok (.iload_n 1, 1) := by decide +kernel
theorem dX0_wordOf_4 : decode cX0_wordOf 4 = .ok (.bipush 6, 2) := by decide +kernel
theorem dX0_wordOf_6 : decode cX0_wordOf 6 = .ok (.ishr, 1) := by decide +kernel
theorem dX0_wordOf_7 : decode cX0_wordOf 7 = .ok (.iadd, 1) := by decide +kernel
theorem dX0_wordOf_8 : decode cX0_wordOf 8 = .ok (.ireturn, 1) := by decide +kernel
theorem dX1_init_0 : decode cX1_init 0 = .ok (.aload_n 0, 1) := by decide +kernel
theorem dX1_init_1 : decode cX1_init 1 = .ok (.invokespecial 3, 3) := by decide +kernel
theorem dX1_init_4 : decode cX1_init 4 = .ok (.aload_n 0, 1) := by decide +kernel
theorem dX1_init_5 : decode cX1_init 5 = .ok (.sipush 360, 3) := by decide +kernel
theorem dX1_init_8 : decode cX1_init 8 = .ok (.newarray .int, 2) := by decide +kernel
theorem dX1_init_10 : decode cX1_init 10 = .ok (.putfield 9, 3) := by decide +kernel
theorem dX1_init_13 : decode cX1_init 13 = .ok (.aload_n 0, 1) := by decide +kernel
theorem dX1_init_14 : decode cX1_init 14 = .ok (.sipush 360, 3) := by decide +kernel
theorem dX1_init_17 : decode cX1_init 17 = .ok (.newarray .int, 2) := by decide +kernel
theorem dX1_init_19 : decode cX1_init 19 = .ok (.putfield 15, 3) := by decide +kernel
theorem dX1_init_22 : decode cX1_init 22 = .ok (.aload_n 0, 1) := by decide +kernel
theorem dX1_init_23 : decode cX1_init 23 = .ok (.sipush 360, 3) := by decide +kernel
theorem dX1_init_26 : decode cX1_init 26 = .ok (.newarray .int, 2) := by decide +kernel
theorem dX1_init_28 : decode cX1_init 28 = .ok (.putfield 18, 3) := by decide +kernel
theorem dX1_init_31 : decode cX1_init 31 = .ok (.aload_n 0, 1) := by decide +kernel
theorem dX1_init_32 : decode cX1_init 32 = .ok (.sipush 360, 3) := by decide +kernel
theorem dX1_init_35 : decode cX1_init 35 = .ok (.newarray .int, 2) := by decide +kernel
theorem dX1_init_37 : decode cX1_init 37 = .ok (.putfield 21, 3) := by decide +kernel
theorem dX1_init_40 : decode cX1_init 40 = .ok (.aload_n 0, 1) := by decide +kernel
theorem dX1_init_41 : decode cX1_init 41 = .ok (.iconst (-1), 1) := by decide +kernel
theorem dX1_init_42 : decode cX1_init 42 = .ok (.putfield 24, 3) := by decide +kernel
theorem dX1_init_45 : decode cX1_init 45 = .ok (.aload_n 0, 1) := by decide +kernel
theorem dX1_init_46 : decode cX1_init 46 = .ok (.iconst 0, 1) := by decide +kernel
theorem dX1_init_47 : decode cX1_init 47 = .ok (.putfield 28, 3) := by decide +kernel
theorem dX1_init_50 : decode cX1_init 50 = .ok (.return_, 1) := by decide +kernel
theorem dX1_make_0 : decode cX1_make 0 = .ok (.iconst 0, 1) := by decide +kernel
theorem dX1_make_1 : decode cX1_make 1 = .ok (.istore 4, 2) := by decide +kernel
theorem dX1_make_3 : decode cX1_make 3 = .ok (.iconst 0, 1) := by decide +kernel
theorem dX1_make_4 : decode cX1_make 4 = .ok (.istore 5, 2) := by decide +kernel
theorem dX1_make_6 : decode cX1_make 6 = .ok (.aload_n 0, 1) := by decide +kernel
theorem dX1_make_7 : decode cX1_make 7 = .ok (.iconst 0, 1) := by decide +kernel
theorem dX1_make_8 : decode cX1_make 8 = .ok (.putfield 24, 3) := by decide +kernel
theorem dX1_make_11 : decode cX1_make 11 = .ok (.aload_n 0, 1) := by decide +kernel
theorem dX1_make_12 : decode cX1_make 12 = .ok (.iconst 0, 1) := by decide +kernel
theorem dX1_make_13 : decode cX1_make 13 = .ok (.putfield 28, 3) := by decide +kernel
theorem dX1_make_16 : decode cX1_make 16 = .ok (.iconst 0, 1) := by decide +kernel
theorem dX1_make_17 : decode cX1_make 17 = .ok (.istore 6, 2) := by decide +kernel
theorem dX1_make_19 : decode cX1_make 19 = .ok (.iload 6, 2) := by decide +kernel
theorem dX1_make_21 : decode cX1_make 21 = .ok (.aload_n 1, 1) := by decide +kernel
theorem dX1_make_22 : decode cX1_make 22 = .ok (.getfield 31, 3) := by decide +kernel
theorem dX1_make_25 : decode cX1_make 25 = .ok (.if_icmp .gt 169, 3) := by decide +kernel
theorem dX1_make_28 : decode cX1_make 28 = .ok (.aload_n 2, 1) := by decide +kernel
theorem dX1_make_29 : decode cX1_make 29 = .ok (.iload 4, 2) := by decide +kernel
theorem dX1_make_31 : decode cX1_make 31 = .ok (.invokevirtual 34, 3) := by decide +kernel
theorem dX1_make_34 : decode cX1_make 34 = .ok (.istore 7, 2) := by decide +kernel
theorem dX1_make_36 : decode cX1_make 36 = .ok (.aload_n 3, 1) := by decide +kernel
theorem dX1_make_37 : decode cX1_make 37 = .ok (.iload 5, 2) := by decide +kernel
theorem dX1_make_39 : decode cX1_make 39 = .ok (.invokevirtual 34, 3) := by decide +kernel
theorem dX1_make_42 : decode cX1_make 42 = .ok (.istore 8, 2) := by decide +kernel
theorem dX1_make_44 : decode cX1_make 44 = .ok (.aload_n 0, 1) := by decide +kernel
theorem dX1_make_45 : decode cX1_make 45 = .ok (.aload_n 2, 1) := by decide +kernel
theorem dX1_make_46 : decode cX1_make 46 = .ok (.iload 4, 2) := by decide +kernel
theorem dX1_make_48 : decode cX1_make 48 = .ok (.iload 7, 2) := by decide +kernel
theorem dX1_make_50 : decode cX1_make 50 = .ok (.aload_n 3, 1) := by decide +kernel
theorem dX1_make_51 : decode cX1_make 51 = .ok (.iload 5, 2) := by decide +kernel
theorem dX1_make_53 : decode cX1_make 53 = .ok (.iload 8, 2) := by decide +kernel
theorem dX1_make_55 : decode cX1_make 55 = .ok (.invokevirtual 40, 3) := by decide +kernel
theorem dX1_make_58 : decode cX1_make 58 = .ok (.istore 9, 2) := by decide +kernel
theorem dX1_make_60 : decode cX1_make 60 = .ok (.aload_n 0, 1) := by decide +kernel
theorem dX1_make_61 : decode cX1_make 61 = .ok (.aload_n 2, 1) := by decide +kernel
theorem dX1_make_62 : decode cX1_make 62 = .ok (.iload 4, 2) := by decide +kernel
theorem dX1_make_64 : decode cX1_make 64 = .ok (.iload 9, 2) := by decide +kernel
theorem dX1_make_66 : decode cX1_make 66 = .ok (.iadd, 1) := by decide +kernel
theorem dX1_make_67 : decode cX1_make 67 = .ok (.iload 7, 2) := by decide +kernel
theorem dX1_make_69 : decode cX1_make 69 = .ok (.iconst 1, 1) := by decide +kernel
theorem dX1_make_70 : decode cX1_make 70 = .ok (.invokevirtual 44, 3) := by decide +kernel
theorem dX1_make_73 : decode cX1_make 73 = .ok (.aload_n 0, 1) := by decide +kernel
theorem dX1_make_74 : decode cX1_make 74 = .ok (.aload_n 3, 1) := by decide +kernel
theorem dX1_make_75 : decode cX1_make 75 = .ok (.iload 5, 2) := by decide +kernel
theorem dX1_make_77 : decode cX1_make 77 = .ok (.iload 9, 2) := by decide +kernel
theorem dX1_make_79 : decode cX1_make 79 = .ok (.iadd, 1) := by decide +kernel
theorem dX1_make_80 : decode cX1_make 80 = .ok (.iload 8, 2) := by decide +kernel
theorem dX1_make_82 : decode cX1_make 82 = .ok (.iconst 2, 1) := by decide +kernel
theorem dX1_make_83 : decode cX1_make 83 = .ok (.invokevirtual 44, 3) := by decide +kernel
theorem dX1_make_86 : decode cX1_make 86 = .ok (.iload 4, 2) := by decide +kernel
theorem dX1_make_88 : decode cX1_make 88 = .ok (.iload 9, 2) := by decide +kernel
theorem dX1_make_90 : decode cX1_make 90 = .ok (.iadd, 1) := by decide +kernel
theorem dX1_make_91 : decode cX1_make 91 = .ok (.iload 7, 2) := by decide +kernel
theorem dX1_make_93 : decode cX1_make 93 = .ok (.if_icmp .ge 23, 3) := by decide +kernel
theorem dX1_make_96 : decode cX1_make 96 = .ok (.iload 5, 2) := by decide +kernel
theorem dX1_make_98 : decode cX1_make 98 = .ok (.iload 9, 2) := by decide +kernel
theorem dX1_make_100 : decode cX1_make 100 = .ok (.iadd, 1) := by decide +kernel
theorem dX1_make_101 : decode cX1_make 101 = .ok (.iload 8, 2) := by decide +kernel
theorem dX1_make_103 : decode cX1_make 103 = .ok (.if_icmp .ge 13, 3) := by decide +kernel
theorem dX1_make_106 : decode cX1_make 106 = .ok (.aload_n 0, 1) := by decide +kernel
theorem dX1_make_107 : decode cX1_make 107 = .ok (.dup, 1) := by decide +kernel
theorem dX1_make_108 : decode cX1_make 108 = .ok (.getfield 28, 3) := by decide +kernel
theorem dX1_make_111 : decode cX1_make 111 = .ok (.iconst 1, 1) := by decide +kernel
theorem dX1_make_112 : decode cX1_make 112 = .ok (.iadd, 1) := by decide +kernel
theorem dX1_make_113 : decode cX1_make 113 = .ok (.putfield 28, 3) := by decide +kernel
theorem dX1_make_116 : decode cX1_make 116 = .ok (.iload 6, 2) := by decide +kernel
theorem dX1_make_118 : decode cX1_make 118 = .ok (.aload_n 1, 1) := by decide +kernel
theorem dX1_make_119 : decode cX1_make 119 = .ok (.getfield 31, 3) := by decide +kernel
theorem dX1_make_122 : decode cX1_make 122 = .ok (.if_icmp .ge 54, 3) := by decide +kernel
theorem dX1_make_125 : decode cX1_make 125 = .ok (.aload_n 2, 1) := by decide +kernel
theorem dX1_make_126 : decode cX1_make 126 = .ok (.iload 7, 2) := by decide +kernel
theorem dX1_make_128 : decode cX1_make 128 = .ok (.invokevirtual 48, 3) := by decide +kernel
theorem dX1_make_131 : decode cX1_make 131 = .ok (.ifCond .eq 7, 3) := by decide +kernel
theorem dX1_make_134 : decode cX1_make 134 = .ok (.iconst 1, 1) := by decide +kernel
theorem dX1_make_135 : decode cX1_make 135 = .ok (.goto 4, 3) := by decide +kernel
theorem dX1_make_138 : decode cX1_make 138 = .ok (.iconst 0, 1) := by decide +kernel
theorem dX1_make_139 : decode cX1_make 139 = .ok (.istore 10, 2) := by decide +kernel
theorem dX1_make_141 : decode cX1_make 141 = .ok (.aload_n 3, 1) := by decide +kernel
theorem dX1_make_142 : decode cX1_make 142 = .ok (.iload 8, 2) := by decide +kernel
theorem dX1_make_144 : decode cX1_make 144 = .ok (.invokevirtual 48, 3) := by decide +kernel
theorem dX1_make_147 : decode cX1_make 147 = .ok (.ifCond .eq 7, 3) := by decide +kernel
theorem dX1_make_150 : decode cX1_make 150 = .ok (.iconst 2, 1) := by decide +kernel
theorem dX1_make_151 : decode cX1_make 151 = .ok (.goto 4, 3) := by decide +kernel
theorem dX1_make_154 : decode cX1_make 154 = .ok (.iconst 0, 1) := by decide +kernel
theorem dX1_make_155 : decode cX1_make 155 = .ok (.istore 11, 2) := by decide +kernel
theorem dX1_make_157 : decode cX1_make 157 = .ok (.aload_n 0, 1) := by decide +kernel
theorem dX1_make_158 : decode cX1_make 158 = .ok (.aload_n 1, 1) := by decide +kernel
theorem dX1_make_159 : decode cX1_make 159 = .ok (.getfield 52, 3) := by decide +kernel
theorem dX1_make_162 : decode cX1_make 162 = .ok (.iload 6, 2) := by decide +kernel
theorem dX1_make_164 : decode cX1_make 164 = .ok (.iaload, 1) := by decide +kernel
theorem dX1_make_165 : decode cX1_make 165 = .ok (.iconst 0, 1) := by decide +kernel
theorem dX1_make_166 : decode cX1_make 166 = .ok (.iload 10, 2) := by decide +kernel
theorem dX1_make_168 : decode cX1_make 168 = .ok (.iload 11, 2) := by decide +kernel
theorem dX1_make_170 : decode cX1_make 170 = .ok (.ior, 1) := by decide +kernel
theorem dX1_make_171 : decode cX1_make 171 = .ok (.iload 6, 2) := by decide +kernel
theorem dX1_make_173 : decode cX1_make 173 = .ok (.invokevirtual 53, 3) := by decide +kernel
theorem dX1_make_176 : decode cX1_make 176 = .ok (.iload 7, 2) := by decide +kernel
theorem dX1_make_178 : decode cX1_make 178 = .ok (.iconst 1, 1) := by decide +kernel
theorem dX1_make_179 : decode cX1_make 179 = .ok (.iadd, 1) := by decide +kernel
theorem dX1_make_180 : decode cX1_make 180 = .ok (.istore 4, 2) := by decide +kernel
theorem dX1_make_182 : decode cX1_make 182 = .ok (.iload 8, 2) := by decide +kernel
theorem dX1_make_184 : decode cX1_make 184 = .ok (.iconst 1, 1) := by decide +kernel
theorem dX1_make_185 : decode cX1_make 185 = .ok (.iadd, 1) := by decide +kernel
theorem dX1_make_186 : decode cX1_make 186 = .ok (.istore 5, 2) := by decide +kernel
theorem dX1_make_188 : decode cX1_make 188 = .ok (.iinc 6 1, 3) := by decide +kernel
theorem dX1_make_191 : decode cX1_make 191 = .ok (.goto (-172), 3) := by decide +kernel
theorem dX1_make_194 : decode cX1_make 194 = .ok (.return_, 1) := by decide +kernel
theorem dX1_countSeen_0 : decode cX1_countSeen 0 = .ok (.iconst 0, 1) := by decide +kernel
theorem dX1_countSeen_1 : decode cX1_countSeen 1 = .ok (.istore_n 2, 1) := by decide +kernel
theorem dX1_countSeen_2 : decode cX1_countSeen 2 = .ok (.iconst 0, 1) := by decide +kernel
theorem dX1_countSeen_3 : decode cX1_countSeen 3 = .ok (.istore_n 3, 1) := by decide +kernel
theorem dX1_countSeen_4 : decode cX1_countSeen 4 = .ok (.iload_n 3, 1) := by decide +kernel
theorem dX1_countSeen_5 : decode cX1_countSeen 5 = .ok (.aload_n 0, 1) := by decide +kernel
theorem dX1_countSeen_6 : decode cX1_countSeen 6 = .ok (.getfield 24, 3) := by decide +kernel
theorem dX1_countSeen_9 : decode cX1_countSeen 9 = .ok (.if_icmp .ge 21, 3) := by decide +kernel
theorem dX1_countSeen_12 : decode cX1_countSeen 12 = .ok (.aload_n 0, 1) := by decide +kernel
theorem dX1_countSeen_13 : decode cX1_countSeen 13 = .ok (.iload_n 3, 1) := by decide +kernel
theorem dX1_countSeen_14 : decode cX1_countSeen 14 = .ok (.iload_n 1, 1) := by decide +kernel
theorem dX1_countSeen_15 : decode cX1_countSeen 15 = .ok (.invokevirtual 57, 3) := by decide +kernel
theorem dX1_countSeen_18 : decode cX1_countSeen 18 = .ok (.ifCond .eq 6, 3) := by decide +kernel
theorem dX1_countSeen_21 : decode cX1_countSeen 21 = .ok (.iinc 2 1, 3) := by decide +kernel
theorem dX1_countSeen_24 : decode cX1_countSeen 24 = .ok (.iinc 3 1, 3) := by decide +kernel
theorem dX1_countSeen_27 : decode cX1_countSeen 27 = .ok (.goto (-23), 3) := by decide +kernel
theorem dX1_countSeen_30 : decode cX1_countSeen 30 = .ok (.iload_n 2, 1) := by decide +kernel
theorem dX1_countSeen_31 : decode cX1_countSeen 31 = .ok (.ireturn, 1) := by decide +kernel
theorem dX1_showInto_0 : decode cX1_showInto 0 = .ok (.aload_n 1, 1) := by decide +kernel
theorem dX1_showInto_1 : decode cX1_showInto 1 = .ok (.invokevirtual 61, 3) := by decide +kernel
theorem dX1_showInto_4 : decode cX1_showInto 4 = .ok (.iconst 0, 1) := by decide +kernel
theorem dX1_showInto_5 : decode cX1_showInto 5 = .ok (.istore_n 3, 1) := by decide +kernel
theorem dX1_showInto_6 : decode cX1_showInto 6 = .ok (.iload_n 3, 1) := by decide +kernel
theorem dX1_showInto_7 : decode cX1_showInto 7 = .ok (.aload_n 0, 1) := by decide +kernel
theorem dX1_showInto_8 : decode cX1_showInto 8 = .ok (.getfield 24, 3) := by decide +kernel
theorem dX1_showInto_11 : decode cX1_showInto 11 = .ok (.if_icmp .ge 28, 3) := by decide +kernel
theorem dX1_showInto_14 : decode cX1_showInto 14 = .ok (.aload_n 0, 1) := by decide +kernel
theorem dX1_showInto_15 : decode cX1_showInto 15 = .ok (.iload_n 3, 1) := by decide +kernel
theorem dX1_showInto_16 : decode cX1_showInto 16 = .ok (.iload_n 2, 1) := by decide +kernel
theorem dX1_showInto_17 : decode cX1_showInto 17 = .ok (.invokevirtual 57, 3) := by decide +kernel
theorem dX1_showInto_20 : decode cX1_showInto 20 = .ok (.ifCond .eq 13, 3) := by decide +kernel
theorem dX1_showInto_23 : decode cX1_showInto 23 = .ok (.aload_n 1, 1) := by decide +kernel
theorem dX1_showInto_24 : decode cX1_showInto 24 = .ok (.aload_n 0, 1) := by decide +kernel
theorem dX1_showInto_25 : decode cX1_showInto 25 = .ok (.getfield 9, 3) := by decide +kernel
theorem dX1_showInto_28 : decode cX1_showInto 28 = .ok (.iload_n 3, 1) := by decide +kernel
theorem dX1_showInto_29 : decode cX1_showInto 29 = .ok (.iaload, 1) := by decide +kernel
theorem dX1_showInto_30 : decode cX1_showInto 30 = .ok (.invokevirtual 64, 3) := by decide +kernel
theorem dX1_showInto_33 : decode cX1_showInto 33 = .ok (.iinc 3 1, 3) := by decide +kernel
theorem dX1_showInto_36 : decode cX1_showInto 36 = .ok (.goto (-30), 3) := by decide +kernel
theorem dX1_showInto_39 : decode cX1_showInto 39 = .ok (.return_, 1) := by decide +kernel
theorem dX1_isSeen_0 : decode cX1_isSeen 0 = .ok (.aload_n 0, 1) := by decide +kernel
theorem dX1_isSeen_1 : decode cX1_isSeen 1 = .ok (.getfield 15, 3) := by decide +kernel
theorem dX1_isSeen_4 : decode cX1_isSeen 4 = .ok (.iload_n 1, 1) := by decide +kernel
theorem dX1_isSeen_5 : decode cX1_isSeen 5 = .ok (.iaload, 1) := by decide +kernel
theorem dX1_isSeen_6 : decode cX1_isSeen 6 = .ok (.ifCond .eq 14, 3) := by decide +kernel
theorem dX1_isSeen_9 : decode cX1_isSeen 9 = .ok (.aload_n 0, 1) := by decide +kernel
theorem dX1_isSeen_10 : decode cX1_isSeen 10 = .ok (.getfield 15, 3) := by decide +kernel
theorem dX1_isSeen_13 : decode cX1_isSeen 13 = .ok (.iload_n 1, 1) := by decide +kernel
theorem dX1_isSeen_14 : decode cX1_isSeen 14 = .ok (.iaload, 1) := by decide +kernel
theorem dX1_isSeen_15 : decode cX1_isSeen 15 = .ok (.iload_n 2, 1) := by decide +kernel
theorem dX1_isSeen_16 : decode cX1_isSeen 16 = .ok (.iand, 1) := by decide +kernel
theorem dX1_isSeen_17 : decode cX1_isSeen 17 = .ok (.ifCond .eq 7, 3) := by decide +kernel
theorem dX1_isSeen_20 : decode cX1_isSeen 20 = .ok (.iconst 1, 1) := by decide +kernel
theorem dX1_isSeen_21 : decode cX1_isSeen 21 = .ok (.goto 4, 3) := by decide +kernel
theorem dX1_isSeen_24 : decode cX1_isSeen 24 = .ok (.iconst 0, 1) := by decide +kernel
theorem dX1_isSeen_25 : decode cX1_isSeen 25 = .ok (.istore_n 3, 1) := by decide +kernel
theorem dX1_isSeen_26 : decode cX1_isSeen 26 = .ok (.iload_n 3, 1) := by decide +kernel
theorem dX1_isSeen_27 : decode cX1_isSeen 27 = .ok (.ifCond .eq 18, 3) := by decide +kernel
theorem dX1_isSeen_30 : decode cX1_isSeen 30 = .ok (.aload_n 0, 1) := by decide +kernel
theorem dX1_isSeen_31 : decode cX1_isSeen 31 = .ok (.getfield 18, 3) := by decide +kernel
theorem dX1_isSeen_34 : decode cX1_isSeen 34 = .ok (.iload_n 1, 1) := by decide +kernel
theorem dX1_isSeen_35 : decode cX1_isSeen 35 = .ok (.iaload, 1) := by decide +kernel
theorem dX1_isSeen_36 : decode cX1_isSeen 36 = .ok (.iload_n 2, 1) := by decide +kernel
theorem dX1_isSeen_37 : decode cX1_isSeen 37 = .ok (.iand, 1) := by decide +kernel
theorem dX1_isSeen_38 : decode cX1_isSeen 38 = .ok (.ifCond .ne 7, 3) := by decide +kernel
theorem dX1_isSeen_41 : decode cX1_isSeen 41 = .ok (.iconst 1, 1) := by decide +kernel
theorem dX1_isSeen_42 : decode cX1_isSeen 42 = .ok (.goto 4, 3) := by decide +kernel
theorem dX1_isSeen_45 : decode cX1_isSeen 45 = .ok (.iconst 0, 1) := by decide +kernel
theorem dX1_isSeen_46 : decode cX1_isSeen 46 = .ok (.ireturn, 1) := by decide +kernel
theorem dX1_appendCommon_0 : decode cX1_appendCommon 0 = .ok (.iload_n 3, 1) := by decide +kernel
theorem dX1_appendCommon_1 : decode cX1_appendCommon 1 = .ok (.iload_n 2, 1) := by decide +kernel
theorem dX1_appendCommon_2 : decode cX1_appendCommon 2 = .ok (.isub, 1) := by decide +kernel
theorem dX1_appendCommon_3 : decode cX1_appendCommon 3 = .ok (.iload 6, 2) := by decide +kernel
theorem dX1_appendCommon_5 : decode cX1_appendCommon 5 = .ok (.iload 5, 2) := by decide +kernel
theorem dX1_appendCommon_7 : decode cX1_appendCommon 7 = .ok (.isub, 1) := by decide +kernel
theorem dX1_appendCommon_8 : decode cX1_appendCommon 8 = .ok (.invokestatic 67, 3) := by decide +kernel
theorem dX1_appendCommon_11 : decode cX1_appendCommon 11 = .ok (.istore 7, 2) := by decide +kernel
theorem dX1_appendCommon_13 : decode cX1_appendCommon 13 = .ok (.iconst 0, 1) := by decide +kernel
theorem dX1_appendCommon_14 : decode cX1_appendCommon 14 = .ok (.istore 8, 2) := by decide +kernel
theorem dX1_appendCommon_16 : decode cX1_appendCommon 16 = .ok (.iload 8, 2) := by decide +kernel
theorem dX1_appendCommon_18 : decode cX1_appendCommon 18 = .ok (.iload 7, 2) := by decide +kernel
theorem dX1_appendCommon_20 : decode cX1_appendCommon 20 = .ok (.if_icmp .ge 48, 3) := by decide +kernel
theorem dX1_appendCommon_23 : decode cX1_appendCommon 23 = .ok (.aload_n 1, 1) := by decide +kernel
theorem dX1_appendCommon_24 : decode cX1_appendCommon 24 = .ok (.getfield 73, 3) := by decide +kernel
theorem dX1_appendCommon_27 : decode cX1_appendCommon 27 = .ok (.iload_n 2, 1) := by decide +kernel
theorem dX1_appendCommon_28 : decode cX1_appendCommon 28 = .ok (.iload 8, 2) := by decide +kernel
theorem dX1_appendCommon_30 : decode cX1_appendCommon 30 = .ok (.iadd, 1) := by decide +kernel
theorem dX1_appendCommon_31 : decode cX1_appendCommon 31 = .ok (.iaload, 1) := by decide +kernel
theorem dX1_appendCommon_32 : decode cX1_appendCommon 32 = .ok (.aload 4, 2) := by decide +kernel
theorem dX1_appendCommon_34 : decode cX1_appendCommon 34 = .ok (.getfield 73, 3) := by decide +kernel
theorem dX1_appendCommon_37 : decode cX1_appendCommon 37 = .ok (.iload 5, 2) := by decide +kernel
theorem dX1_appendCommon_39 : decode cX1_appendCommon 39 = .ok (.iload 8, 2) := by decide +kernel
theorem dX1_appendCommon_41 : decode cX1_appendCommon 41 = .ok (.iadd, 1) := by decide +kernel
theorem dX1_appendCommon_42 : decode cX1_appendCommon 42 = .ok (.iaload, 1) := by decide +kernel
theorem dX1_appendCommon_43 : decode cX1_appendCommon 43 = .ok (.if_icmp .ne 25, 3) := by decide +kernel
theorem dX1_appendCommon_46 : decode cX1_appendCommon 46 = .ok (.aload_n 0, 1) := by decide +kernel
theorem dX1_appendCommon_47 : decode cX1_appendCommon 47 = .ok (.aload_n 1, 1) := by decide +kernel
theorem dX1_appendCommon_48 : decode cX1_appendCommon 48 = .ok (.getfield 73, 3) := by decide +kernel
theorem dX1_appendCommon_51 : decode cX1_appendCommon 51 = .ok (.iload_n 2, 1) := by decide +kernel
theorem dX1_appendCommon_52 : decode cX1_appendCommon 52 = .ok (.iload 8, 2) := by decide +kernel
theorem dX1_appendCommon_54 : decode cX1_appendCommon 54 = .ok (.iadd, 1) := by decide +kernel
theorem dX1_appendCommon_55 : decode cX1_appendCommon 55 = .ok (.iaload, 1) := by decide +kernel
theorem dX1_appendCommon_56 : decode cX1_appendCommon 56 = .ok (.iconst 3, 1) := by decide +kernel
theorem dX1_appendCommon_57 : decode cX1_appendCommon 57 = .ok (.iconst 0, 1) := by decide +kernel
theorem dX1_appendCommon_58 : decode cX1_appendCommon 58 = .ok (.iconst (-1), 1) := by decide +kernel
theorem dX1_appendCommon_59 : decode cX1_appendCommon 59 = .ok (.invokevirtual 53, 3) := by decide +kernel
theorem dX1_appendCommon_62 : decode cX1_appendCommon 62 = .ok (.iinc 8 1, 3) := by decide +kernel
theorem dX1_appendCommon_65 : decode cX1_appendCommon 65 = .ok (.goto (-49), 3) := by decide +kernel
theorem dX1_appendCommon_68 : decode cX1_appendCommon 68 = .ok (.iload 8, 2) := by decide +kernel
theorem dX1_appendCommon_70 : decode cX1_appendCommon 70 = .ok (.ireturn, 1) := by decide +kernel
theorem dX1_appendInserts_0 : decode cX1_appendInserts 0 = .ok (.iload_n 2, 1) := by decide +kernel
theorem dX1_appendInserts_1 : decode cX1_appendInserts 1 = .ok (.istore 5, 2) := by decide +kernel
theorem dX1_appendInserts_3 : decode cX1_appendInserts 3 = .ok (.iload 5, 2) := by decide +kernel
theorem dX1_appendInserts_5 : decode cX1_appendInserts 5 = .ok (.iload_n 3, 1) := by decide +kernel
theorem dX1_appendInserts_6 : decode cX1_appendInserts 6 = .ok (.if_icmp .ge 24, 3) := by decide +kernel
theorem dX1_appendInserts_9 : decode cX1_appendInserts 9 = .ok (.aload_n 0, 1) := by decide +kernel
theorem dX1_appendInserts_10 : decode cX1_appendInserts 10 = .ok (.aload_n 1, 1) := by decide +kernel
theorem dX1_appendInserts_11 : decode cX1_appendInserts 11 = .ok (.getfield 73, 3) := by decide +kernel
theorem dX1_appendInserts_14 : decode cX1_appendInserts 14 = .ok (.iload 5, 2) := by decide +kernel
theorem dX1_appendInserts_16 : decode cX1_appendInserts 16 = .ok (.iaload, 1) := by decide +kernel
theorem dX1_appendInserts_17 : decode cX1_appendInserts 17 = .ok (.iload 4, 2) := by decide +kernel
theorem dX1_appendInserts_19 : decode cX1_appendInserts 19 = .ok (.iconst 0, 1) := by decide +kernel
theorem dX1_appendInserts_20 : decode cX1_appendInserts 20 = .ok (.iconst (-1), 1) := by decide +kernel
theorem dX1_appendInserts_21 : decode cX1_appendInserts 21 = .ok (.invokevirtual 53, 3) := by decide +kernel
theorem dX1_appendInserts_24 : decode cX1_appendInserts 24 = .ok (.iinc 5 1, 3) := by decide +kernel
theorem dX1_appendInserts_27 : decode cX1_appendInserts 27 = .ok (.goto (-24), 3) := by decide +kernel
theorem dX1_appendInserts_30 : decode cX1_appendInserts 30 = .ok (.return_, 1) := by decide +kernel
theorem dX1_append_0 : decode cX1_append 0 = .ok (.aload_n 0, 1) := by decide +kernel
theorem dX1_append_1 : decode cX1_append 1 = .ok (.getfield 24, 3) := by decide +kernel
theorem dX1_append_4 : decode cX1_append 4 = .ok (.ifCond .lt 64, 3) := by decide +kernel
theorem dX1_append_7 : decode cX1_append 7 = .ok (.aload_n 0, 1) := by decide +kernel
theorem dX1_append_8 : decode cX1_append 8 = .ok (.getfield 24, 3) := by decide +kernel
theorem dX1_append_11 : decode cX1_append 11 = .ok (.sipush 360, 3) := by decide +kernel
theorem dX1_append_14 : decode cX1_append 14 = .ok (.if_icmp .ge 54, 3) := by decide +kernel
theorem dX1_append_17 : decode cX1_append 17 = .ok (.aload_n 0, 1) := by decide +kernel
theorem dX1_append_18 : decode cX1_append 18 = .ok (.getfield 9, 3) := by decide +kernel
theorem dX1_append_21 : decode cX1_append 21 = .ok (.aload_n 0, 1) := by decide +kernel
theorem dX1_append_22 : decode cX1_append 22 = .ok (.getfield 24, 3) := by decide +kernel
theorem dX1_append_25 : decode cX1_append 25 = .ok (.iload_n 1, 1) := by decide +kernel
theorem dX1_append_26 : decode cX1_append 26 = .ok (.iastore, 1) := by decide +kernel
theorem dX1_append_27 : decode cX1_append 27 = .ok (.aload_n 0, 1) := by decide +kernel
theorem dX1_append_28 : decode cX1_append 28 = .ok (.getfield 15, 3) := by decide +kernel
theorem dX1_append_31 : decode cX1_append 31 = .ok (.aload_n 0, 1) := by decide +kernel
theorem dX1_append_32 : decode cX1_append 32 = .ok (.getfield 24, 3) := by decide +kernel
theorem dX1_append_35 : decode cX1_append 35 = .ok (.iload_n 2, 1) := by decide +kernel
theorem dX1_append_36 : decode cX1_append 36 = .ok (.iastore, 1) := by decide +kernel
theorem dX1_append_37 : decode cX1_append 37 = .ok (.aload_n 0, 1) := by decide +kernel
theorem dX1_append_38 : decode cX1_append 38 = .ok (.getfield 18, 3) := by decide +kernel
theorem dX1_append_41 : decode cX1_append 41 = .ok (.aload_n 0, 1) := by decide +kernel
theorem dX1_append_42 : decode cX1_append 42 = .ok (.getfield 24, 3) := by decide +kernel
theorem dX1_append_45 : decode cX1_append 45 = .ok (.iload_n 3, 1) := by decide +kernel
theorem dX1_append_46 : decode cX1_append 46 = .ok (.iastore, 1) := by decide +kernel
theorem dX1_append_47 : decode cX1_append 47 = .ok (.aload_n 0, 1) := by decide +kernel
theorem dX1_append_48 : decode cX1_append 48 = .ok (.getfield 21, 3) := by decide +kernel
theorem dX1_append_51 : decode cX1_append 51 = .ok (.aload_n 0, 1) := by decide +kernel
theorem dX1_append_52 : decode cX1_append 52 = .ok (.getfield 24, 3) := by decide +kernel
theorem dX1_append_55 : decode cX1_append 55 = .ok (.iload 4, 2) := by decide +kernel
theorem dX1_append_57 : decode cX1_append 57 = .ok (.iastore, 1) := by decide +kernel
theorem dX1_append_58 : decode cX1_append 58 = .ok (.aload_n 0, 1) := by decide +kernel
theorem dX1_append_59 : decode cX1_append 59 = .ok (.dup, 1) := by decide +kernel
theorem dX1_append_60 : decode cX1_append 60 = .ok (.getfield 24, 3) := by decide +kernel
theorem dX1_append_63 : decode cX1_append 63 = .ok (.iconst 1, 1) := by decide +kernel
theorem dX1_append_64 : decode cX1_append 64 = .ok (.iadd, 1) := by decide +kernel
theorem dX1_append_65 : decode cX1_append 65 = .ok (.putfield 24, 3) := by decide +kernel
theorem dX1_append_68 : decode cX1_append 68 = .ok (.return_, 1) := by decide +kernel

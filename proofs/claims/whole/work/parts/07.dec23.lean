theorem dX2_init_0 : decode cX2_init 0 = .ok (.aload_n 0, 1) := by decide +kernel
theorem dX2_init_1 : decode cX2_init 1 = .ok (.invokespecial 3, 3) := by decide +kernel
theorem dX2_init_4 : decode cX2_init 4 = .ok (.aload_n 0, 1) := by decide +kernel
theorem dX2_init_5 : decode cX2_init 5 = .ok (.bipush 120, 2) := by decide +kernel
theorem dX2_init_7 : decode cX2_init 7 = .ok (.newarray .int, 2) := by decide +kernel
theorem dX2_init_9 : decode cX2_init 9 = .ok (.putfield 9, 3) := by decide +kernel
theorem dX2_init_12 : decode cX2_init 12 = .ok (.aload_n 0, 1) := by decide +kernel
theorem dX2_init_13 : decode cX2_init 13 = .ok (.iconst 0, 1) := by decide +kernel
theorem dX2_init_14 : decode cX2_init 14 = .ok (.putfield 15, 3) := by decide +kernel
theorem dX2_init_17 : decode cX2_init 17 = .ok (.return_, 1) := by decide +kernel
theorem dX2_empty_0 : decode cX2_empty 0 = .ok (.aload_n 0, 1) := by decide +kernel
theorem dX2_empty_1 : decode cX2_empty 1 = .ok (.iconst 0, 1) := by decide +kernel
theorem dX2_empty_2 : decode cX2_empty 2 = .ok (.putfield 15, 3) := by decide +kernel
theorem dX2_empty_5 : decode cX2_empty 5 = .ok (.return_, 1) := by decide +kernel
theorem dX2_append_0 : decode cX2_append 0 = .ok (.aload_n 0, 1) := by decide +kernel
theorem dX2_append_1 : decode cX2_append 1 = .ok (.getfield 15, 3) := by decide +kernel
theorem dX2_append_4 : decode cX2_append 4 = .ok (.bipush 120, 2) := by decide +kernel
theorem dX2_append_6 : decode cX2_append 6 = .ok (.if_icmp .ge 23, 3) := by decide +kernel
theorem dX2_append_9 : decode cX2_append 9 = .ok (.aload_n 0, 1) := by decide +kernel
theorem dX2_append_10 : decode cX2_append 10 = .ok (.getfield 9, 3) := by decide +kernel
theorem dX2_append_13 : decode cX2_append 13 = .ok (.aload_n 0, 1) := by decide +kernel
theorem dX2_append_14 : decode cX2_append 14 = .ok (.getfield 15, 3) := by decide +kernel
theorem dX2_append_17 : decode cX2_append 17 = .ok (.iload_n 1, 1) := by decide +kernel
theorem dX2_append_18 : decode cX2_append 18 = .ok (.iastore, 1) := by decide +kernel
theorem dX2_append_19 : decode cX2_append 19 = .ok (.aload_n 0, 1) := by decide +kernel
theorem dX2_append_20 : decode cX2_append 20 = .ok (.dup, 1) := by decide +kernel
theorem dX2_append_21 : decode cX2_append 21 = .ok (.getfield 15, 3) := by decide +kernel
theorem dX2_append_24 : decode cX2_append 24 = .ok (.iconst 1, 1) := by decide +kernel
theorem dX2_append_25 : decode cX2_append 25 = .ok (.iadd, 1) := by decide +kernel
theorem dX2_append_26 : decode cX2_append 26 = .ok (.putfield 15, 3) := by decide +kernel
theorem dX2_append_29 : decode cX2_append 29 = .ok (.return_, 1) := by decide +kernel
theorem dX3_init_0 : decode cX3_init 0 = .ok (.aload_n 0, 1) := by decide +kernel
theorem dX3_init_1 : decode cX3_init 1 = .ok (.invokespecial 3, 3) := by decide +kernel
theorem dX3_init_4 : decode cX3_init 4 = .ok (.aload_n 0, 1) := by decide +kernel
theorem dX3_init_5 : decode cX3_init 5 = .ok (.sipush 240, 3) := by decide +kernel
theorem dX3_init_8 : decode cX3_init 8 = .ok (.newarray .int, 2) := by decide +kernel
theorem dX3_init_10 : decode cX3_init 10 = .ok (.putfield 9, 3) := by decide +kernel
theorem dX3_init_13 : decode cX3_init 13 = .ok (.aload_n 0, 1) := by decide +kernel
theorem dX3_init_14 : decode cX3_init 14 = .ok (.sipush 240, 3) := by decide +kernel
theorem dX3_init_17 : decode cX3_init 17 = .ok (.newarray .int, 2) := by decide +kernel
theorem dX3_init_19 : decode cX3_init 19 = .ok (.putfield 15, 3) := by decide +kernel
theorem dX3_init_22 : decode cX3_init 22 = .ok (.aload_n 0, 1) := by decide +kernel
theorem dX3_init_23 : decode cX3_init 23 = .ok (.sipush 240, 3) := by decide +kernel
theorem dX3_init_26 : decode cX3_init 26 = .ok (.newarray .int, 2) := by decide +kernel
theorem dX3_init_28 : decode cX3_init 28 = .ok (.putfield 18, 3) := by decide +kernel
theorem dX3_init_31 : decode cX3_init 31 = .ok (.aload_n 0, 1) := by decide +kernel
theorem dX3_init_32 : decode cX3_init 32 = .ok (.sipush 240, 3) := by decide +kernel
theorem dX3_init_35 : decode cX3_init 35 = .ok (.newarray .int, 2) := by decide +kernel
theorem dX3_init_37 : decode cX3_init 37 = .ok (.putfield 21, 3) := by decide +kernel
theorem dX3_init_40 : decode cX3_init 40 = .ok (.aload_n 0, 1) := by decide +kernel
theorem dX3_init_41 : decode cX3_init 41 = .ok (.iconst (-1), 1) := by decide +kernel
theorem dX3_init_42 : decode cX3_init 42 = .ok (.putfield 24, 3) := by decide +kernel
theorem dX3_init_45 : decode cX3_init 45 = .ok (.return_, 1) := by decide +kernel
theorem dX3_begin_0 : decode cX3_begin 0 = .ok (.aload_n 0, 1) := by decide +kernel
theorem dX3_begin_1 : decode cX3_begin 1 = .ok (.iconst 0, 1) := by decide +kernel
theorem dX3_begin_2 : decode cX3_begin 2 = .ok (.putfield 24, 3) := by decide +kernel
theorem dX3_begin_5 : decode cX3_begin 5 = .ok (.return_, 1) := by decide +kernel
theorem dX3_append_0 : decode cX3_append 0 = .ok (.aload_n 0, 1) := by decide +kernel
theorem dX3_append_1 : decode cX3_append 1 = .ok (.getfield 24, 3) := by decide +kernel
theorem dX3_append_4 : decode cX3_append 4 = .ok (.ifCond .lt 64, 3) := by decide +kernel
theorem dX3_append_7 : decode cX3_append 7 = .ok (.aload_n 0, 1) := by decide +kernel
theorem dX3_append_8 : decode cX3_append 8 = .ok (.getfield 24, 3) := by decide +kernel
theorem dX3_append_11 : decode cX3_append 11 = .ok (.sipush 240, 3) := by decide +kernel
theorem dX3_append_14 : decode cX3_append 14 = .ok (.if_icmp .ge 54, 3) := by decide +kernel
theorem dX3_append_17 : decode cX3_append 17 = .ok (.aload_n 0, 1) := by decide +kernel
theorem dX3_append_18 : decode cX3_append 18 = .ok (.getfield 9, 3) := by decide +kernel
theorem dX3_append_21 : decode cX3_append 21 = .ok (.aload_n 0, 1) := by decide +kernel
theorem dX3_append_22 : decode cX3_append 22 = .ok (.getfield 24, 3) := by decide +kernel
theorem dX3_append_25 : decode cX3_append 25 = .ok (.iload_n 1, 1) := by decide +kernel
theorem dX3_append_26 : decode cX3_append 26 = .ok (.iastore, 1) := by decide +kernel
theorem dX3_append_27 : decode cX3_append 27 = .ok (.aload_n 0, 1) := by decide +kernel
theorem dX3_append_28 : decode cX3_append 28 = .ok (.getfield 15, 3) := by decide +kernel
theorem dX3_append_31 : decode cX3_append 31 = .ok (.aload_n 0, 1) := by decide +kernel
theorem dX3_append_32 : decode cX3_append 32 = .ok (.getfield 24, 3) := by decide +kernel
theorem dX3_append_35 : decode cX3_append 35 = .ok (.iload_n 2, 1) := by decide +kernel
theorem dX3_append_36 : decode cX3_append 36 = .ok (.iastore, 1) := by decide +kernel
theorem dX3_append_37 : decode cX3_append 37 = .ok (.aload_n 0, 1) := by decide +kernel
theorem dX3_append_38 : decode cX3_append 38 = .ok (.getfield 18, 3) := by decide +kernel
theorem dX3_append_41 : decode cX3_append 41 = .ok (.aload_n 0, 1) := by decide +kernel
theorem dX3_append_42 : decode cX3_append 42 = .ok (.getfield 24, 3) := by decide +kernel
theorem dX3_append_45 : decode cX3_append 45 = .ok (.iload_n 3, 1) := by decide +kernel
theorem dX3_append_46 : decode cX3_append 46 = .ok (.iastore, 1) := by decide +kernel
theorem dX3_append_47 : decode cX3_append 47 = .ok (.aload_n 0, 1) := by decide +kernel
theorem dX3_append_48 : decode cX3_append 48 = .ok (.getfield 21, 3) := by decide +kernel
theorem dX3_append_51 : decode cX3_append 51 = .ok (.aload_n 0, 1) := by decide +kernel
theorem dX3_append_52 : decode cX3_append 52 = .ok (.getfield 24, 3) := by decide +kernel
theorem dX3_append_55 : decode cX3_append 55 = .ok (.iload 4, 2) := by decide +kernel
theorem dX3_append_57 : decode cX3_append 57 = .ok (.iastore, 1) := by decide +kernel
theorem dX3_append_58 : decode cX3_append 58 = .ok (.aload_n 0, 1) := by decide +kernel
theorem dX3_append_59 : decode cX3_append 59 = .ok (.dup, 1) := by decide +kernel
theorem dX3_append_60 : decode cX3_append 60 = .ok (.getfield 24, 3) := by decide +kernel
theorem dX3_append_63 : decode cX3_append 63 = .ok (.iconst 1, 1) := by decide +kernel
theorem dX3_append_64 : decode cX3_append 64 = .ok (.iadd, 1) := by decide +kernel
theorem dX3_append_65 : decode cX3_append 65 = .ok (.putfield 24, 3) := by decide +kernel
theorem dX3_append_68 : decode cX3_append 68 = .ok (.return_, 1) := by decide +kernel
theorem dX3_countHunks_0 : decode cX3_countHunks 0 = .ok (.iconst 0, 1) := by decide +kernel
theorem dX3_countHunks_1 : decode cX3_countHunks 1 = .ok (.istore_n 1, 1) := by decide +kernel
theorem dX3_countHunks_2 : decode cX3_countHunks 2 = .ok (.iconst 0, 1) := by decide +kernel
theorem dX3_countHunks_3 : decode cX3_countHunks 3 = .ok (.istore_n 2, 1) := by decide +kernel
theorem dX3_countHunks_4 : decode cX3_countHunks 4 = .ok (.iload_n 2, 1) := by decide +kernel
theorem dX3_countHunks_5 : decode cX3_countHunks 5 = .ok (.aload_n 0, 1) := by decide +kernel
theorem dX3_countHunks_6 : decode cX3_countHunks 6 = .ok (.getfield 24, 3) := by decide +kernel
theorem dX3_countHunks_9 : decode cX3_countHunks 9 = .ok (.if_icmp .ge 20, 3) := by decide +kernel
theorem dX3_countHunks_12 : decode cX3_countHunks 12 = .ok (.aload_n 0, 1) := by decide +kernel
theorem dX3_countHunks_13 : decode cX3_countHunks 13 = .ok (.iload_n 2, 1) := by decide +kernel
theorem dX3_countHunks_14 : decode cX3_countHunks 14 = .ok (.invokevirtual 28, 3) := by decide +kernel
theorem dX3_countHunks_17 : decode cX3_countHunks 17 = .ok (.ifCond .eq 6, 3) := by decide +kernel
theorem dX3_countHunks_20 : decode cX3_countHunks 20 = .ok (.iinc 1 1, 3) := by decide +kernel
theorem dX3_countHunks_23 : decode cX3_countHunks 23 = .ok (.iinc 2 1, 3) := by decide +kernel
theorem dX3_countHunks_26 : decode cX3_countHunks 26 = .ok (.goto (-22), 3) := by decide +kernel
theorem dX3_countHunks_29 : decode cX3_countHunks 29 = .ok (.iload_n 1, 1) := by decide +kernel
theorem dX3_countHunks_30 : decode cX3_countHunks 30 = .ok (.ireturn, 1) := by decide +kernel
theorem dX3_firstStepOfHunk_0 : decode cX3_firstStepOfHunk 0 = .ok (.iconst 0, 1) := by decide +kernel
theorem dX3_firstStepOfHunk_1 : decode cX3_firstStepOfHunk 1 = .ok (.istore_n 2, 1) := by decide +kernel
theorem dX3_firstStepOfHunk_2 : decode cX3_firstStepOfHunk 2 = .ok (.iconst 0, 1) := by decide +kernel
theorem dX3_firstStepOfHunk_3 : decode cX3_firstStepOfHunk 3 = .ok (.istore_n 3, 1) := by decide +kernel
theorem dX3_firstStepOfHunk_4 : decode cX3_firstStepOfHunk 4 = .ok (.iload_n 3, 1) := by decide +kernel
theorem dX3_firstStepOfHunk_5 : decode cX3_firstStepOfHunk 5 = .ok (.aload_n 0, 1) := by decide +kernel
theorem dX3_firstStepOfHunk_6 : decode cX3_firstStepOfHunk 6 = .ok (.getfield 24, 3) := by decide +kernel
theorem dX3_firstStepOfHunk_9 : decode cX3_firstStepOfHunk 9 = .ok (.if_icmp .ge 27, 3) := by decide +kernel
theorem dX3_firstStepOfHunk_12 : decode cX3_firstStepOfHunk 12 = .ok (.aload_n 0, 1) := by decide +kernel
theorem dX3_firstStepOfHunk_13 : decode cX3_firstStepOfHunk 13 = .ok (.iload_n 3, 1) := by decide +kernel
theorem dX3_firstStepOfHunk_14 : decode cX3_firstStepOfHunk 14 = .ok (.invokevirtual 28, 3) := by decide +kernel
theorem dX3_firstStepOfHunk_17 : decode cX3_firstStepOfHunk 17 = .ok (.ifCond .eq 13, 3) := by decide +kernel
theorem dX3_firstStepOfHunk_20 : decode cX3_firstStepOfHunk 20 = .ok (.iload_n 2, 1) := by decide +kernel
theorem dX3_firstStepOfHunk_21 : decode cX3_firstStepOfHunk 21 = .ok (.iload_n 1, 1) := by decide +kernel
theorem dX3_firstStepOfHunk_22 : decode cX3_firstStepOfHunk 22 = .ok (.if_icmp .ne 5, 3) := by decide +kernel
theorem dX3_firstStepOfHunk_25 : decode cX3_firstStepOfHunk 25 = .ok (.iload_n 3, 1) := by decide +kernel
theorem dX3_firstStepOfHunk_26 : decode cX3_firstStepOfHunk 26 = .ok (.ireturn, 1) := by decide +kernel
theorem dX3_firstStepOfHunk_27 : decode cX3_firstStepOfHunk 27 = .ok (.iinc 2 1, 3) := by decide +kernel
theorem dX3_firstStepOfHunk_30 : decode cX3_firstStepOfHunk 30 = .ok (.iinc 3 1, 3) := by decide +kernel
theorem dX3_firstStepOfHunk_33 : decode cX3_firstStepOfHunk 33 = .ok (.goto (-29), 3) := by decide +kernel
theorem dX3_firstStepOfHunk_36 : decode cX3_firstStepOfHunk 36 = .ok (.iconst (-1), 1) := by decide +kernel
theorem dX3_firstStepOfHunk_37 : decode cX3_firstStepOfHunk 37 = .ok (.ireturn, 1) := by decide +kernel
theorem dX3_countInHunk_0 : decode cX3_countInHunk 0 = .ok (.iconst 0, 1) := by decide +kernel
theorem dX3_countInHunk_1 : decode cX3_countInHunk 1 = .ok (.istore_n 3, 1) := by decide +kernel
theorem dX3_countInHunk_2 : decode cX3_countInHunk 2 = .ok (.iload_n 1, 1) := by decide +kernel
theorem dX3_countInHunk_3 : decode cX3_countInHunk 3 = .ok (.istore 4, 2) := by decide +kernel
theorem dX3_countInHunk_5 : decode cX3_countInHunk 5 = .ok (.iload 4, 2) := by decide +kernel
theorem dX3_countInHunk_7 : decode cX3_countInHunk 7 = .ok (.aload_n 0, 1) := by decide +kernel
theorem dX3_countInHunk_8 : decode cX3_countInHunk 8 = .ok (.getfield 24, 3) := by decide +kernel
theorem dX3_countInHunk_11 : decode cX3_countInHunk 11 = .ok (.if_icmp .ge 33, 3) := by decide +kernel
theorem dX3_countInHunk_14 : decode cX3_countInHunk 14 = .ok (.aload_n 0, 1) := by decide +kernel
theorem dX3_countInHunk_15 : decode cX3_countInHunk 15 = .ok (.getfield 9, 3) := by decide +kernel
theorem dX3_countInHunk_18 : decode cX3_countInHunk 18 = .ok (.iload 4, 2) := by decide +kernel
theorem dX3_countInHunk_20 : decode cX3_countInHunk 20 = .ok (.iaload, 1) := by decide +kernel
theorem dX3_countInHunk_21 : decode cX3_countInHunk 21 = .ok (.ifCond .eq 23, 3) := by decide +kernel
theorem dX3_countInHunk_24 : decode cX3_countInHunk 24 = .ok (.aload_n 0, 1) := by decide +kernel
theorem dX3_countInHunk_25 : decode cX3_countInHunk 25 = .ok (.getfield 9, 3) := by decide +kernel
theorem dX3_countInHunk_28 : decode cX3_countInHunk 28 = .ok (.iload 4, 2) := by decide +kernel
theorem dX3_countInHunk_30 : decode cX3_countInHunk 30 = .ok (.iaload, 1) := by decide +kernel
theorem dX3_countInHunk_31 : decode cX3_countInHunk 31 = .ok (.iload_n 2, 1) := by decide +kernel
theorem dX3_countInHunk_32 : decode cX3_countInHunk 32 = .ok (.if_icmp .ne 6, 3) := by decide +kernel
theorem dX3_countInHunk_35 : decode cX3_countInHunk 35 = .ok (.iinc 3 1, 3) := by decide +kernel
theorem dX3_countInHunk_38 : decode cX3_countInHunk 38 = .ok (.iinc 4 1, 3) := by decide +kernel
theorem dX3_countInHunk_41 : decode cX3_countInHunk 41 = .ok (.goto (-36), 3) := by decide +kernel
theorem dX3_countInHunk_44 : decode cX3_countInHunk 44 = .ok (.iload_n 3, 1) := by decide +kernel
theorem dX3_countInHunk_45 : decode cX3_countInHunk 45 = .ok (.ireturn, 1) := by decide +kernel
theorem dX3_endOfInserts_0 : decode cX3_endOfInserts 0 = .ok (.iload_n 1, 1) := by decide +kernel
theorem dX3_endOfInserts_1 : decode cX3_endOfInserts 1 = .ok (.istore_n 2, 1) := by decide +kernel
theorem dX3_endOfInserts_2 : decode cX3_endOfInserts 2 = .ok (.iload_n 2, 1) := by decide +kernel
theorem dX3_endOfInserts_3 : decode cX3_endOfInserts 3 = .ok (.aload_n 0, 1) := by decide +kernel
theorem dX3_endOfInserts_4 : decode cX3_endOfInserts 4 = .ok (.getfield 24, 3) := by decide +kernel
theorem dX3_endOfInserts_7 : decode cX3_endOfInserts 7 = .ok (.if_icmp .ge 19, 3) := by decide +kernel
theorem dX3_endOfInserts_10 : decode cX3_endOfInserts 10 = .ok (.aload_n 0, 1) := by decide +kernel
theorem dX3_endOfInserts_11 : decode cX3_endOfInserts 11 = .ok (.getfield 9, 3) := by decide +kernel
theorem dX3_endOfInserts_14 : decode cX3_endOfInserts 14 = .ok (.iload_n 2, 1) := by decide +kernel
theorem dX3_endOfInserts_15 : decode cX3_endOfInserts 15 = .ok (.iaload, 1) := by decide +kernel
theorem dX3_endOfInserts_16 : decode cX3_endOfInserts 16 = .ok (.iconst 2, 1) := by decide +kernel
theorem dX3_endOfInserts_17 : decode cX3_endOfInserts 17 = .ok (.if_icmp .ne 9, 3) := by decide +kernel
theorem dX3_endOfInserts_20 : decode cX3_endOfInserts 20 = .ok (.iinc 2 1, 3) := by decide +kernel
theorem dX3_endOfInserts_23 : decode cX3_endOfInserts 23 = .ok (.goto (-21), 3) := by decide +kernel
theorem dX3_endOfInserts_26 : decode cX3_endOfInserts 26 = .ok (.iload_n 2, 1) := by decide +kernel
theorem dX3_endOfInserts_27 : decode cX3_endOfInserts 27 = .ok (.ireturn, 1) := by decide +kernel
theorem dX3_erasesAt_0 : decode cX3_erasesAt 0 = .ok (.iload_n 1, 1) := by decide +kernel
theorem dX3_erasesAt_1 : decode cX3_erasesAt 1 = .ok (.aload_n 0, 1) := by decide +kernel
theorem dX3_erasesAt_2 : decode cX3_erasesAt 2 = .ok (.getfield 24, 3) := by decide +kernel
theorem dX3_erasesAt_5 : decode cX3_erasesAt 5 = .ok (.if_icmp .ge 17, 3) := by decide +kernel
theorem dX3_erasesAt_8 : decode cX3_erasesAt 8 = .ok (.aload_n 0, 1) := by decide +kernel
theorem dX3_erasesAt_9 : decode cX3_erasesAt 9 = .ok (.getfield 9, 3) := by decide +kernel
theorem dX3_erasesAt_12 : decode cX3_erasesAt 12 = .ok (.iload_n 1, 1) := by decide +kernel
theorem dX3_erasesAt_13 : decode cX3_erasesAt 13 = .ok (.iaload, 1) := by decide +kernel
theorem dX3_erasesAt_14 : decode cX3_erasesAt 14 = .ok (.iconst 1, 1) := by decide +kernel
theorem dX3_erasesAt_15 : decode cX3_erasesAt 15 = .ok (.if_icmp .ne 7, 3) := by decide +kernel
theorem dX3_erasesAt_18 : decode cX3_erasesAt 18 = .ok (.iconst 1, 1) := by decide +kernel
theorem dX3_erasesAt_19 : decode cX3_erasesAt 19 = .ok (.goto 4, 3) := by decide +kernel
theorem dX3_erasesAt_22 : decode cX3_erasesAt 22 = .ok (.iconst 0, 1) := by decide +kernel
theorem dX3_erasesAt_23 : decode cX3_erasesAt 23 = .ok (.ireturn, 1) := by decide +kernel
theorem dX3_spells_0 : decode cX3_spells 0 = .ok (.iconst 0, 1) := by decide +kernel
theorem dX3_spells_1 : decode cX3_spells 1 = .ok (.istore_n 3, 1) := by decide +kernel
theorem dX3_spells_2 : decode cX3_spells 2 = .ok (.iconst 0, 1) := by decide +kernel
theorem dX3_spells_3 : decode cX3_spells 3 = .ok (.istore 4, 2) := by decide +kernel
theorem dX3_spells_5 : decode cX3_spells 5 = .ok (.iload 4, 2) := by decide +kernel
theorem dX3_spells_7 : decode cX3_spells 7 = .ok (.aload_n 0, 1) := by decide +kernel
theorem dX3_spells_8 : decode cX3_spells 8 = .ok (.getfield 24, 3) := by decide +kernel
theorem dX3_spells_11 : decode cX3_spells 11 = .ok (.if_icmp .ge 49, 3) := by decide +kernel
theorem dX3_spells_14 : decode cX3_spells 14 = .ok (.aload_n 0, 1) := by decide +kernel
theorem dX3_spells_15 : decode cX3_spells 15 = .ok (.getfield 9, 3) := by decide +kernel
theorem dX3_spells_18 : decode cX3_spells 18 = .ok (.iload 4, 2) := by decide +kernel
theorem dX3_spells_20 : decode cX3_spells 20 = .ok (.iaload, 1) := by decide +kernel
theorem dX3_spells_21 : decode cX3_spells 21 = .ok (.iload_n 2, 1) := by decide +kernel
theorem dX3_spells_22 : decode cX3_spells 22 = .ok (.if_icmp .eq 32, 3) := by decide +kernel
theorem dX3_spells_25 : decode cX3_spells 25 = .ok (.iload_n 3, 1) := by decide +kernel
theorem dX3_spells_26 : decode cX3_spells 26 = .ok (.aload_n 1, 1) := by decide +kernel
theorem dX3_spells_27 : decode cX3_spells 27 = .ok (.getfield 32, 3) := by decide +kernel
theorem dX3_spells_30 : decode cX3_spells 30 = .ok (.if_icmp .ge 19, 3) := by decide +kernel
theorem dX3_spells_33 : decode cX3_spells 33 = .ok (.aload_n 1, 1) := by decide +kernel
theorem dX3_spells_34 : decode cX3_spells 34 = .ok (.getfield 35, 3) := by decide +kernel
theorem dX3_spells_37 : decode cX3_spells 37 = .ok (.iload_n 3, 1) := by decide +kernel
theorem dX3_spells_38 : decode cX3_spells 38 = .ok (.iaload, 1) := by decide +kernel
theorem dX3_spells_39 : decode cX3_spells 39 = .ok (.aload_n 0, 1) := by decide +kernel
theorem dX3_spells_40 : decode cX3_spells 40 = .ok (.getfield 21, 3) := by decide +kernel
theorem dX3_spells_43 : decode cX3_spells 43 = .ok (.iload 4, 2) := by decide +kernel
theorem dX3_spells_45 : decode cX3_spells 45 = .ok (.iaload, 1) := by decide +kernel
theorem dX3_spells_46 : decode cX3_spells 46 = .ok (.if_icmp .eq 5, 3) := by decide +kernel
theorem dX3_spells_49 : decode cX3_spells 49 = .ok (.iconst 0, 1) := by decide +kernel
theorem dX3_spells_50 : decode cX3_spells 50 = .ok (.ireturn, 1) := by decide +kernel
theorem dX3_spells_51 : decode cX3_spells 51 = .ok (.iinc 3 1, 3) := by decide +kernel
theorem dX3_spells_54 : decode cX3_spells 54 = .ok (.iinc 4 1, 3) := by decide +kernel
theorem dX3_spells_57 : decode cX3_spells 57 = .ok (.goto (-52), 3) := by decide +kernel
theorem dX3_spells_60 : decode cX3_spells 60 = .ok (.iload_n 3, 1) := by decide +kernel
theorem dX3_spells_61 : decode cX3_spells 61 = .ok (.aload_n 1, 1) := by decide +kernel
theorem dX3_spells_62 : decode cX3_spells 62 = .ok (.getfield 32, 3) := by decide +kernel
theorem dX3_spells_65 : decode cX3_spells 65 = .ok (.if_icmp .ne 7, 3) := by decide +kernel
theorem dX3_spells_68 : decode cX3_spells 68 = .ok (.iconst 1, 1) := by decide +kernel
theorem dX3_spells_69 : decode cX3_spells 69 = .ok (.goto 4, 3) := by decide +kernel
theorem dX3_spells_72 : decode cX3_spells 72 = .ok (.iconst 0, 1) := by decide +kernel
theorem dX3_spells_73 : decode cX3_spells 73 = .ok (.ireturn, 1) := by decide +kernel
theorem dX3_spellInto_0 : decode cX3_spellInto 0 = .ok (.aload_n 1, 1) := by decide +kernel
theorem dX3_spellInto_1 : decode cX3_spellInto 1 = .ok (.invokevirtual 36, 3) := by decide +kernel
theorem dX3_spellInto_4 : decode cX3_spellInto 4 = .ok (.iconst 0, 1) := by decide +kernel
theorem dX3_spellInto_5 : decode cX3_spellInto 5 = .ok (.istore_n 3, 1) := by decide +kernel
theorem dX3_spellInto_6 : decode cX3_spellInto 6 = .ok (.iload_n 3, 1) := by decide +kernel
theorem dX3_spellInto_7 : decode cX3_spellInto 7 = .ok (.aload_n 0, 1) := by decide +kernel
theorem dX3_spellInto_8 : decode cX3_spellInto 8 = .ok (.getfield 24, 3) := by decide +kernel
theorem dX3_spellInto_11 : decode cX3_spellInto 11 = .ok (.if_icmp .ge 29, 3) := by decide +kernel
theorem dX3_spellInto_14 : decode cX3_spellInto 14 = .ok (.aload_n 0, 1) := by decide +kernel
theorem dX3_spellInto_15 : decode cX3_spellInto 15 = .ok (.getfield 9, 3) := by decide +kernel
theorem dX3_spellInto_18 : decode cX3_spellInto 18 = .ok (.iload_n 3, 1) := by decide +kernel
theorem dX3_spellInto_19 : decode cX3_spellInto 19 = .ok (.iaload, 1) := by decide +kernel
theorem dX3_spellInto_20 : decode cX3_spellInto 20 = .ok (.iload_n 2, 1) := by decide +kernel
theorem dX3_spellInto_21 : decode cX3_spellInto 21 = .ok (.if_icmp .eq 13, 3) := by decide +kernel
theorem dX3_spellInto_24 : decode cX3_spellInto 24 = .ok (.aload_n 1, 1) := by decide +kernel
theorem dX3_spellInto_25 : decode cX3_spellInto 25 = .ok (.aload_n 0, 1) := by decide +kernel
theorem dX3_spellInto_26 : decode cX3_spellInto 26 = .ok (.getfield 21, 3) := by decide +kernel
theorem dX3_spellInto_29 : decode cX3_spellInto 29 = .ok (.iload_n 3, 1) := by decide +kernel
theorem dX3_spellInto_30 : decode cX3_spellInto 30 = .ok (.iaload, 1) := by decide +kernel
theorem dX3_spellInto_31 : decode cX3_spellInto 31 = .ok (.invokevirtual 39, 3) := by decide +kernel
theorem dX3_spellInto_34 : decode cX3_spellInto 34 = .ok (.iinc 3 1, 3) := by decide +kernel
theorem dX3_spellInto_37 : decode cX3_spellInto 37 = .ok (.goto (-31), 3) := by decide +kernel
theorem dX3_spellInto_40 : decode cX3_spellInto 40 = .ok (.return_, 1) := by decide +kernel
theorem dX3_opensHunk_0 : decode cX3_opensHunk 0 = .ok (.aload_n 0, 1) := by decide +kernel
theorem dX3_opensHunk_1 : decode cX3_opensHunk 1 = .ok (.getfield 9, 3) := by decide +kernel
theorem dX3_opensHunk_4 : decode cX3_opensHunk 4 = .ok (.iload_n 1, 1) := by decide +kernel
theorem dX3_opensHunk_5 : decode cX3_opensHunk 5 = .ok (.iaload, 1) := by decide +kernel
theorem dX3_opensHunk_6 : decode cX3_opensHunk 6 = .ok (.ifCond .eq 22, 3) := by decide +kernel
theorem dX3_opensHunk_9 : decode cX3_opensHunk 9 = .ok (.iload_n 1, 1) := by decide +kernel
theorem dX3_opensHunk_10 : decode cX3_opensHunk 10 = .ok (.ifCond .eq 14, 3) := by decide +kernel
theorem dX3_opensHunk_13 : decode cX3_opensHunk 13 = .ok (.aload_n 0, 1) := by decide +kernel
theorem dX3_opensHunk_14 : decode cX3_opensHunk 14 = .ok (.getfield 9, 3) := by decide +kernel
theorem dX3_opensHunk_17 : decode cX3_opensHunk 17 = .ok (.iload_n 1, 1) := by decide +kernel
theorem dX3_opensHunk_18 : decode cX3_opensHunk 18 = .ok (.iconst 1, 1) := by decide +kernel
theorem dX3_opensHunk_19 : decode cX3_opensHunk 19 = .ok (.isub, 1) := by decide +kernel
theorem dX3_opensHunk_20 : decode cX3_opensHunk 20 = .ok (.iaload, 1) := by decide +kernel
theorem dX3_opensHunk_21 : decode cX3_opensHunk 21 = .ok (.ifCond .ne 7, 3) := by decide +kernel
theorem dX3_opensHunk_24 : decode cX3_opensHunk 24 = .ok (.iconst 1, 1) := by decide +kernel
theorem dX3_opensHunk_25 : decode cX3_opensHunk 25 = .ok (.goto 4, 3) := by decide +kernel
theorem dX3_opensHunk_28 : decode cX3_opensHunk 28 = .ok (.iconst 0, 1) := by decide +kernel
theorem dX3_opensHunk_29 : decode cX3_opensHunk 29 = .ok (.ireturn, 1) := by decide +kernel

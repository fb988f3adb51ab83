theorem dL_at_0 : decode cL_at 0 = .ok (.iload_n 1, 1) := by decide +kernel
theorem dL_at_1 : decode cL_at 1 = .ok (.aload_n 0, 1) := by decide +kernel
theorem dL_at_2 : decode cL_at 2 = .ok (.arraylength, 1) := by decide +kernel
theorem dL_at_3 : decode cL_at 3 = .ok (.if_icmp .ge 9, 3) := by decide +kernel
theorem dL_at_6 : decode cL_at 6 = .ok (.aload_n 0, 1) := by decide +kernel
theorem dL_at_7 : decode cL_at 7 = .ok (.iload_n 1, 1) := by decide +kernel
theorem dL_at_8 : decode cL_at 8 = .ok (.iaload, 1) := by decide +kernel
theorem dL_at_9 : decode cL_at 9 = .ok (.goto 12, 3) := by decide +kernel
theorem dL_at_12 : decode cL_at 12 = .ok (.ldc 7, 2) := by decide +kernel
theorem dL_at_14 : decode cL_at 14 = .ok (.iload_n 1, 1) := by decide +kernel
theorem dL_at_15 : decode cL_at 15 = .ok (.iconst 1, 1) := by decide +kernel
theorem dL_at_16 : decode cL_at 16 = .ok (.iadd, 1) := by decide +kernel
theorem dL_at_17 : decode cL_at 17 = .ok (.imul, 1) := by decide +kernel
theorem dL_at_18 : decode cL_at 18 = .ok (.ldc 8, 2) := by decide +kernel
theorem dL_at_20 : decode cL_at 20 = .ok (.iadd, 1) := by decide +kernel
theorem dL_at_21 : decode cL_at 21 = .ok (.ireturn, 1) := by decide +kernel
theorem dL_low_0 : decode cL_low 0 = .ok (.iload_n 0, 1) := by decide +kernel
theorem dL_low_1 : decode cL_low 1 = .ok (.ldc 9, 2) := by decide +kernel
theorem dL_low_3 : decode cL_low 3 = .ok (.iand, 1) := by decide +kernel
theorem dL_low_4 : decode cL_low 4 = .ok (.iload_n 1, 1) := by decide +kernel
theorem dL_low_5 : decode cL_low 5 = .ok (.irem, 1) := by decide +kernel
theorem dL_low_6 : decode cL_low 6 = .ok (.ireturn, 1) := by decide +kernel
theorem dL_begin_0 : decode cL_begin 0 = .ok (.aload_n 0, 1) := by decide +kernel
theorem dL_begin_1 : decode cL_begin 1 = .ok (.invokevirtual 10, 3) := by decide +kernel
theorem dL_begin_4 : decode cL_begin 4 = .ok (.ireturn, 1) := by decide +kernel
theorem dL_begin_5 : decode cL_begin 5 = .ok (.astore_n 1, 1) := by decide +kernel
theorem dL_begin_6 : decode cL_begin 6 = .ok (.ldc 18, 2) := by decide +kernel
theorem dL_begin_8 : decode cL_begin 8 = .ok (.ireturn, 1) := by decide +kernel
theorem dL_addNote_0 : decode cL_addNote 0 = .ok (.aload_n 0, 1) := by decide +kernel
theorem dL_addNote_1 : decode cL_addNote 1 = .ok (.iload_n 1, 1) := by decide +kernel
theorem dL_addNote_2 : decode cL_addNote 2 = .ok (.iload_n 2, 1) := by decide +kernel
theorem dL_addNote_3 : decode cL_addNote 3 = .ok (.invokevirtual 19, 3) := by decide +kernel
theorem dL_addNote_6 : decode cL_addNote 6 = .ok (.ireturn, 1) := by decide +kernel
theorem dL_addNote_7 : decode cL_addNote 7 = .ok (.astore_n 3, 1) := by decide +kernel
theorem dL_addNote_8 : decode cL_addNote 8 = .ok (.ldc 25, 2) := by decide +kernel
theorem dL_addNote_10 : decode cL_addNote 10 = .ok (.ireturn, 1) := by decide +kernel
theorem dL_addNote_11 : decode cL_addNote 11 = .ok (.astore_n 3, 1) := by decide +kernel
theorem dL_addNote_12 : decode cL_addNote 12 = .ok (.ldc 28, 2) := by decide +kernel
theorem dL_addNote_14 : decode cL_addNote 14 = .ok (.ireturn, 1) := by decide +kernel
theorem dL_addNote_15 : decode cL_addNote 15 = .ok (.astore_n 3, 1) := by decide +kernel
theorem dL_addNote_16 : decode cL_addNote 16 = .ok (.ldc 18, 2) := by decide +kernel
theorem dL_addNote_18 : decode cL_addNote 18 = .ok (.ireturn, 1) := by decide +kernel
theorem dL_transpose_0 : decode cL_transpose 0 = .ok (.aload_n 0, 1) := by decide +kernel
theorem dL_transpose_1 : decode cL_transpose 1 = .ok (.iload_n 1, 1) := by decide +kernel
theorem dL_transpose_2 : decode cL_transpose 2 = .ok (.iload_n 2, 1) := by decide +kernel
theorem dL_transpose_3 : decode cL_transpose 3 = .ok (.invokevirtual 29, 3) := by decide +kernel
theorem dL_transpose_6 : decode cL_transpose 6 = .ok (.iconst 0, 1) := by decide +kernel
theorem dL_transpose_7 : decode cL_transpose 7 = .ok (.ireturn, 1) := by decide +kernel
theorem dL_transpose_8 : decode cL_transpose 8 = .ok (.astore_n 3, 1) := by decide +kernel
theorem dL_transpose_9 : decode cL_transpose 9 = .ok (.ldc 25, 2) := by decide +kernel
theorem dL_transpose_11 : decode cL_transpose 11 = .ok (.ireturn, 1) := by decide +kernel
theorem dL_transpose_12 : decode cL_transpose 12 = .ok (.astore_n 3, 1) := by decide +kernel
theorem dL_transpose_13 : decode cL_transpose 13 = .ok (.ldc 28, 2) := by decide +kernel
theorem dL_transpose_15 : decode cL_transpose 15 = .ok (.ireturn, 1) := by decide +kernel
theorem dL_transpose_16 : decode cL_transpose 16 = .ok (.astore_n 3, 1) := by decide +kernel
theorem dL_transpose_17 : decode cL_transpose 17 = .ok (.ldc 18, 2) := by decide +kernel
theorem dL_transpose_19 : decode cL_transpose 19 = .ok (.ireturn, 1) := by decide +kernel
theorem dL_pitch_0 : decode cL_pitch 0 = .ok (.aload_n 0, 1) := by decide +kernel
theorem dL_pitch_1 : decode cL_pitch 1 = .ok (.iload_n 1, 1) := by decide +kernel
theorem dL_pitch_2 : decode cL_pitch 2 = .ok (.iload_n 2, 1) := by decide +kernel
theorem dL_pitch_3 : decode cL_pitch 3 = .ok (.invokevirtual 33, 3) := by decide +kernel
theorem dL_pitch_6 : decode cL_pitch 6 = .ok (.ireturn, 1) := by decide +kernel
theorem dL_pitch_7 : decode cL_pitch 7 = .ok (.astore_n 3, 1) := by decide +kernel
theorem dL_pitch_8 : decode cL_pitch 8 = .ok (.ldc 25, 2) := by decide +kernel
theorem dL_pitch_10 : decode cL_pitch 10 = .ok (.ireturn, 1) := by decide +kernel
theorem dL_tune_0 : decode cL_tune 0 = .ok (.aload_n 0, 1) := by decide +kernel
theorem dL_tune_1 : decode cL_tune 1 = .ok (.iload_n 1, 1) := by decide +kernel
theorem dL_tune_2 : decode cL_tune 2 = .ok (.iload_n 2, 1) := by decide +kernel
theorem dL_tune_3 : decode cL_tune 3 = .ok (.iload_n 3, 1) := by decide +kernel
theorem dL_tune_4 : decode cL_tune 4 = .ok (.invokevirtual 36, 3) := by decide +kernel
theorem dL_tune_7 : decode cL_tune 7 = .ok (.ireturn, 1) := by decide +kernel
theorem dL_tune_8 : decode cL_tune 8 = .ok (.astore 4, 2) := by decide +kernel
theorem dL_tune_10 : decode cL_tune 10 = .ok (.ldc 25, 2) := by decide +kernel
theorem dL_tune_12 : decode cL_tune 12 = .ok (.ireturn, 1) := by decide +kernel
theorem dL_tune_13 : decode cL_tune 13 = .ok (.astore 4, 2) := by decide +kernel
theorem dL_tune_15 : decode cL_tune 15 = .ok (.ldc 28, 2) := by decide +kernel
theorem dL_tune_17 : decode cL_tune 17 = .ok (.ireturn, 1) := by decide +kernel
theorem dL_owner_0 : decode cL_owner 0 = .ok (.aload_n 0, 1) := by decide +kernel
theorem dL_owner_1 : decode cL_owner 1 = .ok (.iload_n 1, 1) := by decide +kernel
theorem dL_owner_2 : decode cL_owner 2 = .ok (.invokevirtual 40, 3) := by decide +kernel
theorem dL_owner_5 : decode cL_owner 5 = .ok (.ireturn, 1) := by decide +kernel
theorem dL_owner_6 : decode cL_owner 6 = .ok (.astore_n 2, 1) := by decide +kernel
theorem dL_owner_7 : decode cL_owner 7 = .ok (.ldc 25, 2) := by decide +kernel
theorem dL_owner_9 : decode cL_owner 9 = .ok (.ireturn, 1) := by decide +kernel
theorem dL_shifts_0 : decode cL_shifts 0 = .ok (.aload_n 0, 1) := by decide +kernel
theorem dL_shifts_1 : decode cL_shifts 1 = .ok (.iload_n 1, 1) := by decide +kernel
theorem dL_shifts_2 : decode cL_shifts 2 = .ok (.iload_n 2, 1) := by decide +kernel
theorem dL_shifts_3 : decode cL_shifts 3 = .ok (.invokevirtual 44, 3) := by decide +kernel
theorem dL_shifts_6 : decode cL_shifts 6 = .ok (.ireturn, 1) := by decide +kernel
theorem dL_shifts_7 : decode cL_shifts 7 = .ok (.astore_n 3, 1) := by decide +kernel
theorem dL_shifts_8 : decode cL_shifts 8 = .ok (.ldc 25, 2) := by decide +kernel
theorem dL_shifts_10 : decode cL_shifts 10 = .ok (.ireturn, 1) := by decide +kernel
theorem dL_shiftsByAll_0 : decode cL_shiftsByAll 0 = .ok (.aload_n 0, 1) := by decide +kernel
theorem dL_shiftsByAll_1 : decode cL_shiftsByAll 1 = .ok (.iload_n 1, 1) := by decide +kernel
theorem dL_shiftsByAll_2 : decode cL_shiftsByAll 2 = .ok (.iload_n 2, 1) := by decide +kernel
theorem dL_shiftsByAll_3 : decode cL_shiftsByAll 3 = .ok (.invokevirtual 47, 3) := by decide +kernel
theorem dL_shiftsByAll_6 : decode cL_shiftsByAll 6 = .ok (.ireturn, 1) := by decide +kernel
theorem dL_shiftsByAll_7 : decode cL_shiftsByAll 7 = .ok (.astore_n 3, 1) := by decide +kernel
theorem dL_shiftsByAll_8 : decode cL_shiftsByAll 8 = .ok (.ldc 25, 2) := by decide +kernel
theorem dL_shiftsByAll_10 : decode cL_shiftsByAll 10 = .ok (.ireturn, 1) := by decide +kernel
theorem dL_shiftsByAll_11 : decode cL_shiftsByAll 11 = .ok (.astore_n 3, 1) := by decide +kernel
theorem dL_shiftsByAll_12 : decode cL_shiftsByAll 12 = .ok (.ldc 18, 2) := by decide +kernel
theorem dL_shiftsByAll_14 : decode cL_shiftsByAll 14 = .ok (.ireturn, 1) := by decide +kernel
theorem dL_hardest_0 : decode cL_hardest 0 = .ok (.aload_n 0, 1) := by decide +kernel
theorem dL_hardest_1 : decode cL_hardest 1 = .ok (.iload_n 1, 1) := by decide +kernel
theorem dL_hardest_2 : decode cL_hardest 2 = .ok (.iload_n 2, 1) := by decide +kernel
theorem dL_hardest_3 : decode cL_hardest 3 = .ok (.invokevirtual 50, 3) := by decide +kernel
theorem dL_hardest_6 : decode cL_hardest 6 = .ok (.ireturn, 1) := by decide +kernel
theorem dL_hardest_7 : decode cL_hardest 7 = .ok (.astore_n 3, 1) := by decide +kernel
theorem dL_hardest_8 : decode cL_hardest 8 = .ok (.ldc 25, 2) := by decide +kernel
theorem dL_hardest_10 : decode cL_hardest 10 = .ok (.ireturn, 1) := by decide +kernel
theorem dL_position_0 : decode cL_position 0 = .ok (.aload_n 0, 1) := by decide +kernel
theorem dL_position_1 : decode cL_position 1 = .ok (.iload_n 1, 1) := by decide +kernel
theorem dL_position_2 : decode cL_position 2 = .ok (.iload_n 2, 1) := by decide +kernel
theorem dL_position_3 : decode cL_position 3 = .ok (.iload_n 3, 1) := by decide +kernel
theorem dL_position_4 : decode cL_position 4 = .ok (.invokevirtual 53, 3) := by decide +kernel
theorem dL_position_7 : decode cL_position 7 = .ok (.ireturn, 1) := by decide +kernel
theorem dL_position_8 : decode cL_position 8 = .ok (.astore 4, 2) := by decide +kernel
theorem dL_position_10 : decode cL_position 10 = .ok (.ldc 25, 2) := by decide +kernel
theorem dL_position_12 : decode cL_position 12 = .ok (.ireturn, 1) := by decide +kernel
theorem dL_string_0 : decode cL_string 0 = .ok (.aload_n 0, 1) := by decide +kernel
theorem dL_string_1 : decode cL_string 1 = .ok (.iload_n 1, 1) := by decide +kernel
theorem dL_string_2 : decode cL_string 2 = .ok (.iload_n 2, 1) := by decide +kernel
theorem dL_string_3 : decode cL_string 3 = .ok (.iload_n 3, 1) := by decide +kernel
theorem dL_string_4 : decode cL_string 4 = .ok (.invokevirtual 56, 3) := by decide +kernel
theorem dL_string_7 : decode cL_string 7 = .ok (.ireturn, 1) := by decide +kernel
theorem dL_string_8 : decode cL_string 8 = .ok (.astore 4, 2) := by decide +kernel
theorem dL_string_10 : decode cL_string 10 = .ok (.ldc 25, 2) := by decide +kernel
theorem dL_string_12 : decode cL_string 12 = .ok (.ireturn, 1) := by decide +kernel
theorem dL_learn_0 : decode cL_learn 0 = .ok (.aload_n 0, 1) := by decide +kernel
theorem dL_learn_1 : decode cL_learn 1 = .ok (.iload_n 1, 1) := by decide +kernel
theorem dL_learn_2 : decode cL_learn 2 = .ok (.iload_n 2, 1) := by decide +kernel
theorem dL_learn_3 : decode cL_learn 3 = .ok (.iload_n 3, 1) := by decide +kernel
theorem dL_learn_4 : decode cL_learn 4 = .ok (.invokevirtual 59, 3) := by decide +kernel
theorem dL_learn_7 : decode cL_learn 7 = .ok (.ireturn, 1) := by decide +kernel
theorem dL_learn_8 : decode cL_learn 8 = .ok (.astore 4, 2) := by decide +kernel
theorem dL_learn_10 : decode cL_learn 10 = .ok (.ldc 25, 2) := by decide +kernel
theorem dL_learn_12 : decode cL_learn 12 = .ok (.ireturn, 1) := by decide +kernel
theorem dL_learn_13 : decode cL_learn 13 = .ok (.astore 4, 2) := by decide +kernel
theorem dL_learn_15 : decode cL_learn 15 = .ok (.ldc 28, 2) := by decide +kernel
theorem dL_learn_17 : decode cL_learn 17 = .ok (.ireturn, 1) := by decide +kernel
theorem dL_learn_18 : decode cL_learn 18 = .ok (.astore 4, 2) := by decide +kernel
theorem dL_learn_20 : decode cL_learn 20 = .ok (.ldc 18, 2) := by decide +kernel
theorem dL_learn_22 : decode cL_learn 22 = .ok (.ireturn, 1) := by decide +kernel
theorem dL_level_0 : decode cL_level 0 = .ok (.aload_n 0, 1) := by decide +kernel
theorem dL_level_1 : decode cL_level 1 = .ok (.iload_n 1, 1) := by decide +kernel
theorem dL_level_2 : decode cL_level 2 = .ok (.invokevirtual 62, 3) := by decide +kernel
theorem dL_level_5 : decode cL_level 5 = .ok (.ireturn, 1) := by decide +kernel
theorem dL_level_6 : decode cL_level 6 = .ok (.astore_n 2, 1) := by decide +kernel
theorem dL_level_7 : decode cL_level 7 = .ok (.ldc 28, 2) := by decide +kernel
theorem dL_level_9 : decode cL_level 9 = .ok (.ireturn, 1) := by decide +kernel
theorem dL_known_0 : decode cL_known 0 = .ok (.aload_n 0, 1) := by decide +kernel
theorem dL_known_1 : decode cL_known 1 = .ok (.iload_n 1, 1) := by decide +kernel
theorem dL_known_2 : decode cL_known 2 = .ok (.invokevirtual 65, 3) := by decide +kernel
theorem dL_known_5 : decode cL_known 5 = .ok (.ireturn, 1) := by decide +kernel
theorem dL_known_6 : decode cL_known 6 = .ok (.astore_n 2, 1) := by decide +kernel
theorem dL_known_7 : decode cL_known 7 = .ok (.ldc 28, 2) := by decide +kernel
theorem dL_known_9 : decode cL_known 9 = .ok (.ireturn, 1) := by decide +kernel
theorem dL_next_0 : decode cL_next 0 = .ok (.aload_n 0, 1) := by decide +kernel
theorem dL_next_1 : decode cL_next 1 = .ok (.iload_n 1, 1) := by decide +kernel
theorem dL_next_2 : decode cL_next 2 = .ok (.invokevirtual 68, 3) := by decide +kernel
theorem dL_next_5 : decode cL_next 5 = .ok (.ireturn, 1) := by decide +kernel
theorem dL_next_6 : decode cL_next 6 = .ok (.astore_n 2, 1) := by decide +kernel
theorem dL_next_7 : decode cL_next 7 = .ok (.ldc 28, 2) := by decide +kernel
theorem dL_next_9 : decode cL_next 9 = .ok (.ireturn, 1) := by decide +kernel
theorem dL_addWood_0 : decode cL_addWood 0 = .ok (.aload_n 0, 1) := by decide +kernel
theorem dL_addWood_1 : decode cL_addWood 1 = .ok (.iload_n 1, 1) := by decide +kernel
theorem dL_addWood_2 : decode cL_addWood 2 = .ok (.iload_n 2, 1) := by decide +kernel
theorem dL_addWood_3 : decode cL_addWood 3 = .ok (.invokevirtual 71, 3) := by decide +kernel
theorem dL_addWood_6 : decode cL_addWood 6 = .ok (.ireturn, 1) := by decide +kernel
theorem dL_addWood_7 : decode cL_addWood 7 = .ok (.astore_n 3, 1) := by decide +kernel
theorem dL_addWood_8 : decode cL_addWood 8 = .ok (.ldc 28, 2) := by decide +kernel
theorem dL_addWood_10 : decode cL_addWood 10 = .ok (.ireturn, 1) := by decide +kernel
theorem dL_order_0 : decode cL_order 0 = .ok (.aload_n 0, 1) := by decide +kernel
theorem dL_order_1 : decode cL_order 1 = .ok (.iload_n 1, 1) := by decide +kernel
theorem dL_order_2 : decode cL_order 2 = .ok (.iload_n 2, 1) := by decide +kernel
theorem dL_order_3 : decode cL_order 3 = .ok (.iload_n 3, 1) := by decide +kernel
theorem dL_order_4 : decode cL_order 4 = .ok (.invokevirtual 74, 3) := by decide +kernel
theorem dL_order_7 : decode cL_order 7 = .ok (.ireturn, 1) := by decide +kernel
theorem dL_order_8 : decode cL_order 8 = .ok (.astore 4, 2) := by decide +kernel
theorem dL_order_10 : decode cL_order 10 = .ok (.ldc 28, 2) := by decide +kernel
theorem dL_order_12 : decode cL_order 12 = .ok (.ireturn, 1) := by decide +kernel
theorem dL_order_13 : decode cL_order 13 = .ok (.astore 4, 2) := by decide +kernel
theorem dL_order_15 : decode cL_order 15 = .ok (.ldc 18, 2) := by decide +kernel
theorem dL_order_17 : decode cL_order 17 = .ok (.ireturn, 1) := by decide +kernel
theorem dL_ready_0 : decode cL_ready 0 = .ok (.aload_n 0, 1) := by decide +kernel
theorem dL_ready_1 : decode cL_ready 1 = .ok (.iload_n 1, 1) := by decide +kernel
theorem dL_ready_2 : decode cL_ready 2 = .ok (.invokevirtual 77, 3) := by decide +kernel
theorem dL_ready_5 : decode cL_ready 5 = .ok (.ireturn, 1) := by decide +kernel
theorem dL_ready_6 : decode cL_ready 6 = .ok (.astore_n 2, 1) := by decide +kernel
theorem dL_ready_7 : decode cL_ready 7 = .ok (.ldc 25, 2) := by decide +kernel
theorem dL_ready_9 : decode cL_ready 9 = .ok (.ireturn, 1) := by decide +kernel
theorem dL_fetch_0 : decode cL_fetch 0 = .ok (.aload_n 0, 1) := by decide +kernel
theorem dL_fetch_1 : decode cL_fetch 1 = .ok (.iload_n 1, 1) := by decide +kernel
theorem dL_fetch_2 : decode cL_fetch 2 = .ok (.iload_n 2, 1) := by decide +kernel
theorem dL_fetch_3 : decode cL_fetch 3 = .ok (.iload_n 3, 1) := by decide +kernel
theorem dL_fetch_4 : decode cL_fetch 4 = .ok (.iload 4, 2) := by decide +kernel
theorem dL_fetch_6 : decode cL_fetch 6 = .ok (.iload 5, 2) := by decide +kernel
theorem dL_fetch_8 : decode cL_fetch 8 = .ok (.invokevirtual 80, 3) := by decide +kernel
theorem dL_fetch_11 : decode cL_fetch 11 = .ok (.ireturn, 1) := by decide +kernel
theorem dL_fetch_12 : decode cL_fetch 12 = .ok (.astore 6, 2) := by decide +kernel
theorem dL_fetch_14 : decode cL_fetch 14 = .ok (.ldc 25, 2) := by decide +kernel
theorem dL_fetch_16 : decode cL_fetch 16 = .ok (.ireturn, 1) := by decide +kernel
theorem dL_fetch_17 : decode cL_fetch 17 = .ok (.astore 6, 2) := by decide +kernel
theorem dL_fetch_19 : decode cL_fetch 19 = .ok (.ldc 28, 2) := by decide +kernel
theorem dL_fetch_21 : decode cL_fetch 21 = .ok (.ireturn, 1) := by decide +kernel
theorem dL_fetch_22 : decode cL_fetch 22 = .ok (.astore 6, 2) := by decide +kernel
theorem dL_fetch_24 : decode cL_fetch 24 = .ok (.ldc 18, 2) := by decide +kernel
theorem dL_fetch_26 : decode cL_fetch 26 = .ok (.ireturn, 1) := by decide +kernel
theorem dL_pass_0 : decode cL_pass 0 = .ok (.aload_n 0, 1) := by decide +kernel
theorem dL_pass_1 : decode cL_pass 1 = .ok (.iload_n 1, 1) := by decide +kernel
theorem dL_pass_2 : decode cL_pass 2 = .ok (.invokevirtual 84, 3) := by decide +kernel
theorem dL_pass_5 : decode cL_pass 5 = .ok (.ireturn, 1) := by decide +kernel
theorem dL_pass_6 : decode cL_pass 6 = .ok (.astore_n 2, 1) := by decide +kernel
theorem dL_pass_7 : decode cL_pass 7 = .ok (.ldc 28, 2) := by decide +kernel
theorem dL_pass_9 : decode cL_pass 9 = .ok (.ireturn, 1) := by decide +kernel
theorem dL_pass_10 : decode cL_pass 10 = .ok (.astore_n 2, 1) := by decide +kernel
theorem dL_pass_11 : decode cL_pass 11 = .ok (.ldc 18, 2) := by decide +kernel
theorem dL_pass_13 : decode cL_pass 13 = .ok (.ireturn, 1) := by decide +kernel
theorem dL_apart_0 : decode cL_apart 0 = .ok (.iload_n 0, 1) := by decide +kernel
theorem dL_apart_1 : decode cL_apart 1 = .ok (.iload_n 1, 1) := by decide +kernel
theorem dL_apart_2 : decode cL_apart 2 = .ok (.if_icmp .ge 9, 3) := by decide +kernel
theorem dL_apart_5 : decode cL_apart 5 = .ok (.iload_n 1, 1) := by decide +kernel
theorem dL_apart_6 : decode cL_apart 6 = .ok (.iload_n 0, 1) := by decide +kernel
theorem dL_apart_7 : decode cL_apart 7 = .ok (.isub, 1) := by decide +kernel
theorem dL_apart_8 : decode cL_apart 8 = .ok (.goto 6, 3) := by decide +kernel
theorem dL_apart_11 : decode cL_apart 11 = .ok (.iload_n 0, 1) := by decide +kernel
theorem dL_apart_12 : decode cL_apart 12 = .ok (.iload_n 1, 1) := by decide +kernel
theorem dL_apart_13 : decode cL_apart 13 = .ok (.isub, 1) := by decide +kernel
theorem dL_apart_14 : decode cL_apart 14 = .ok (.ireturn, 1) := by decide +kernel
theorem dL_stringOf_0 : decode cL_stringOf 0 = .ok (.iconst 0, 1) := by decide +kernel
theorem dL_stringOf_1 : decode cL_stringOf 1 = .ok (.istore 5, 2) := by decide +kernel
theorem dL_stringOf_3 : decode cL_stringOf 3 = .ok (.iload 5, 2) := by decide +kernel
theorem dL_stringOf_5 : decode cL_stringOf 5 = .ok (.iconst 4, 1) := by decide +kernel
theorem dL_stringOf_6 : decode cL_stringOf 6 = .ok (.if_icmp .ge 56, 3) := by decide +kernel
theorem dL_stringOf_9 : decode cL_stringOf 9 = .ok (.iload_n 3, 1) := by decide +kernel
theorem dL_stringOf_10 : decode cL_stringOf 10 = .ok (.aload_n 0, 1) := by decide +kernel
theorem dL_stringOf_11 : decode cL_stringOf 11 = .ok (.iconst 4, 1) := by decide +kernel
theorem dL_stringOf_12 : decode cL_stringOf 12 = .ok (.iload_n 2, 1) := by decide +kernel
theorem dL_stringOf_13 : decode cL_stringOf 13 = .ok (.imul, 1) := by decide +kernel
theorem dL_stringOf_14 : decode cL_stringOf 14 = .ok (.iload 5, 2) := by decide +kernel
theorem dL_stringOf_16 : decode cL_stringOf 16 = .ok (.iadd, 1) := by decide +kernel
theorem dL_stringOf_17 : decode cL_stringOf 17 = .ok (.iaload, 1) := by decide +kernel
theorem dL_stringOf_18 : decode cL_stringOf 18 = .ok (.isub, 1) := by decide +kernel
theorem dL_stringOf_19 : decode cL_stringOf 19 = .ok (.istore 6, 2) := by decide +kernel
theorem dL_stringOf_21 : decode cL_stringOf 21 = .ok (.iload 6, 2) := by decide +kernel
theorem dL_stringOf_23 : decode cL_stringOf 23 = .ok (.ifCond .eq 30, 3) := by decide +kernel
theorem dL_stringOf_26 : decode cL_stringOf 26 = .ok (.iload 6, 2) := by decide +kernel
theorem dL_stringOf_28 : decode cL_stringOf 28 = .ok (.iload 4, 2) := by decide +kernel
theorem dL_stringOf_30 : decode cL_stringOf 30 = .ok (.if_icmp .lt 26, 3) := by decide +kernel
theorem dL_stringOf_33 : decode cL_stringOf 33 = .ok (.iload 6, 2) := by decide +kernel
theorem dL_stringOf_35 : decode cL_stringOf 35 = .ok (.iload 4, 2) := by decide +kernel
theorem dL_stringOf_37 : decode cL_stringOf 37 = .ok (.iconst 3, 1) := by decide +kernel
theorem dL_stringOf_38 : decode cL_stringOf 38 = .ok (.iadd, 1) := by decide +kernel
theorem dL_stringOf_39 : decode cL_stringOf 39 = .ok (.if_icmp .gt 17, 3) := by decide +kernel
theorem dL_stringOf_42 : decode cL_stringOf 42 = .ok (.iload 6, 2) := by decide +kernel
theorem dL_stringOf_44 : decode cL_stringOf 44 = .ok (.aload_n 1, 1) := by decide +kernel
theorem dL_stringOf_45 : decode cL_stringOf 45 = .ok (.iload_n 2, 1) := by decide +kernel
theorem dL_stringOf_46 : decode cL_stringOf 46 = .ok (.iaload, 1) := by decide +kernel
theorem dL_stringOf_47 : decode cL_stringOf 47 = .ok (.bipush 32, 2) := by decide +kernel
theorem dL_stringOf_49 : decode cL_stringOf 49 = .ok (.irem, 1) := by decide +kernel
theorem dL_stringOf_50 : decode cL_stringOf 50 = .ok (.if_icmp .gt 6, 3) := by decide +kernel
theorem dL_stringOf_53 : decode cL_stringOf 53 = .ok (.iload 5, 2) := by decide +kernel
theorem dL_stringOf_55 : decode cL_stringOf 55 = .ok (.ireturn, 1) := by decide +kernel
theorem dL_stringOf_56 : decode cL_stringOf 56 = .ok (.iinc 5 1, 3) := by decide +kernel
theorem dL_stringOf_59 : decode cL_stringOf 59 = .ok (.goto (-56), 3) := by decide +kernel
theorem dL_stringOf_62 : decode cL_stringOf 62 = .ok (.iconst (-1), 1) := by decide +kernel
theorem dL_stringOf_63 : decode cL_stringOf 63 = .ok (.ireturn, 1) := by decide +kernel
theorem dL_fingers_0 : decode cL_fingers 0 = .ok (.bipush 14, 2) := by decide +kernel
theorem dL_fingers_2 : decode cL_fingers 2 = .ok (.newarray .int, 2) := by decide +kernel
theorem dL_fingers_4 : decode cL_fingers 4 = .ok (.astore 6, 2) := by decide +kernel
theorem dL_fingers_6 : decode cL_fingers 6 = .ok (.bipush 14, 2) := by decide +kernel
theorem dL_fingers_8 : decode cL_fingers 8 = .ok (.newarray .int, 2) := by decide +kernel
theorem dL_fingers_10 : decode cL_fingers 10 = .ok (.astore 7, 2) := by decide +kernel
theorem dL_fingers_12 : decode cL_fingers 12 = .ok (.aload_n 3, 1) := by decide +kernel
theorem dL_fingers_13 : decode cL_fingers 13 = .ok (.iload 5, 2) := by decide +kernel
theorem dL_fingers_15 : decode cL_fingers 15 = .ok (.iaload, 1) := by decide +kernel
theorem dL_fingers_16 : decode cL_fingers 16 = .ok (.bipush 32, 2) := by decide +kernel
theorem dL_fingers_18 : decode cL_fingers 18 = .ok (.irem, 1) := by decide +kernel
theorem dL_fingers_19 : decode cL_fingers 19 = .ok (.iconst 3, 1) := by decide +kernel
theorem dL_fingers_20 : decode cL_fingers 20 = .ok (.isub, 1) := by decide +kernel
theorem dL_fingers_21 : decode cL_fingers 21 = .ok (.istore 8, 2) := by decide +kernel
theorem dL_fingers_23 : decode cL_fingers 23 = .ok (.iconst 0, 1) := by decide +kernel
theorem dL_fingers_24 : decode cL_fingers 24 = .ok (.istore 9, 2) := by decide +kernel
theorem dL_fingers_26 : decode cL_fingers 26 = .ok (.iload 9, 2) := by decide +kernel
theorem dL_fingers_28 : decode cL_fingers 28 = .ok (.aload_n 1, 1) := by decide +kernel
theorem dL_fingers_29 : decode cL_fingers 29 = .ok (.iload 4, 2) := by decide +kernel
theorem dL_fingers_31 : decode cL_fingers 31 = .ok (.iaload, 1) := by decide +kernel
theorem dL_fingers_32 : decode cL_fingers 32 = .ok (.if_icmp .ge 154, 3) := by decide +kernel
theorem dL_fingers_35 : decode cL_fingers 35 = .ok (.aload_n 0, 1) := by decide +kernel
theorem dL_fingers_36 : decode cL_fingers 36 = .ok (.iload 4, 2) := by decide +kernel
theorem dL_fingers_38 : decode cL_fingers 38 = .ok (.iload 9, 2) := by decide +kernel
theorem dL_fingers_40 : decode cL_fingers 40 = .ok (.invokestatic 87, 3) := by decide +kernel
theorem dL_fingers_43 : decode cL_fingers 43 = .ok (.istore 10, 2) := by decide +kernel
theorem dL_fingers_45 : decode cL_fingers 45 = .ok (.iconst 1, 1) := by decide +kernel
theorem dL_fingers_46 : decode cL_fingers 46 = .ok (.istore 11, 2) := by decide +kernel
theorem dL_fingers_48 : decode cL_fingers 48 = .ok (.iload 11, 2) := by decide +kernel
theorem dL_fingers_50 : decode cL_fingers 50 = .ok (.iload 8, 2) := by decide +kernel
theorem dL_fingers_52 : decode cL_fingers 52 = .ok (.if_icmp .gt 102, 3) := by decide +kernel
theorem dL_fingers_55 : decode cL_fingers 55 = .ok (.iload 9, 2) := by decide +kernel
theorem dL_fingers_57 : decode cL_fingers 57 = .ok (.ifCond .ne 7, 3) := by decide +kernel
theorem dL_fingers_60 : decode cL_fingers 60 = .ok (.iconst 0, 1) := by decide +kernel
theorem dL_fingers_61 : decode cL_fingers 61 = .ok (.goto 6, 3) := by decide +kernel
theorem dL_fingers_64 : decode cL_fingers 64 = .ok (.sipush 10000, 3) := by decide +kernel
theorem dL_fingers_67 : decode cL_fingers 67 = .ok (.istore 12, 2) := by decide +kernel
theorem dL_fingers_69 : decode cL_fingers 69 = .ok (.iconst 1, 1) := by decide +kernel
theorem dL_fingers_70 : decode cL_fingers 70 = .ok (.istore 13, 2) := by decide +kernel
theorem dL_fingers_72 : decode cL_fingers 72 = .ok (.iload 13, 2) := by decide +kernel
theorem dL_fingers_74 : decode cL_fingers 74 = .ok (.iload 8, 2) := by decide +kernel
theorem dL_fingers_76 : decode cL_fingers 76 = .ok (.if_icmp .gt 45, 3) := by decide +kernel
theorem dL_fingers_79 : decode cL_fingers 79 = .ok (.iload 9, 2) := by decide +kernel
theorem dL_fingers_81 : decode cL_fingers 81 = .ok (.ifCond .le 40, 3) := by decide +kernel
theorem dL_fingers_84 : decode cL_fingers 84 = .ok (.aload 6, 2) := by decide +kernel
theorem dL_fingers_86 : decode cL_fingers 86 = .ok (.iload 13, 2) := by decide +kernel
theorem dL_fingers_88 : decode cL_fingers 88 = .ok (.iaload, 1) := by decide +kernel
theorem dL_fingers_89 : decode cL_fingers 89 = .ok (.iload 13, 2) := by decide +kernel
theorem dL_fingers_91 : decode cL_fingers 91 = .ok (.iload 11, 2) := by decide +kernel
theorem dL_fingers_93 : decode cL_fingers 93 = .ok (.invokestatic 92, 3) := by decide +kernel
theorem dL_fingers_96 : decode cL_fingers 96 = .ok (.iadd, 1) := by decide +kernel
theorem dL_fingers_97 : decode cL_fingers 97 = .ok (.istore 14, 2) := by decide +kernel
theorem dL_fingers_99 : decode cL_fingers 99 = .ok (.iload 14, 2) := by decide +kernel
theorem dL_fingers_101 : decode cL_fingers 101 = .ok (.iload 12, 2) := by decide +kernel
theorem dL_fingers_103 : decode cL_fingers 103 = .ok (.if_icmp .ge 8, 3) := by decide +kernel
theorem dL_fingers_106 : decode cL_fingers 106 = .ok (.iload 14, 2) := by decide +kernel
theorem dL_fingers_108 : decode cL_fingers 108 = .ok (.goto 5, 3) := by decide +kernel
theorem dL_fingers_111 : decode cL_fingers 111 = .ok (.iload 12, 2) := by decide +kernel
theorem dL_fingers_113 : decode cL_fingers 113 = .ok (.istore 12, 2) := by decide +kernel
theorem dL_fingers_115 : decode cL_fingers 115 = .ok (.iinc 13 1, 3) := by decide +kernel
theorem dL_fingers_118 : decode cL_fingers 118 = .ok (.goto (-46), 3) := by decide +kernel
theorem dL_fingers_121 : decode cL_fingers 121 = .ok (.aload 7, 2) := by decide +kernel
theorem dL_fingers_123 : decode cL_fingers 123 = .ok (.iload 11, 2) := by decide +kernel
theorem dL_fingers_125 : decode cL_fingers 125 = .ok (.aload_n 2, 1) := by decide +kernel
theorem dL_fingers_126 : decode cL_fingers 126 = .ok (.aload_n 3, 1) := by decide +kernel
theorem dL_fingers_127 : decode cL_fingers 127 = .ok (.iload 5, 2) := by decide +kernel
theorem dL_fingers_129 : decode cL_fingers 129 = .ok (.iload 10, 2) := by decide +kernel
theorem dL_fingers_131 : decode cL_fingers 131 = .ok (.iload 11, 2) := by decide +kernel
theorem dL_fingers_133 : decode cL_fingers 133 = .ok (.invokestatic 95, 3) := by decide +kernel
theorem dL_fingers_136 : decode cL_fingers 136 = .ok (.ifCond .ge 9, 3) := by decide +kernel
theorem dL_fingers_139 : decode cL_fingers 139 = .ok (.sipush 10000, 3) := by decide +kernel
theorem dL_fingers_142 : decode cL_fingers 142 = .ok (.goto 5, 3) := by decide +kernel
theorem dL_fingers_145 : decode cL_fingers 145 = .ok (.iload 12, 2) := by decide +kernel
theorem dL_fingers_147 : decode cL_fingers 147 = .ok (.iastore, 1) := by decide +kernel
theorem dL_fingers_148 : decode cL_fingers 148 = .ok (.iinc 11 1, 3) := by decide +kernel
theorem dL_fingers_151 : decode cL_fingers 151 = .ok (.goto (-103), 3) := by decide +kernel
theorem dL_fingers_154 : decode cL_fingers 154 = .ok (.iconst 1, 1) := by decide +kernel
theorem dL_fingers_155 : decode cL_fingers 155 = .ok (.istore 11, 2) := by decide +kernel
theorem dL_fingers_157 : decode cL_fingers 157 = .ok (.iload 11, 2) := by decide +kernel
theorem dL_fingers_159 : decode cL_fingers 159 = .ok (.iload 8, 2) := by decide +kernel
theorem dL_fingers_161 : decode cL_fingers 161 = .ok (.if_icmp .gt 19, 3) := by decide +kernel
theorem dL_fingers_164 : decode cL_fingers 164 = .ok (.aload 6, 2) := by decide +kernel
theorem dL_fingers_166 : decode cL_fingers 166 = .ok (.iload 11, 2) := by decide +kernel
theorem dL_fingers_168 : decode cL_fingers 168 = .ok (.aload 7, 2) := by decide +kernel
theorem dL_fingers_170 : decode cL_fingers 170 = .ok (.iload 11, 2) := by decide +kernel
theorem dL_fingers_172 : decode cL_fingers 172 = .ok (.iaload, 1) := by decide +kernel
theorem dL_fingers_173 : decode cL_fingers 173 = .ok (.iastore, 1) := by decide +kernel
theorem dL_fingers_174 : decode cL_fingers 174 = .ok (.iinc 11 1, 3) := by decide +kernel
theorem dL_fingers_177 : decode cL_fingers 177 = .ok (.goto (-20), 3) := by decide +kernel
theorem dL_fingers_180 : decode cL_fingers 180 = .ok (.iinc 9 1, 3) := by decide +kernel
theorem dL_fingers_183 : decode cL_fingers 183 = .ok (.goto (-157), 3) := by decide +kernel
theorem dL_fingers_186 : decode cL_fingers 186 = .ok (.sipush 10000, 3) := by decide +kernel
theorem dL_fingers_189 : decode cL_fingers 189 = .ok (.istore 9, 2) := by decide +kernel
theorem dL_fingers_191 : decode cL_fingers 191 = .ok (.iconst 1, 1) := by decide +kernel
theorem dL_fingers_192 : decode cL_fingers 192 = .ok (.istore 10, 2) := by decide +kernel
theorem dL_fingers_194 : decode cL_fingers 194 = .ok (.iload 10, 2) := by decide +kernel
theorem dL_fingers_196 : decode cL_fingers 196 = .ok (.iload 8, 2) := by decide +kernel
theorem dL_fingers_198 : decode cL_fingers 198 = .ok (.if_icmp .gt 38, 3) := by decide +kernel
theorem dL_fingers_201 : decode cL_fingers 201 = .ok (.aload_n 1, 1) := by decide +kernel
theorem dL_fingers_202 : decode cL_fingers 202 = .ok (.iload 4, 2) := by decide +kernel
theorem dL_fingers_204 : decode cL_fingers 204 = .ok (.iaload, 1) := by decide +kernel
theorem dL_fingers_205 : decode cL_fingers 205 = .ok (.ifCond .le 31, 3) := by decide +kernel
theorem dL_fingers_208 : decode cL_fingers 208 = .ok (.aload 6, 2) := by decide +kernel
theorem dL_fingers_210 : decode cL_fingers 210 = .ok (.iload 10, 2) := by decide +kernel
theorem dL_fingers_212 : decode cL_fingers 212 = .ok (.iaload, 1) := by decide +kernel
theorem dL_fingers_213 : decode cL_fingers 213 = .ok (.iload 9, 2) := by decide +kernel
theorem dL_fingers_215 : decode cL_fingers 215 = .ok (.if_icmp .ge 11, 3) := by decide +kernel
theorem dL_fingers_218 : decode cL_fingers 218 = .ok (.aload 6, 2) := by decide +kernel
theorem dL_fingers_220 : decode cL_fingers 220 = .ok (.iload 10, 2) := by decide +kernel
theorem dL_fingers_222 : decode cL_fingers 222 = .ok (.iaload, 1) := by decide +kernel
theorem dL_fingers_223 : decode cL_fingers 223 = .ok (.goto 5, 3) := by decide +kernel
theorem dL_fingers_226 : decode cL_fingers 226 = .ok (.iload 9, 2) := by decide +kernel
theorem dL_fingers_228 : decode cL_fingers 228 = .ok (.istore 9, 2) := by decide +kernel
theorem dL_fingers_230 : decode cL_fingers 230 = .ok (.iinc 10 1, 3) := by decide +kernel
theorem dL_fingers_233 : decode cL_fingers 233 = .ok (.goto (-39), 3) := by decide +kernel
theorem dL_fingers_236 : decode cL_fingers 236 = .ok (.aload_n 0, 1) := by decide +kernel
theorem dL_fingers_237 : decode cL_fingers 237 = .ok (.iload 4, 2) := by decide +kernel
theorem dL_fingers_239 : decode cL_fingers 239 = .ok (.iload 5, 2) := by decide +kernel
theorem dL_fingers_241 : decode cL_fingers 241 = .ok (.invokestatic 99, 3) := by decide +kernel
theorem dL_fingers_244 : decode cL_fingers 244 = .ok (.istore 10, 2) := by decide +kernel
theorem dL_fingers_246 : decode cL_fingers 246 = .ok (.aload_n 0, 1) := by decide +kernel
theorem dL_fingers_247 : decode cL_fingers 247 = .ok (.iload 4, 2) := by decide +kernel
theorem dL_fingers_249 : decode cL_fingers 249 = .ok (.iload 5, 2) := by decide +kernel
theorem dL_fingers_251 : decode cL_fingers 251 = .ok (.invokestatic 101, 3) := by decide +kernel
theorem dL_fingers_254 : decode cL_fingers 254 = .ok (.istore 11, 2) := by decide +kernel
theorem dL_fingers_256 : decode cL_fingers 256 = .ok (.iconst 0, 1) := by decide +kernel
theorem dL_fingers_257 : decode cL_fingers 257 = .ok (.istore 12, 2) := by decide +kernel
theorem dL_fingers_259 : decode cL_fingers 259 = .ok (.iconst 0, 1) := by decide +kernel
theorem dL_fingers_260 : decode cL_fingers 260 = .ok (.istore 13, 2) := by decide +kernel
theorem dL_fingers_262 : decode cL_fingers 262 = .ok (.iconst 0, 1) := by decide +kernel
theorem dL_fingers_263 : decode cL_fingers 263 = .ok (.istore 14, 2) := by decide +kernel
theorem dL_fingers_265 : decode cL_fingers 265 = .ok (.iload 14, 2) := by decide +kernel

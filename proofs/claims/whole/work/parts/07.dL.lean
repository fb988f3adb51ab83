theorem dL_begin_0 : decode cL_begin 0 = .ok (.aload_n 1, 1) := by decide +kernel
theorem dL_begin_1 : decode cL_begin 1 = .ok (.iconst 0, 1) := by decide +kernel
theorem dL_begin_2 : decode cL_begin 2 = .ok (.aload_n 0, 1) := by decide +kernel
theorem dL_begin_3 : decode cL_begin 3 = .ok (.invokevirtual 7, 3) := by decide +kernel
theorem dL_begin_6 : decode cL_begin 6 = .ok (.i2l, 1) := by decide +kernel
theorem dL_begin_7 : decode cL_begin 7 = .ok (.lastore, 1) := by decide +kernel
theorem dL_begin_8 : decode cL_begin 8 = .ok (.goto 6, 3) := by decide +kernel
theorem dL_begin_11 : decode cL_begin 11 = .ok (.astore_n 2, 1) := by decide +kernel
theorem dL_begin_12 : decode cL_begin 12 = .ok (.iconst 1, 1) := by decide +kernel
theorem dL_begin_13 : decode cL_begin 13 = .ok (.ireturn, 1) := by decide +kernel
theorem dL_begin_14 : decode cL_begin 14 = .ok (.iconst 0, 1) := by decide +kernel
theorem dL_begin_15 : decode cL_begin 15 = .ok (.ireturn, 1) := by decide +kernel
theorem dL_addNote_0 : decode cL_addNote 0 = .ok (.aload_n 3, 1) := by decide +kernel
theorem dL_addNote_1 : decode cL_addNote 1 = .ok (.iconst 0, 1) := by decide +kernel
theorem dL_addNote_2 : decode cL_addNote 2 = .ok (.aload_n 0, 1) := by decide +kernel
theorem dL_addNote_3 : decode cL_addNote 3 = .ok (.iload_n 1, 1) := by decide +kernel
theorem dL_addNote_4 : decode cL_addNote 4 = .ok (.iload_n 2, 1) := by decide +kernel
theorem dL_addNote_5 : decode cL_addNote 5 = .ok (.invokevirtual 15, 3) := by decide +kernel
theorem dL_addNote_8 : decode cL_addNote 8 = .ok (.i2l, 1) := by decide +kernel
theorem dL_addNote_9 : decode cL_addNote 9 = .ok (.lastore, 1) := by decide +kernel
theorem dL_addNote_10 : decode cL_addNote 10 = .ok (.goto 15, 3) := by decide +kernel
theorem dL_addNote_13 : decode cL_addNote 13 = .ok (.astore 4, 2) := by decide +kernel
theorem dL_addNote_15 : decode cL_addNote 15 = .ok (.iconst 1, 1) := by decide +kernel
theorem dL_addNote_16 : decode cL_addNote 16 = .ok (.ireturn, 1) := by decide +kernel
theorem dL_addNote_17 : decode cL_addNote 17 = .ok (.astore 4, 2) := by decide +kernel
theorem dL_addNote_19 : decode cL_addNote 19 = .ok (.iconst 2, 1) := by decide +kernel
theorem dL_addNote_20 : decode cL_addNote 20 = .ok (.ireturn, 1) := by decide +kernel
theorem dL_addNote_21 : decode cL_addNote 21 = .ok (.astore 4, 2) := by decide +kernel
theorem dL_addNote_23 : decode cL_addNote 23 = .ok (.iconst 3, 1) := by decide +kernel
theorem dL_addNote_24 : decode cL_addNote 24 = .ok (.ireturn, 1) := by decide +kernel
theorem dL_addNote_25 : decode cL_addNote 25 = .ok (.iconst 0, 1) := by decide +kernel
theorem dL_addNote_26 : decode cL_addNote 26 = .ok (.ireturn, 1) := by decide +kernel
theorem dL_transpose_0 : decode cL_transpose 0 = .ok (.aload_n 0, 1) := by decide +kernel
theorem dL_transpose_1 : decode cL_transpose 1 = .ok (.iload_n 1, 1) := by decide +kernel
theorem dL_transpose_2 : decode cL_transpose 2 = .ok (.iload_n 2, 1) := by decide +kernel
theorem dL_transpose_3 : decode cL_transpose 3 = .ok (.invokevirtual 23, 3) := by decide +kernel
theorem dL_transpose_6 : decode cL_transpose 6 = .ok (.goto 12, 3) := by decide +kernel
theorem dL_transpose_9 : decode cL_transpose 9 = .ok (.astore_n 3, 1) := by decide +kernel
theorem dL_transpose_10 : decode cL_transpose 10 = .ok (.iconst 1, 1) := by decide +kernel
theorem dL_transpose_11 : decode cL_transpose 11 = .ok (.ireturn, 1) := by decide +kernel
theorem dL_transpose_12 : decode cL_transpose 12 = .ok (.astore_n 3, 1) := by decide +kernel
theorem dL_transpose_13 : decode cL_transpose 13 = .ok (.iconst 2, 1) := by decide +kernel
theorem dL_transpose_14 : decode cL_transpose 14 = .ok (.ireturn, 1) := by decide +kernel
theorem dL_transpose_15 : decode cL_transpose 15 = .ok (.astore_n 3, 1) := by decide +kernel
theorem dL_transpose_16 : decode cL_transpose 16 = .ok (.iconst 3, 1) := by decide +kernel
theorem dL_transpose_17 : decode cL_transpose 17 = .ok (.ireturn, 1) := by decide +kernel
theorem dL_transpose_18 : decode cL_transpose 18 = .ok (.iconst 0, 1) := by decide +kernel
theorem dL_transpose_19 : decode cL_transpose 19 = .ok (.ireturn, 1) := by decide +kernel
theorem dL_pitch_0 : decode cL_pitch 0 = .ok (.aload_n 3, 1) := by decide +kernel
theorem dL_pitch_1 : decode cL_pitch 1 = .ok (.iconst 0, 1) := by decide +kernel
theorem dL_pitch_2 : decode cL_pitch 2 = .ok (.aload_n 0, 1) := by decide +kernel
theorem dL_pitch_3 : decode cL_pitch 3 = .ok (.iload_n 1, 1) := by decide +kernel
theorem dL_pitch_4 : decode cL_pitch 4 = .ok (.iload_n 2, 1) := by decide +kernel
theorem dL_pitch_5 : decode cL_pitch 5 = .ok (.invokevirtual 27, 3) := by decide +kernel
theorem dL_pitch_8 : decode cL_pitch 8 = .ok (.i2l, 1) := by decide +kernel
theorem dL_pitch_9 : decode cL_pitch 9 = .ok (.lastore, 1) := by decide +kernel
theorem dL_pitch_10 : decode cL_pitch 10 = .ok (.goto 7, 3) := by decide +kernel
theorem dL_pitch_13 : decode cL_pitch 13 = .ok (.astore 4, 2) := by decide +kernel
theorem dL_pitch_15 : decode cL_pitch 15 = .ok (.iconst 1, 1) := by decide +kernel
theorem dL_pitch_16 : decode cL_pitch 16 = .ok (.ireturn, 1) := by decide +kernel
theorem dL_pitch_17 : decode cL_pitch 17 = .ok (.iconst 0, 1) := by decide +kernel
theorem dL_pitch_18 : decode cL_pitch 18 = .ok (.ireturn, 1) := by decide +kernel
theorem dL_tune_0 : decode cL_tune 0 = .ok (.aload 4, 2) := by decide +kernel
theorem dL_tune_2 : decode cL_tune 2 = .ok (.iconst 0, 1) := by decide +kernel
theorem dL_tune_3 : decode cL_tune 3 = .ok (.aload_n 0, 1) := by decide +kernel
theorem dL_tune_4 : decode cL_tune 4 = .ok (.iload_n 1, 1) := by decide +kernel
theorem dL_tune_5 : decode cL_tune 5 = .ok (.iload_n 2, 1) := by decide +kernel
theorem dL_tune_6 : decode cL_tune 6 = .ok (.iload_n 3, 1) := by decide +kernel
theorem dL_tune_7 : decode cL_tune 7 = .ok (.invokevirtual 30, 3) := by decide +kernel
theorem dL_tune_10 : decode cL_tune 10 = .ok (.i2l, 1) := by decide +kernel
theorem dL_tune_11 : decode cL_tune 11 = .ok (.lastore, 1) := by decide +kernel
theorem dL_tune_12 : decode cL_tune 12 = .ok (.goto 11, 3) := by decide +kernel
theorem dL_tune_15 : decode cL_tune 15 = .ok (.astore 5, 2) := by decide +kernel
theorem dL_tune_17 : decode cL_tune 17 = .ok (.iconst 1, 1) := by decide +kernel
theorem dL_tune_18 : decode cL_tune 18 = .ok (.ireturn, 1) := by decide +kernel
theorem dL_tune_19 : decode cL_tune 19 = .ok (.astore 5, 2) := by decide +kernel
theorem dL_tune_21 : decode cL_tune 21 = .ok (.iconst 2, 1) := by decide +kernel
theorem dL_tune_22 : decode cL_tune 22 = .ok (.ireturn, 1) := by decide +kernel
theorem dL_tune_23 : decode cL_tune 23 = .ok (.iconst 0, 1) := by decide +kernel
theorem dL_tune_24 : decode cL_tune 24 = .ok (.ireturn, 1) := by decide +kernel
theorem dL_owner_0 : decode cL_owner 0 = .ok (.aload_n 2, 1) := by decide +kernel
theorem dL_owner_1 : decode cL_owner 1 = .ok (.iconst 0, 1) := by decide +kernel
theorem dL_owner_2 : decode cL_owner 2 = .ok (.aload_n 0, 1) := by decide +kernel
theorem dL_owner_3 : decode cL_owner 3 = .ok (.iload_n 1, 1) := by decide +kernel
theorem dL_owner_4 : decode cL_owner 4 = .ok (.invokevirtual 34, 3) := by decide +kernel
theorem dL_owner_7 : decode cL_owner 7 = .ok (.i2l, 1) := by decide +kernel
theorem dL_owner_8 : decode cL_owner 8 = .ok (.lastore, 1) := by decide +kernel
theorem dL_owner_9 : decode cL_owner 9 = .ok (.goto 6, 3) := by decide +kernel
theorem dL_owner_12 : decode cL_owner 12 = .ok (.astore_n 3, 1) := by decide +kernel
theorem dL_owner_13 : decode cL_owner 13 = .ok (.iconst 1, 1) := by decide +kernel
theorem dL_owner_14 : decode cL_owner 14 = .ok (.ireturn, 1) := by decide +kernel
theorem dL_owner_15 : decode cL_owner 15 = .ok (.iconst 0, 1) := by decide +kernel
theorem dL_owner_16 : decode cL_owner 16 = .ok (.ireturn, 1) := by decide +kernel
theorem dL_shifts_0 : decode cL_shifts 0 = .ok (.aload_n 3, 1) := by decide +kernel
theorem dL_shifts_1 : decode cL_shifts 1 = .ok (.iconst 0, 1) := by decide +kernel
theorem dL_shifts_2 : decode cL_shifts 2 = .ok (.aload_n 0, 1) := by decide +kernel
theorem dL_shifts_3 : decode cL_shifts 3 = .ok (.iload_n 1, 1) := by decide +kernel
theorem dL_shifts_4 : decode cL_shifts 4 = .ok (.iload_n 2, 1) := by decide +kernel
theorem dL_shifts_5 : decode cL_shifts 5 = .ok (.invokevirtual 38, 3) := by decide +kernel
theorem dL_shifts_8 : decode cL_shifts 8 = .ok (.i2l, 1) := by decide +kernel
theorem dL_shifts_9 : decode cL_shifts 9 = .ok (.lastore, 1) := by decide +kernel
theorem dL_shifts_10 : decode cL_shifts 10 = .ok (.goto 7, 3) := by decide +kernel
theorem dL_shifts_13 : decode cL_shifts 13 = .ok (.astore 4, 2) := by decide +kernel
theorem dL_shifts_15 : decode cL_shifts 15 = .ok (.iconst 1, 1) := by decide +kernel
theorem dL_shifts_16 : decode cL_shifts 16 = .ok (.ireturn, 1) := by decide +kernel
theorem dL_shifts_17 : decode cL_shifts 17 = .ok (.iconst 0, 1) := by decide +kernel
theorem dL_shifts_18 : decode cL_shifts 18 = .ok (.ireturn, 1) := by decide +kernel
theorem dL_shiftsByAll_0 : decode cL_shiftsByAll 0 = .ok (.aload_n 3, 1) := by decide +kernel
theorem dL_shiftsByAll_1 : decode cL_shiftsByAll 1 = .ok (.iconst 0, 1) := by decide +kernel
theorem dL_shiftsByAll_2 : decode cL_shiftsByAll 2 = .ok (.aload_n 0, 1) := by decide +kernel
theorem dL_shiftsByAll_3 : decode cL_shiftsByAll 3 = .ok (.iload_n 1, 1) := by decide +kernel
theorem dL_shiftsByAll_4 : decode cL_shiftsByAll 4 = .ok (.iload_n 2, 1) := by decide +kernel
theorem dL_shiftsByAll_5 : decode cL_shiftsByAll 5 = .ok (.invokevirtual 41, 3) := by decide +kernel
theorem dL_shiftsByAll_8 : decode cL_shiftsByAll 8 = .ok (.i2l, 1) := by decide +kernel
theorem dL_shiftsByAll_9 : decode cL_shiftsByAll 9 = .ok (.lastore, 1) := by decide +kernel
theorem dL_shiftsByAll_10 : decode cL_shiftsByAll 10 = .ok (.goto 11, 3) := by decide +kernel
theorem dL_shiftsByAll_13 : decode cL_shiftsByAll 13 = .ok (.astore 4, 2) := by decide +kernel
theorem dL_shiftsByAll_15 : decode cL_shiftsByAll 15 = .ok (.iconst 1, 1) := by decide +kernel
theorem dL_shiftsByAll_16 : decode cL_shiftsByAll 16 = .ok (.ireturn, 1) := by decide +kernel
theorem dL_shiftsByAll_17 : decode cL_shiftsByAll 17 = .ok (.astore 4, 2) := by decide +kernel
theorem dL_shiftsByAll_19 : decode cL_shiftsByAll 19 = .ok (.iconst 2, 1) := by decide +kernel
theorem dL_shiftsByAll_20 : decode cL_shiftsByAll 20 = .ok (.ireturn, 1) := by decide +kernel
theorem dL_shiftsByAll_21 : decode cL_shiftsByAll 21 = .ok (.iconst 0, 1) := by decide +kernel
theorem dL_shiftsByAll_22 : decode cL_shiftsByAll 22 = .ok (.ireturn, 1) := by decide +kernel
theorem dL_hardest_0 : decode cL_hardest 0 = .ok (.aload_n 3, 1) := by decide +kernel
theorem dL_hardest_1 : decode cL_hardest 1 = .ok (.iconst 0, 1) := by decide +kernel
theorem dL_hardest_2 : decode cL_hardest 2 = .ok (.aload_n 0, 1) := by decide +kernel
theorem dL_hardest_3 : decode cL_hardest 3 = .ok (.iload_n 1, 1) := by decide +kernel
theorem dL_hardest_4 : decode cL_hardest 4 = .ok (.iload_n 2, 1) := by decide +kernel
theorem dL_hardest_5 : decode cL_hardest 5 = .ok (.invokevirtual 44, 3) := by decide +kernel
theorem dL_hardest_8 : decode cL_hardest 8 = .ok (.i2l, 1) := by decide +kernel
theorem dL_hardest_9 : decode cL_hardest 9 = .ok (.lastore, 1) := by decide +kernel
theorem dL_hardest_10 : decode cL_hardest 10 = .ok (.goto 7, 3) := by decide +kernel
theorem dL_hardest_13 : decode cL_hardest 13 = .ok (.astore 4, 2) := by decide +kernel
theorem dL_hardest_15 : decode cL_hardest 15 = .ok (.iconst 1, 1) := by decide +kernel
theorem dL_hardest_16 : decode cL_hardest 16 = .ok (.ireturn, 1) := by decide +kernel
theorem dL_hardest_17 : decode cL_hardest 17 = .ok (.iconst 0, 1) := by decide +kernel
theorem dL_hardest_18 : decode cL_hardest 18 = .ok (.ireturn, 1) := by decide +kernel
theorem dL_position_0 : decode cL_position 0 = .ok (.aload 4, 2) := by decide +kernel
theorem dL_position_2 : decode cL_position 2 = .ok (.iconst 0, 1) := by decide +kernel
theorem dL_position_3 : decode cL_position 3 = .ok (.aload_n 0, 1) := by decide +kernel
theorem dL_position_4 : decode cL_position 4 = .ok (.iload_n 1, 1) := by decide +kernel
theorem dL_position_5 : decode cL_position 5 = .ok (.iload_n 2, 1) := by decide +kernel
theorem dL_position_6 : decode cL_position 6 = .ok (.iload_n 3, 1) := by decide +kernel
theorem dL_position_7 : decode cL_position 7 = .ok (.invokevirtual 47, 3) := by decide +kernel
theorem dL_position_10 : decode cL_position 10 = .ok (.i2l, 1) := by decide +kernel
theorem dL_position_11 : decode cL_position 11 = .ok (.lastore, 1) := by decide +kernel
theorem dL_position_12 : decode cL_position 12 = .ok (.goto 7, 3) := by decide +kernel
theorem dL_position_15 : decode cL_position 15 = .ok (.astore 5, 2) := by decide +kernel
theorem dL_position_17 : decode cL_position 17 = .ok (.iconst 1, 1) := by decide +kernel
theorem dL_position_18 : decode cL_position 18 = .ok (.ireturn, 1) := by decide +kernel
theorem dL_position_19 : decode cL_position 19 = .ok (.iconst 0, 1) := by decide +kernel
theorem dL_position_20 : decode cL_position 20 = .ok (.ireturn, 1) := by decide +kernel
theorem dL_string_0 : decode cL_string 0 = .ok (.aload 4, 2) := by decide +kernel
theorem dL_string_2 : decode cL_string 2 = .ok (.iconst 0, 1) := by decide +kernel
theorem dL_string_3 : decode cL_string 3 = .ok (.aload_n 0, 1) := by decide +kernel
theorem dL_string_4 : decode cL_string 4 = .ok (.iload_n 1, 1) := by decide +kernel
theorem dL_string_5 : decode cL_string 5 = .ok (.iload_n 2, 1) := by decide +kernel
theorem dL_string_6 : decode cL_string 6 = .ok (.iload_n 3, 1) := by decide +kernel
theorem dL_string_7 : decode cL_string 7 = .ok (.invokevirtual 50, 3) := by decide +kernel
theorem dL_string_10 : decode cL_string 10 = .ok (.i2l, 1) := by decide +kernel
theorem dL_string_11 : decode cL_string 11 = .ok (.lastore, 1) := by decide +kernel
theorem dL_string_12 : decode cL_string 12 = .ok (.goto 7, 3) := by decide +kernel
theorem dL_string_15 : decode cL_string 15 = .ok (.astore 5, 2) := by decide +kernel
theorem dL_string_17 : decode cL_string 17 = .ok (.iconst 1, 1) := by decide +kernel
theorem dL_string_18 : decode cL_string 18 = .ok (.ireturn, 1) := by decide +kernel
theorem dL_string_19 : decode cL_string 19 = .ok (.iconst 0, 1) := by decide +kernel
theorem dL_string_20 : decode cL_string 20 = .ok (.ireturn, 1) := by decide +kernel
theorem dL_learn_0 : decode cL_learn 0 = .ok (.aload 4, 2) := by decide +kernel
theorem dL_learn_2 : decode cL_learn 2 = .ok (.iconst 0, 1) := by decide +kernel
theorem dL_learn_3 : decode cL_learn 3 = .ok (.aload_n 0, 1) := by decide +kernel
theorem dL_learn_4 : decode cL_learn 4 = .ok (.iload_n 1, 1) := by decide +kernel
theorem dL_learn_5 : decode cL_learn 5 = .ok (.iload_n 2, 1) := by decide +kernel
theorem dL_learn_6 : decode cL_learn 6 = .ok (.iload_n 3, 1) := by decide +kernel
theorem dL_learn_7 : decode cL_learn 7 = .ok (.invokevirtual 53, 3) := by decide +kernel
theorem dL_learn_10 : decode cL_learn 10 = .ok (.i2l, 1) := by decide +kernel
theorem dL_learn_11 : decode cL_learn 11 = .ok (.lastore, 1) := by decide +kernel
theorem dL_learn_12 : decode cL_learn 12 = .ok (.goto 15, 3) := by decide +kernel
theorem dL_learn_15 : decode cL_learn 15 = .ok (.astore 5, 2) := by decide +kernel
theorem dL_learn_17 : decode cL_learn 17 = .ok (.iconst 1, 1) := by decide +kernel
theorem dL_learn_18 : decode cL_learn 18 = .ok (.ireturn, 1) := by decide +kernel
theorem dL_learn_19 : decode cL_learn 19 = .ok (.astore 5, 2) := by decide +kernel
theorem dL_learn_21 : decode cL_learn 21 = .ok (.iconst 2, 1) := by decide +kernel
theorem dL_learn_22 : decode cL_learn 22 = .ok (.ireturn, 1) := by decide +kernel
theorem dL_learn_23 : decode cL_learn 23 = .ok (.astore 5, 2) := by decide +kernel
theorem dL_learn_25 : decode cL_learn 25 = .ok (.iconst 3, 1) := by decide +kernel
theorem dL_learn_26 : decode cL_learn 26 = .ok (.ireturn, 1) := by decide +kernel
theorem dL_learn_27 : decode cL_learn 27 = .ok (.iconst 0, 1) := by decide +kernel
theorem dL_learn_28 : decode cL_learn 28 = .ok (.ireturn, 1) := by decide +kernel
theorem dL_level_0 : decode cL_level 0 = .ok (.aload_n 2, 1) := by decide +kernel
theorem dL_level_1 : decode cL_level 1 = .ok (.iconst 0, 1) := by decide +kernel
theorem dL_level_2 : decode cL_level 2 = .ok (.aload_n 0, 1) := by decide +kernel
theorem dL_level_3 : decode cL_level 3 = .ok (.iload_n 1, 1) := by decide +kernel
theorem dL_level_4 : decode cL_level 4 = .ok (.invokevirtual 56, 3) := by decide +kernel
theorem dL_level_7 : decode cL_level 7 = .ok (.i2l, 1) := by decide +kernel
theorem dL_level_8 : decode cL_level 8 = .ok (.lastore, 1) := by decide +kernel
theorem dL_level_9 : decode cL_level 9 = .ok (.goto 6, 3) := by decide +kernel
theorem dL_level_12 : decode cL_level 12 = .ok (.astore_n 3, 1) := by decide +kernel
theorem dL_level_13 : decode cL_level 13 = .ok (.iconst 1, 1) := by decide +kernel
theorem dL_level_14 : decode cL_level 14 = .ok (.ireturn, 1) := by decide +kernel
theorem dL_level_15 : decode cL_level 15 = .ok (.iconst 0, 1) := by decide +kernel
theorem dL_level_16 : decode cL_level 16 = .ok (.ireturn, 1) := by decide +kernel
theorem dL_known_0 : decode cL_known 0 = .ok (.aload_n 2, 1) := by decide +kernel
theorem dL_known_1 : decode cL_known 1 = .ok (.iconst 0, 1) := by decide +kernel
theorem dL_known_2 : decode cL_known 2 = .ok (.aload_n 0, 1) := by decide +kernel
theorem dL_known_3 : decode cL_known 3 = .ok (.iload_n 1, 1) := by decide +kernel
theorem dL_known_4 : decode cL_known 4 = .ok (.invokevirtual 59, 3) := by decide +kernel
theorem dL_known_7 : decode cL_known 7 = .ok (.i2l, 1) := by decide +kernel
theorem dL_known_8 : decode cL_known 8 = .ok (.lastore, 1) := by decide +kernel
theorem dL_known_9 : decode cL_known 9 = .ok (.goto 6, 3) := by decide +kernel
theorem dL_known_12 : decode cL_known 12 = .ok (.astore_n 3, 1) := by decide +kernel
theorem dL_known_13 : decode cL_known 13 = .ok (.iconst 1, 1) := by decide +kernel
theorem dL_known_14 : decode cL_known 14 = .ok (.ireturn, 1) := by decide +kernel
theorem dL_known_15 : decode cL_known 15 = .ok (.iconst 0, 1) := by decide +kernel
theorem dL_known_16 : decode cL_known 16 = .ok (.ireturn, 1) := by decide +kernel
theorem dL_next_0 : decode cL_next 0 = .ok (.aload_n 2, 1) := by decide +kernel
theorem dL_next_1 : decode cL_next 1 = .ok (.iconst 0, 1) := by decide +kernel
theorem dL_next_2 : decode cL_next 2 = .ok (.aload_n 0, 1) := by decide +kernel
theorem dL_next_3 : decode cL_next 3 = .ok (.iload_n 1, 1) := by decide +kernel
theorem dL_next_4 : decode cL_next 4 = .ok (.invokevirtual 62, 3) := by decide +kernel
theorem dL_next_7 : decode cL_next 7 = .ok (.i2l, 1) := by decide +kernel
theorem dL_next_8 : decode cL_next 8 = .ok (.lastore, 1) := by decide +kernel
theorem dL_next_9 : decode cL_next 9 = .ok (.goto 6, 3) := by decide +kernel
theorem dL_next_12 : decode cL_next 12 = .ok (.astore_n 3, 1) := by decide +kernel
theorem dL_next_13 : decode cL_next 13 = .ok (.iconst 1, 1) := by decide +kernel
theorem dL_next_14 : decode cL_next 14 = .ok (.ireturn, 1) := by decide +kernel
theorem dL_next_15 : decode cL_next 15 = .ok (.iconst 0, 1) := by decide +kernel
theorem dL_next_16 : decode cL_next 16 = .ok (.ireturn, 1) := by decide +kernel
theorem dL_addWood_0 : decode cL_addWood 0 = .ok (.aload_n 3, 1) := by decide +kernel
theorem dL_addWood_1 : decode cL_addWood 1 = .ok (.iconst 0, 1) := by decide +kernel
theorem dL_addWood_2 : decode cL_addWood 2 = .ok (.aload_n 0, 1) := by decide +kernel
theorem dL_addWood_3 : decode cL_addWood 3 = .ok (.iload_n 1, 1) := by decide +kernel
theorem dL_addWood_4 : decode cL_addWood 4 = .ok (.iload_n 2, 1) := by decide +kernel
theorem dL_addWood_5 : decode cL_addWood 5 = .ok (.invokevirtual 65, 3) := by decide +kernel
theorem dL_addWood_8 : decode cL_addWood 8 = .ok (.i2l, 1) := by decide +kernel
theorem dL_addWood_9 : decode cL_addWood 9 = .ok (.lastore, 1) := by decide +kernel
theorem dL_addWood_10 : decode cL_addWood 10 = .ok (.goto 7, 3) := by decide +kernel
theorem dL_addWood_13 : decode cL_addWood 13 = .ok (.astore 4, 2) := by decide +kernel
theorem dL_addWood_15 : decode cL_addWood 15 = .ok (.iconst 1, 1) := by decide +kernel
theorem dL_addWood_16 : decode cL_addWood 16 = .ok (.ireturn, 1) := by decide +kernel
theorem dL_addWood_17 : decode cL_addWood 17 = .ok (.iconst 0, 1) := by decide +kernel
theorem dL_addWood_18 : decode cL_addWood 18 = .ok (.ireturn, 1) := by decide +kernel
theorem dL_order_0 : decode cL_order 0 = .ok (.aload 4, 2) := by decide +kernel
theorem dL_order_2 : decode cL_order 2 = .ok (.iconst 0, 1) := by decide +kernel
theorem dL_order_3 : decode cL_order 3 = .ok (.aload_n 0, 1) := by decide +kernel
theorem dL_order_4 : decode cL_order 4 = .ok (.iload_n 1, 1) := by decide +kernel
theorem dL_order_5 : decode cL_order 5 = .ok (.iload_n 2, 1) := by decide +kernel
theorem dL_order_6 : decode cL_order 6 = .ok (.iload_n 3, 1) := by decide +kernel
theorem dL_order_7 : decode cL_order 7 = .ok (.invokevirtual 68, 3) := by decide +kernel
theorem dL_order_10 : decode cL_order 10 = .ok (.i2l, 1) := by decide +kernel
theorem dL_order_11 : decode cL_order 11 = .ok (.lastore, 1) := by decide +kernel
theorem dL_order_12 : decode cL_order 12 = .ok (.goto 11, 3) := by decide +kernel
theorem dL_order_15 : decode cL_order 15 = .ok (.astore 5, 2) := by decide +kernel
theorem dL_order_17 : decode cL_order 17 = .ok (.iconst 1, 1) := by decide +kernel
theorem dL_order_18 : decode cL_order 18 = .ok (.ireturn, 1) := by decide +kernel
theorem dL_order_19 : decode cL_order 19 = .ok (.astore 5, 2) := by decide +kernel
theorem dL_order_21 : decode cL_order 21 = .ok (.iconst 2, 1) := by decide +kernel
theorem dL_order_22 : decode cL_order 22 = .ok (.ireturn, 1) := by decide +kernel
theorem dL_order_23 : decode cL_order 23 = .ok (.iconst 0, 1) := by decide +kernel
theorem dL_order_24 : decode cL_order 24 = .ok (.ireturn, 1) := by decide +kernel
theorem dL_ready_0 : decode cL_ready 0 = .ok (.aload_n 2, 1) := by decide +kernel
theorem dL_ready_1 : decode cL_ready 1 = .ok (.iconst 0, 1) := by decide +kernel
theorem dL_ready_2 : decode cL_ready 2 = .ok (.aload_n 0, 1) := by decide +kernel
theorem dL_ready_3 : decode cL_ready 3 = .ok (.iload_n 1, 1) := by decide +kernel
theorem dL_ready_4 : decode cL_ready 4 = .ok (.invokevirtual 71, 3) := by decide +kernel
theorem dL_ready_7 : decode cL_ready 7 = .ok (.i2l, 1) := by decide +kernel
theorem dL_ready_8 : decode cL_ready 8 = .ok (.lastore, 1) := by decide +kernel
theorem dL_ready_9 : decode cL_ready 9 = .ok (.goto 6, 3) := by decide +kernel
theorem dL_ready_12 : decode cL_ready 12 = .ok (.astore_n 3, 1) := by decide +kernel
theorem dL_ready_13 : decode cL_ready 13 = .ok (.iconst 1, 1) := by decide +kernel
theorem dL_ready_14 : decode cL_ready 14 = .ok (.ireturn, 1) := by decide +kernel
theorem dL_ready_15 : decode cL_ready 15 = .ok (.iconst 0, 1) := by decide +kernel
theorem dL_ready_16 : decode cL_ready 16 = .ok (.ireturn, 1) := by decide +kernel
theorem dL_fetch_0 : decode cL_fetch 0 = .ok (.aload 6, 2) := by decide +kernel
theorem dL_fetch_2 : decode cL_fetch 2 = .ok (.iconst 0, 1) := by decide +kernel
theorem dL_fetch_3 : decode cL_fetch 3 = .ok (.aload_n 0, 1) := by decide +kernel
theorem dL_fetch_4 : decode cL_fetch 4 = .ok (.iload_n 1, 1) := by decide +kernel
theorem dL_fetch_5 : decode cL_fetch 5 = .ok (.iload_n 2, 1) := by decide +kernel
theorem dL_fetch_6 : decode cL_fetch 6 = .ok (.iload_n 3, 1) := by decide +kernel
theorem dL_fetch_7 : decode cL_fetch 7 = .ok (.iload 4, 2) := by decide +kernel
theorem dL_fetch_9 : decode cL_fetch 9 = .ok (.iload 5, 2) := by decide +kernel
theorem dL_fetch_11 : decode cL_fetch 11 = .ok (.invokevirtual 74, 3) := by decide +kernel
theorem dL_fetch_14 : decode cL_fetch 14 = .ok (.i2l, 1) := by decide +kernel
theorem dL_fetch_15 : decode cL_fetch 15 = .ok (.lastore, 1) := by decide +kernel
theorem dL_fetch_16 : decode cL_fetch 16 = .ok (.goto 15, 3) := by decide +kernel
theorem dL_fetch_19 : decode cL_fetch 19 = .ok (.astore 7, 2) := by decide +kernel
theorem dL_fetch_21 : decode cL_fetch 21 = .ok (.iconst 1, 1) := by decide +kernel
theorem dL_fetch_22 : decode cL_fetch 22 = .ok (.ireturn, 1) := by decide +kernel
theorem dL_fetch_23 : decode cL_fetch 23 = .ok (.astore 7, 2) := by decide +kernel
theorem dL_fetch_25 : decode cL_fetch 25 = .ok (.iconst 2, 1) := by decide +kernel
theorem dL_fetch_26 : decode cL_fetch 26 = .ok (.ireturn, 1) := by decide +kernel
theorem dL_fetch_27 : decode cL_fetch 27 = .ok (.astore 7, 2) := by decide +kernel
theorem dL_fetch_29 : decode cL_fetch 29 = .ok (.iconst 3, 1) := by decide +kernel
theorem dL_fetch_30 : decode cL_fetch 30 = .ok (.ireturn, 1) := by decide +kernel
theorem dL_fetch_31 : decode cL_fetch 31 = .ok (.iconst 0, 1) := by decide +kernel
theorem dL_fetch_32 : decode cL_fetch 32 = .ok (.ireturn, 1) := by decide +kernel
theorem dL_pass_0 : decode cL_pass 0 = .ok (.aload_n 2, 1) := by decide +kernel
theorem dL_pass_1 : decode cL_pass 1 = .ok (.iconst 0, 1) := by decide +kernel
theorem dL_pass_2 : decode cL_pass 2 = .ok (.aload_n 0, 1) := by decide +kernel
theorem dL_pass_3 : decode cL_pass 3 = .ok (.iload_n 1, 1) := by decide +kernel
theorem dL_pass_4 : decode cL_pass 4 = .ok (.invokevirtual 78, 3) := by decide +kernel
theorem dL_pass_7 : decode cL_pass 7 = .ok (.i2l, 1) := by decide +kernel
theorem dL_pass_8 : decode cL_pass 8 = .ok (.lastore, 1) := by decide +kernel
theorem dL_pass_9 : decode cL_pass 9 = .ok (.goto 9, 3) := by decide +kernel
theorem dL_pass_12 : decode cL_pass 12 = .ok (.astore_n 3, 1) := by decide +kernel
theorem dL_pass_13 : decode cL_pass 13 = .ok (.iconst 1, 1) := by decide +kernel
theorem dL_pass_14 : decode cL_pass 14 = .ok (.ireturn, 1) := by decide +kernel
theorem dL_pass_15 : decode cL_pass 15 = .ok (.astore_n 3, 1) := by decide +kernel
theorem dL_pass_16 : decode cL_pass 16 = .ok (.iconst 2, 1) := by decide +kernel
theorem dL_pass_17 : decode cL_pass 17 = .ok (.ireturn, 1) := by decide +kernel
theorem dL_pass_18 : decode cL_pass 18 = .ok (.iconst 0, 1) := by decide +kernel
theorem dL_pass_19 : decode cL_pass 19 = .ok (.ireturn, 1) := by decide +kernel

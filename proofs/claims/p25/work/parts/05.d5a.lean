theorem dX5_init_0 : decode cX5_init 0 = .ok (.aload_n 0, 1) := by decide +kernel
theorem dX5_init_1 : decode cX5_init 1 = .ok (.invokespecial 3, 3) := by decide +kernel
theorem dX5_init_4 : decode cX5_init 4 = .ok (.aload_n 0, 1) := by decide +kernel
theorem dX5_init_5 : decode cX5_init 5 = .ok (.bipush 8, 2) := by decide +kernel
theorem dX5_init_7 : decode cX5_init 7 = .ok (.anewarray 9, 3) := by decide +kernel
theorem dX5_init_10 : decode cX5_init 10 = .ok (.putfield 11, 3) := by decide +kernel
theorem dX5_init_13 : decode cX5_init 13 = .ok (.iconst 0, 1) := by decide +kernel
theorem dX5_init_14 : decode cX5_init 14 = .ok (.istore_n 1, 1) := by decide +kernel
theorem dX5_init_15 : decode cX5_init 15 = .ok (.iload_n 1, 1) := by decide +kernel
theorem dX5_init_16 : decode cX5_init 16 = .ok (.bipush 8, 2) := by decide +kernel
theorem dX5_init_18 : decode cX5_init 18 = .ok (.if_icmp .ge 22, 3) := by decide +kernel
theorem dX5_init_21 : decode cX5_init 21 = .ok (.aload_n 0, 1) := by decide +kernel
theorem dX5_init_22 : decode cX5_init 22 = .ok (.getfield 11, 3) := by decide +kernel
theorem dX5_init_25 : decode cX5_init 25 = .ok (.iload_n 1, 1) := by decide +kernel
theorem dX5_init_26 : decode cX5_init 26 = .ok (.new 9, 3) := by decide +kernel
theorem dX5_init_29 : decode cX5_init 29 = .ok (.dup, 1) := by decide +kernel
theorem dX5_init_30 : decode cX5_init 30 = .ok (.invokespecial 15, 3) := by decide +kernel
theorem dX5_init_33 : decode cX5_init 33 = .ok (.aastore, 1) := by decide +kernel
theorem dX5_init_34 : decode cX5_init 34 = .ok (.iinc 1 1, 3) := by decide +kernel
theorem dX5_init_37 : decode cX5_init 37 = .ok (.goto (-22), 3) := by decide +kernel
theorem dX5_init_40 : decode cX5_init 40 = .ok (.aload_n 0, 1) := by decide +kernel
theorem dX5_init_41 : decode cX5_init 41 = .ok (.bipush 8, 2) := by decide +kernel
theorem dX5_init_43 : decode cX5_init 43 = .ok (.anewarray 16, 3) := by decide +kernel
theorem dX5_init_46 : decode cX5_init 46 = .ok (.putfield 18, 3) := by decide +kernel
theorem dX5_init_49 : decode cX5_init 49 = .ok (.iconst 0, 1) := by decide +kernel
theorem dX5_init_50 : decode cX5_init 50 = .ok (.istore_n 1, 1) := by decide +kernel
theorem dX5_init_51 : decode cX5_init 51 = .ok (.iload_n 1, 1) := by decide +kernel
theorem dX5_init_52 : decode cX5_init 52 = .ok (.bipush 8, 2) := by decide +kernel
theorem dX5_init_54 : decode cX5_init 54 = .ok (.if_icmp .ge 22, 3) := by decide +kernel
theorem dX5_init_57 : decode cX5_init 57 = .ok (.aload_n 0, 1) := by decide +kernel
theorem dX5_init_58 : decode cX5_init 58 = .ok (.getfield 18, 3) := by decide +kernel
theorem dX5_init_61 : decode cX5_init 61 = .ok (.iload_n 1, 1) := by decide +kernel
theorem dX5_init_62 : decode cX5_init 62 = .ok (.new 16, 3) := by decide +kernel
theorem dX5_init_65 : decode cX5_init 65 = .ok (.dup, 1) := by decide +kernel
theorem dX5_init_66 : decode cX5_init 66 = .ok (.invokespecial 22, 3) := by decide +kernel
theorem dX5_init_69 : decode cX5_init 69 = .ok (.aastore, 1) := by decide +kernel
theorem dX5_init_70 : decode cX5_init 70 = .ok (.iinc 1 1, 3) := by decide +kernel
theorem dX5_init_73 : decode cX5_init 73 = .ok (.goto (-22), 3) := by decide +kernel
theorem dX5_init_76 : decode cX5_init 76 = .ok (.aload_n 0, 1) := by decide +kernel
theorem dX5_init_77 : decode cX5_init 77 = .ok (.iconst 5, 1) := by decide +kernel
theorem dX5_init_78 : decode cX5_init 78 = .ok (.anewarray 23, 3) := by decide +kernel
theorem dX5_init_81 : decode cX5_init 81 = .ok (.putfield 25, 3) := by decide +kernel
theorem dX5_init_84 : decode cX5_init 84 = .ok (.iconst 0, 1) := by decide +kernel
theorem dX5_init_85 : decode cX5_init 85 = .ok (.istore_n 1, 1) := by decide +kernel
theorem dX5_init_86 : decode cX5_init 86 = .ok (.iload_n 1, 1) := by decide +kernel
theorem dX5_init_87 : decode cX5_init 87 = .ok (.iconst 5, 1) := by decide +kernel
theorem dX5_init_88 : decode cX5_init 88 = .ok (.if_icmp .ge 22, 3) := by decide +kernel
theorem dX5_init_91 : decode cX5_init 91 = .ok (.aload_n 0, 1) := by decide +kernel
theorem dX5_init_92 : decode cX5_init 92 = .ok (.getfield 25, 3) := by decide +kernel
theorem dX5_init_95 : decode cX5_init 95 = .ok (.iload_n 1, 1) := by decide +kernel
theorem dX5_init_96 : decode cX5_init 96 = .ok (.new 23, 3) := by decide +kernel
theorem dX5_init_99 : decode cX5_init 99 = .ok (.dup, 1) := by decide +kernel
theorem dX5_init_100 : decode cX5_init 100 = .ok (.invokespecial 29, 3) := by decide +kernel
theorem dX5_init_103 : decode cX5_init 103 = .ok (.aastore, 1) := by decide +kernel
theorem dX5_init_104 : decode cX5_init 104 = .ok (.iinc 1 1, 3) := by decide +kernel
theorem dX5_init_107 : decode cX5_init 107 = .ok (.goto (-21), 3) := by decide +kernel
theorem dX5_init_110 : decode cX5_init 110 = .ok (.aload_n 0, 1) := by decide +kernel
theorem dX5_init_111 : decode cX5_init 111 = .ok (.bipush 20, 2) := by decide +kernel
theorem dX5_init_113 : decode cX5_init 113 = .ok (.anewarray 30, 3) := by decide +kernel
theorem dX5_init_116 : decode cX5_init 116 = .ok (.putfield 32, 3) := by decide +kernel
theorem dX5_init_119 : decode cX5_init 119 = .ok (.iconst 0, 1) := by decide +kernel
theorem dX5_init_120 : decode cX5_init 120 = .ok (.istore_n 1, 1) := by decide +kernel
theorem dX5_init_121 : decode cX5_init 121 = .ok (.iload_n 1, 1) := by decide +kernel
theorem dX5_init_122 : decode cX5_init 122 = .ok (.bipush 20, 2) := by decide +kernel
theorem dX5_init_124 : decode cX5_init 124 = .ok (.if_icmp .ge 22, 3) := by decide +kernel
theorem dX5_init_127 : decode cX5_init 127 = .ok (.aload_n 0, 1) := by decide +kernel
theorem dX5_init_128 : decode cX5_init 128 = .ok (.getfield 32, 3) := by decide +kernel
theorem dX5_init_131 : decode cX5_init 131 = .ok (.iload_n 1, 1) := by decide +kernel
theorem dX5_init_132 : decode cX5_init 132 = .ok (.new 30, 3) := by decide +kernel
theorem dX5_init_135 : decode cX5_init 135 = .ok (.dup, 1) := by decide +kernel
theorem dX5_init_136 : decode cX5_init 136 = .ok (.invokespecial 36, 3) := by decide +kernel
theorem dX5_init_139 : decode cX5_init 139 = .ok (.aastore, 1) := by decide +kernel
theorem dX5_init_140 : decode cX5_init 140 = .ok (.iinc 1 1, 3) := by decide +kernel
theorem dX5_init_143 : decode cX5_init 143 = .ok (.goto (-22), 3) := by decide +kernel
theorem dX5_init_146 : decode cX5_init 146 = .ok (.aload_n 0, 1) := by decide +kernel
theorem dX5_init_147 : decode cX5_init 147 = .ok (.iconst 4, 1) := by decide +kernel
theorem dX5_init_148 : decode cX5_init 148 = .ok (.newarray .int, 2) := by decide +kernel
theorem dX5_init_150 : decode cX5_init 150 = .ok (.putfield 37, 3) := by decide +kernel
theorem dX5_init_153 : decode cX5_init 153 = .ok (.aload_n 0, 1) := by decide +kernel
theorem dX5_init_154 : decode cX5_init 154 = .ok (.new 41, 3) := by decide +kernel
theorem dX5_init_157 : decode cX5_init 157 = .ok (.dup, 1) := by decide +kernel
theorem dX5_init_158 : decode cX5_init 158 = .ok (.invokespecial 43, 3) := by decide +kernel
theorem dX5_init_161 : decode cX5_init 161 = .ok (.putfield 44, 3) := by decide +kernel
theorem dX5_init_164 : decode cX5_init 164 = .ok (.aload_n 0, 1) := by decide +kernel
theorem dX5_init_165 : decode cX5_init 165 = .ok (.iconst 0, 1) := by decide +kernel
theorem dX5_init_166 : decode cX5_init 166 = .ok (.putfield 48, 3) := by decide +kernel
theorem dX5_init_169 : decode cX5_init 169 = .ok (.aload_n 0, 1) := by decide +kernel
theorem dX5_init_170 : decode cX5_init 170 = .ok (.iconst 0, 1) := by decide +kernel
theorem dX5_init_171 : decode cX5_init 171 = .ok (.putfield 52, 3) := by decide +kernel
theorem dX5_init_174 : decode cX5_init 174 = .ok (.aload_n 0, 1) := by decide +kernel
theorem dX5_init_175 : decode cX5_init 175 = .ok (.iconst 0, 1) := by decide +kernel
theorem dX5_init_176 : decode cX5_init 176 = .ok (.putfield 55, 3) := by decide +kernel
theorem dX5_init_179 : decode cX5_init 179 = .ok (.aload_n 0, 1) := by decide +kernel
theorem dX5_init_180 : decode cX5_init 180 = .ok (.iconst 0, 1) := by decide +kernel
theorem dX5_init_181 : decode cX5_init 181 = .ok (.putfield 58, 3) := by decide +kernel
theorem dX5_init_184 : decode cX5_init 184 = .ok (.return_, 1) := by decide +kernel
theorem dX5_begin_0 : decode cX5_begin 0 = .ok (.aload_n 0, 1) := by decide +kernel
theorem dX5_begin_1 : decode cX5_begin 1 = .ok (.getfield 48, 3) := by decide +kernel
theorem dX5_begin_4 : decode cX5_begin 4 = .ok (.bipush 8, 2) := by decide +kernel
theorem dX5_begin_6 : decode cX5_begin 6 = .ok (.if_icmp .lt 13, 3) := by decide +kernel
theorem dX5_begin_9 : decode cX5_begin 9 = .ok (.new 61, 3) := by decide +kernel
theorem dX5_begin_12 : decode cX5_begin 12 = .ok (.dup, 1) := by decide +kernel
theorem dX5_begin_13 : decode cX5_begin 13 = .ok (.ldc 63, 2) := by decide +kernel
theorem dX5_begin_15 : decode cX5_begin 15 = .ok (.invokespecial 65, 3) := by decide +kernel
theorem dX5_begin_18 : decode cX5_begin 18 = .ok (.athrow, 1) := by decide +kernel
theorem dX5_begin_19 : decode cX5_begin 19 = .ok (.aload_n 0, 1) := by decide +kernel
theorem dX5_begin_20 : decode cX5_begin 20 = .ok (.getfield 48, 3) := by decide +kernel
theorem dX5_begin_23 : decode cX5_begin 23 = .ok (.istore_n 1, 1) := by decide +kernel
theorem dX5_begin_24 : decode cX5_begin 24 = .ok (.aload_n 0, 1) := by decide +kernel
theorem dX5_begin_25 : decode cX5_begin 25 = .ok (.dup, 1) := by decide +kernel
theorem dX5_begin_26 : decode cX5_begin 26 = .ok (.getfield 48, 3) := by decide +kernel
theorem dX5_begin_29 : decode cX5_begin 29 = .ok (.iconst 1, 1) := by decide +kernel
theorem dX5_begin_30 : decode cX5_begin 30 = .ok (.iadd, 1) := by decide +kernel
theorem dX5_begin_31 : decode cX5_begin 31 = .ok (.putfield 48, 3) := by decide +kernel
theorem dX5_begin_34 : decode cX5_begin 34 = .ok (.iload_n 1, 1) := by decide +kernel
theorem dX5_begin_35 : decode cX5_begin 35 = .ok (.ireturn, 1) := by decide +kernel
theorem dX5_addNote_0 : decode cX5_addNote 0 = .ok (.aload_n 0, 1) := by decide +kernel
theorem dX5_addNote_1 : decode cX5_addNote 1 = .ok (.iload_n 1, 1) := by decide +kernel
theorem dX5_addNote_2 : decode cX5_addNote 2 = .ok (.invokevirtual 68, 3) := by decide +kernel
theorem dX5_addNote_5 : decode cX5_addNote 5 = .ok (.iload_n 2, 1) := by decide +kernel
theorem dX5_addNote_6 : decode cX5_addNote 6 = .ok (.iconst 0, 1) := by decide +kernel
theorem dX5_addNote_7 : decode cX5_addNote 7 = .ok (.bipush 80, 2) := by decide +kernel
theorem dX5_addNote_9 : decode cX5_addNote 9 = .ok (.invokestatic 72, 3) := by decide +kernel
theorem dX5_addNote_12 : decode cX5_addNote 12 = .ok (.aload_n 0, 1) := by decide +kernel
theorem dX5_addNote_13 : decode cX5_addNote 13 = .ok (.getfield 11, 3) := by decide +kernel
theorem dX5_addNote_16 : decode cX5_addNote 16 = .ok (.iload_n 1, 1) := by decide +kernel
theorem dX5_addNote_17 : decode cX5_addNote 17 = .ok (.aaload, 1) := by decide +kernel
theorem dX5_addNote_18 : decode cX5_addNote 18 = .ok (.astore_n 3, 1) := by decide +kernel
theorem dX5_addNote_19 : decode cX5_addNote 19 = .ok (.aload_n 3, 1) := by decide +kernel
theorem dX5_addNote_20 : decode cX5_addNote 20 = .ok (.invokevirtual 76, 3) := by decide +kernel
theorem dX5_addNote_23 : decode cX5_addNote 23 = .ok (.ifCond .eq 13, 3) := by decide +kernel
theorem dX5_addNote_26 : decode cX5_addNote 26 = .ok (.new 61, 3) := by decide +kernel
theorem dX5_addNote_29 : decode cX5_addNote 29 = .ok (.dup, 1) := by decide +kernel
theorem dX5_addNote_30 : decode cX5_addNote 30 = .ok (.ldc 80, 2) := by decide +kernel
theorem dX5_addNote_32 : decode cX5_addNote 32 = .ok (.invokespecial 65, 3) := by decide +kernel
theorem dX5_addNote_35 : decode cX5_addNote 35 = .ok (.athrow, 1) := by decide +kernel
theorem dX5_addNote_36 : decode cX5_addNote 36 = .ok (.aload_n 3, 1) := by decide +kernel
theorem dX5_addNote_37 : decode cX5_addNote 37 = .ok (.iload_n 2, 1) := by decide +kernel
theorem dX5_addNote_38 : decode cX5_addNote 38 = .ok (.invokevirtual 82, 3) := by decide +kernel
theorem dX5_addNote_41 : decode cX5_addNote 41 = .ok (.aload_n 3, 1) := by decide +kernel
theorem dX5_addNote_42 : decode cX5_addNote 42 = .ok (.getfield 85, 3) := by decide +kernel
theorem dX5_addNote_45 : decode cX5_addNote 45 = .ok (.ireturn, 1) := by decide +kernel
theorem dX5_transpose_0 : decode cX5_transpose 0 = .ok (.aload_n 0, 1) := by decide +kernel
theorem dX5_transpose_1 : decode cX5_transpose 1 = .ok (.iload_n 1, 1) := by decide +kernel
theorem dX5_transpose_2 : decode cX5_transpose 2 = .ok (.invokevirtual 68, 3) := by decide +kernel
theorem dX5_transpose_5 : decode cX5_transpose 5 = .ok (.iload_n 2, 1) := by decide +kernel
theorem dX5_transpose_6 : decode cX5_transpose 6 = .ok (.bipush (-40), 2) := by decide +kernel
theorem dX5_transpose_8 : decode cX5_transpose 8 = .ok (.bipush 40, 2) := by decide +kernel
theorem dX5_transpose_10 : decode cX5_transpose 10 = .ok (.invokestatic 72, 3) := by decide +kernel
theorem dX5_transpose_13 : decode cX5_transpose 13 = .ok (.aload_n 0, 1) := by decide +kernel
theorem dX5_transpose_14 : decode cX5_transpose 14 = .ok (.getfield 11, 3) := by decide +kernel
theorem dX5_transpose_17 : decode cX5_transpose 17 = .ok (.iload_n 1, 1) := by decide +kernel
theorem dX5_transpose_18 : decode cX5_transpose 18 = .ok (.aaload, 1) := by decide +kernel
theorem dX5_transpose_19 : decode cX5_transpose 19 = .ok (.astore_n 3, 1) := by decide +kernel
theorem dX5_transpose_20 : decode cX5_transpose 20 = .ok (.aload_n 3, 1) := by decide +kernel
theorem dX5_transpose_21 : decode cX5_transpose 21 = .ok (.iload_n 2, 1) := by decide +kernel
theorem dX5_transpose_22 : decode cX5_transpose 22 = .ok (.invokevirtual 88, 3) := by decide +kernel
theorem dX5_transpose_25 : decode cX5_transpose 25 = .ok (.ifCond .ne 13, 3) := by decide +kernel
theorem dX5_transpose_28 : decode cX5_transpose 28 = .ok (.new 61, 3) := by decide +kernel
theorem dX5_transpose_31 : decode cX5_transpose 31 = .ok (.dup, 1) := by decide +kernel
theorem dX5_transpose_32 : decode cX5_transpose 32 = .ok (.ldc 92, 2) := by decide +kernel
theorem dX5_transpose_34 : decode cX5_transpose 34 = .ok (.invokespecial 65, 3) := by decide +kernel
theorem dX5_transpose_37 : decode cX5_transpose 37 = .ok (.athrow, 1) := by decide +kernel
theorem dX5_transpose_38 : decode cX5_transpose 38 = .ok (.aload_n 3, 1) := by decide +kernel
theorem dX5_transpose_39 : decode cX5_transpose 39 = .ok (.iload_n 2, 1) := by decide +kernel
theorem dX5_transpose_40 : decode cX5_transpose 40 = .ok (.invokevirtual 94, 3) := by decide +kernel
theorem dX5_transpose_43 : decode cX5_transpose 43 = .ok (.return_, 1) := by decide +kernel
theorem dX5_pitch_0 : decode cX5_pitch 0 = .ok (.aload_n 0, 1) := by decide +kernel
theorem dX5_pitch_1 : decode cX5_pitch 1 = .ok (.iload_n 1, 1) := by decide +kernel
theorem dX5_pitch_2 : decode cX5_pitch 2 = .ok (.iload_n 2, 1) := by decide +kernel
theorem dX5_pitch_3 : decode cX5_pitch 3 = .ok (.invokevirtual 97, 3) := by decide +kernel
theorem dX5_pitch_6 : decode cX5_pitch 6 = .ok (.aload_n 0, 1) := by decide +kernel
theorem dX5_pitch_7 : decode cX5_pitch 7 = .ok (.getfield 11, 3) := by decide +kernel
theorem dX5_pitch_10 : decode cX5_pitch 10 = .ok (.iload_n 1, 1) := by decide +kernel
theorem dX5_pitch_11 : decode cX5_pitch 11 = .ok (.aaload, 1) := by decide +kernel
theorem dX5_pitch_12 : decode cX5_pitch 12 = .ok (.getfield 101, 3) := by decide +kernel
theorem dX5_pitch_15 : decode cX5_pitch 15 = .ok (.iload_n 2, 1) := by decide +kernel
theorem dX5_pitch_16 : decode cX5_pitch 16 = .ok (.iaload, 1) := by decide +kernel
theorem dX5_pitch_17 : decode cX5_pitch 17 = .ok (.ireturn, 1) := by decide +kernel
theorem dX5_tune_0 : decode cX5_tune 0 = .ok (.aload_n 0, 1) := by decide +kernel
theorem dX5_tune_1 : decode cX5_tune 1 = .ok (.iload_n 1, 1) := by decide +kernel
theorem dX5_tune_2 : decode cX5_tune 2 = .ok (.invokevirtual 104, 3) := by decide +kernel
theorem dX5_tune_5 : decode cX5_tune 5 = .ok (.iload_n 2, 1) := by decide +kernel
theorem dX5_tune_6 : decode cX5_tune 6 = .ok (.iconst 0, 1) := by decide +kernel
theorem dX5_tune_7 : decode cX5_tune 7 = .ok (.iconst 3, 1) := by decide +kernel
theorem dX5_tune_8 : decode cX5_tune 8 = .ok (.invokestatic 72, 3) := by decide +kernel
theorem dX5_tune_11 : decode cX5_tune 11 = .ok (.iload_n 3, 1) := by decide +kernel
theorem dX5_tune_12 : decode cX5_tune 12 = .ok (.iconst 0, 1) := by decide +kernel
theorem dX5_tune_13 : decode cX5_tune 13 = .ok (.bipush 60, 2) := by decide +kernel
theorem dX5_tune_15 : decode cX5_tune 15 = .ok (.invokestatic 72, 3) := by decide +kernel
theorem dX5_tune_18 : decode cX5_tune 18 = .ok (.aload_n 0, 1) := by decide +kernel
theorem dX5_tune_19 : decode cX5_tune 19 = .ok (.getfield 18, 3) := by decide +kernel
theorem dX5_tune_22 : decode cX5_tune 22 = .ok (.iload_n 1, 1) := by decide +kernel
theorem dX5_tune_23 : decode cX5_tune 23 = .ok (.aaload, 1) := by decide +kernel
theorem dX5_tune_24 : decode cX5_tune 24 = .ok (.getfield 107, 3) := by decide +kernel
theorem dX5_tune_27 : decode cX5_tune 27 = .ok (.astore 4, 2) := by decide +kernel
theorem dX5_tune_29 : decode cX5_tune 29 = .ok (.aload 4, 2) := by decide +kernel
theorem dX5_tune_31 : decode cX5_tune 31 = .ok (.iload_n 2, 1) := by decide +kernel
theorem dX5_tune_32 : decode cX5_tune 32 = .ok (.iaload, 1) := by decide +kernel
theorem dX5_tune_33 : decode cX5_tune 33 = .ok (.istore 5, 2) := by decide +kernel
theorem dX5_tune_35 : decode cX5_tune 35 = .ok (.aload 4, 2) := by decide +kernel
theorem dX5_tune_37 : decode cX5_tune 37 = .ok (.iload_n 2, 1) := by decide +kernel
theorem dX5_tune_38 : decode cX5_tune 38 = .ok (.iload_n 3, 1) := by decide +kernel
theorem dX5_tune_39 : decode cX5_tune 39 = .ok (.iastore, 1) := by decide +kernel
theorem dX5_tune_40 : decode cX5_tune 40 = .ok (.iload 5, 2) := by decide +kernel
theorem dX5_tune_42 : decode cX5_tune 42 = .ok (.ireturn, 1) := by decide +kernel
theorem dX5_owner_0 : decode cX5_owner 0 = .ok (.aload_n 0, 1) := by decide +kernel
theorem dX5_owner_1 : decode cX5_owner 1 = .ok (.iload_n 1, 1) := by decide +kernel
theorem dX5_owner_2 : decode cX5_owner 2 = .ok (.invokevirtual 104, 3) := by decide +kernel
theorem dX5_owner_5 : decode cX5_owner 5 = .ok (.aload_n 0, 1) := by decide +kernel
theorem dX5_owner_6 : decode cX5_owner 6 = .ok (.getfield 18, 3) := by decide +kernel
theorem dX5_owner_9 : decode cX5_owner 9 = .ok (.iload_n 1, 1) := by decide +kernel
theorem dX5_owner_10 : decode cX5_owner 10 = .ok (.aaload, 1) := by decide +kernel
theorem dX5_owner_11 : decode cX5_owner 11 = .ok (.getfield 110, 3) := by decide +kernel
theorem dX5_owner_14 : decode cX5_owner 14 = .ok (.ireturn, 1) := by decide +kernel
theorem dX5_instruments_0 : decode cX5_instruments 0 = .ok (.aload_n 0, 1) := by decide +kernel
theorem dX5_instruments_1 : decode cX5_instruments 1 = .ok (.getfield 52, 3) := by decide +kernel
theorem dX5_instruments_4 : decode cX5_instruments 4 = .ok (.ireturn, 1) := by decide +kernel
theorem dX5_shifts_0 : decode cX5_shifts 0 = .ok (.aload_n 0, 1) := by decide +kernel
theorem dX5_shifts_1 : decode cX5_shifts 1 = .ok (.iload_n 1, 1) := by decide +kernel
theorem dX5_shifts_2 : decode cX5_shifts 2 = .ok (.iload_n 2, 1) := by decide +kernel
theorem dX5_shifts_3 : decode cX5_shifts 3 = .ok (.invokevirtual 113, 3) := by decide +kernel
theorem dX5_shifts_6 : decode cX5_shifts 6 = .ok (.ifCond .eq 13, 3) := by decide +kernel
theorem dX5_shifts_9 : decode cX5_shifts 9 = .ok (.aload_n 0, 1) := by decide +kernel
theorem dX5_shifts_10 : decode cX5_shifts 10 = .ok (.getfield 44, 3) := by decide +kernel
theorem dX5_shifts_13 : decode cX5_shifts 13 = .ok (.getfield 117, 3) := by decide +kernel
theorem dX5_shifts_16 : decode cX5_shifts 16 = .ok (.goto 4, 3) := by decide +kernel
theorem dX5_shifts_19 : decode cX5_shifts 19 = .ok (.iconst (-1), 1) := by decide +kernel
theorem dX5_shifts_20 : decode cX5_shifts 20 = .ok (.ireturn, 1) := by decide +kernel
theorem dX5_shiftsByAll_0 : decode cX5_shiftsByAll 0 = .ok (.aload_n 0, 1) := by decide +kernel
theorem dX5_shiftsByAll_1 : decode cX5_shiftsByAll 1 = .ok (.iload_n 1, 1) := by decide +kernel
theorem dX5_shiftsByAll_2 : decode cX5_shiftsByAll 2 = .ok (.invokevirtual 68, 3) := by decide +kernel
theorem dX5_shiftsByAll_5 : decode cX5_shiftsByAll 5 = .ok (.aload_n 0, 1) := by decide +kernel
theorem dX5_shiftsByAll_6 : decode cX5_shiftsByAll 6 = .ok (.iload_n 2, 1) := by decide +kernel
theorem dX5_shiftsByAll_7 : decode cX5_shiftsByAll 7 = .ok (.invokevirtual 104, 3) := by decide +kernel
theorem dX5_shiftsByAll_10 : decode cX5_shiftsByAll 10 = .ok (.aload_n 0, 1) := by decide +kernel
theorem dX5_shiftsByAll_11 : decode cX5_shiftsByAll 11 = .ok (.getfield 11, 3) := by decide +kernel
theorem dX5_shiftsByAll_14 : decode cX5_shiftsByAll 14 = .ok (.iload_n 1, 1) := by decide +kernel
theorem dX5_shiftsByAll_15 : decode cX5_shiftsByAll 15 = .ok (.aaload, 1) := by decide +kernel
theorem dX5_shiftsByAll_16 : decode cX5_shiftsByAll 16 = .ok (.getfield 85, 3) := by decide +kernel
theorem dX5_shiftsByAll_19 : decode cX5_shiftsByAll 19 = .ok (.iconst 4, 1) := by decide +kernel
theorem dX5_shiftsByAll_20 : decode cX5_shiftsByAll 20 = .ok (.if_icmp .le 13, 3) := by decide +kernel
theorem dX5_shiftsByAll_23 : decode cX5_shiftsByAll 23 = .ok (.new 61, 3) := by decide +kernel
theorem dX5_shiftsByAll_26 : decode cX5_shiftsByAll 26 = .ok (.dup, 1) := by decide +kernel
theorem dX5_shiftsByAll_27 : decode cX5_shiftsByAll 27 = .ok (.ldc 120, 2) := by decide +kernel
theorem dX5_shiftsByAll_29 : decode cX5_shiftsByAll 29 = .ok (.invokespecial 65, 3) := by decide +kernel
theorem dX5_shiftsByAll_32 : decode cX5_shiftsByAll 32 = .ok (.athrow, 1) := by decide +kernel
theorem dX5_shiftsByAll_33 : decode cX5_shiftsByAll 33 = .ok (.aload_n 0, 1) := by decide +kernel
theorem dX5_shiftsByAll_34 : decode cX5_shiftsByAll 34 = .ok (.getfield 44, 3) := by decide +kernel
theorem dX5_shiftsByAll_37 : decode cX5_shiftsByAll 37 = .ok (.aload_n 0, 1) := by decide +kernel
theorem dX5_shiftsByAll_38 : decode cX5_shiftsByAll 38 = .ok (.getfield 11, 3) := by decide +kernel
theorem dX5_shiftsByAll_41 : decode cX5_shiftsByAll 41 = .ok (.iload_n 1, 1) := by decide +kernel
theorem dX5_shiftsByAll_42 : decode cX5_shiftsByAll 42 = .ok (.aaload, 1) := by decide +kernel
theorem dX5_shiftsByAll_43 : decode cX5_shiftsByAll 43 = .ok (.aload_n 0, 1) := by decide +kernel
theorem dX5_shiftsByAll_44 : decode cX5_shiftsByAll 44 = .ok (.getfield 18, 3) := by decide +kernel
theorem dX5_shiftsByAll_47 : decode cX5_shiftsByAll 47 = .ok (.iload_n 2, 1) := by decide +kernel
theorem dX5_shiftsByAll_48 : decode cX5_shiftsByAll 48 = .ok (.aaload, 1) := by decide +kernel
theorem dX5_shiftsByAll_49 : decode cX5_shiftsByAll 49 = .ok (.invokevirtual 122, 3) := by decide +kernel
theorem dX5_shiftsByAll_52 : decode cX5_shiftsByAll 52 = .ok (.ireturn, 1) := by decide +kernel
theorem dX5_hardest_0 : decode cX5_hardest 0 = .ok (.aload_n 0, 1) := by decide +kernel
theorem dX5_hardest_1 : decode cX5_hardest 1 = .ok (.iload_n 1, 1) := by decide +kernel
theorem dX5_hardest_2 : decode cX5_hardest 2 = .ok (.iload_n 2, 1) := by decide +kernel
theorem dX5_hardest_3 : decode cX5_hardest 3 = .ok (.invokevirtual 113, 3) := by decide +kernel
theorem dX5_hardest_6 : decode cX5_hardest 6 = .ok (.ifCond .eq 13, 3) := by decide +kernel
theorem dX5_hardest_9 : decode cX5_hardest 9 = .ok (.aload_n 0, 1) := by decide +kernel
theorem dX5_hardest_10 : decode cX5_hardest 10 = .ok (.getfield 44, 3) := by decide +kernel
theorem dX5_hardest_13 : decode cX5_hardest 13 = .ok (.getfield 126, 3) := by decide +kernel
theorem dX5_hardest_16 : decode cX5_hardest 16 = .ok (.goto 4, 3) := by decide +kernel
theorem dX5_hardest_19 : decode cX5_hardest 19 = .ok (.iconst (-1), 1) := by decide +kernel
theorem dX5_hardest_20 : decode cX5_hardest 20 = .ok (.ireturn, 1) := by decide +kernel
theorem dX5_position_0 : decode cX5_position 0 = .ok (.aload_n 0, 1) := by decide +kernel
theorem dX5_position_1 : decode cX5_position 1 = .ok (.iload_n 1, 1) := by decide +kernel
theorem dX5_position_2 : decode cX5_position 2 = .ok (.iload_n 2, 1) := by decide +kernel
theorem dX5_position_3 : decode cX5_position 3 = .ok (.invokevirtual 97, 3) := by decide +kernel
theorem dX5_position_6 : decode cX5_position 6 = .ok (.aload_n 0, 1) := by decide +kernel
theorem dX5_position_7 : decode cX5_position 7 = .ok (.iload_n 1, 1) := by decide +kernel
theorem dX5_position_8 : decode cX5_position 8 = .ok (.iload_n 3, 1) := by decide +kernel
theorem dX5_position_9 : decode cX5_position 9 = .ok (.invokevirtual 113, 3) := by decide +kernel
theorem dX5_position_12 : decode cX5_position 12 = .ok (.ifCond .eq 15, 3) := by decide +kernel
theorem dX5_position_15 : decode cX5_position 15 = .ok (.aload_n 0, 1) := by decide +kernel
theorem dX5_position_16 : decode cX5_position 16 = .ok (.getfield 44, 3) := by decide +kernel
theorem dX5_position_19 : decode cX5_position 19 = .ok (.getfield 129, 3) := by decide +kernel
theorem dX5_position_22 : decode cX5_position 22 = .ok (.iload_n 2, 1) := by decide +kernel
theorem dX5_position_23 : decode cX5_position 23 = .ok (.iaload, 1) := by decide +kernel
theorem dX5_position_24 : decode cX5_position 24 = .ok (.goto 4, 3) := by decide +kernel
theorem dX5_position_27 : decode cX5_position 27 = .ok (.iconst (-1), 1) := by decide +kernel
theorem dX5_position_28 : decode cX5_position 28 = .ok (.ireturn, 1) := by decide +kernel
theorem dX5_string_0 : decode cX5_string 0 = .ok (.aload_n 0, 1) := by decide +kernel
theorem dX5_string_1 : decode cX5_string 1 = .ok (.iload_n 1, 1) := by decide +kernel
theorem dX5_string_2 : decode cX5_string 2 = .ok (.iload_n 2, 1) := by decide +kernel
theorem dX5_string_3 : decode cX5_string 3 = .ok (.invokevirtual 97, 3) := by decide +kernel
theorem dX5_string_6 : decode cX5_string 6 = .ok (.aload_n 0, 1) := by decide +kernel
theorem dX5_string_7 : decode cX5_string 7 = .ok (.iload_n 1, 1) := by decide +kernel
theorem dX5_string_8 : decode cX5_string 8 = .ok (.iload_n 3, 1) := by decide +kernel
theorem dX5_string_9 : decode cX5_string 9 = .ok (.invokevirtual 113, 3) := by decide +kernel
theorem dX5_string_12 : decode cX5_string 12 = .ok (.ifCond .ne 5, 3) := by decide +kernel
theorem dX5_string_15 : decode cX5_string 15 = .ok (.iconst (-1), 1) := by decide +kernel
theorem dX5_string_16 : decode cX5_string 16 = .ok (.ireturn, 1) := by decide +kernel
theorem dX5_string_17 : decode cX5_string 17 = .ok (.aload_n 0, 1) := by decide +kernel
theorem dX5_string_18 : decode cX5_string 18 = .ok (.getfield 18, 3) := by decide +kernel
theorem dX5_string_21 : decode cX5_string 21 = .ok (.iload_n 3, 1) := by decide +kernel
theorem dX5_string_22 : decode cX5_string 22 = .ok (.aaload, 1) := by decide +kernel
theorem dX5_string_23 : decode cX5_string 23 = .ok (.aload_n 0, 1) := by decide +kernel
theorem dX5_string_24 : decode cX5_string 24 = .ok (.getfield 11, 3) := by decide +kernel
theorem dX5_string_27 : decode cX5_string 27 = .ok (.iload_n 1, 1) := by decide +kernel
theorem dX5_string_28 : decode cX5_string 28 = .ok (.aaload, 1) := by decide +kernel
theorem dX5_string_29 : decode cX5_string 29 = .ok (.getfield 101, 3) := by decide +kernel
theorem dX5_string_32 : decode cX5_string 32 = .ok (.iload_n 2, 1) := by decide +kernel
theorem dX5_string_33 : decode cX5_string 33 = .ok (.iaload, 1) := by decide +kernel
theorem dX5_string_34 : decode cX5_string 34 = .ok (.aload_n 0, 1) := by decide +kernel
theorem dX5_string_35 : decode cX5_string 35 = .ok (.getfield 44, 3) := by decide +kernel
theorem dX5_string_38 : decode cX5_string 38 = .ok (.getfield 129, 3) := by decide +kernel
theorem dX5_string_41 : decode cX5_string 41 = .ok (.iload_n 2, 1) := by decide +kernel
theorem dX5_string_42 : decode cX5_string 42 = .ok (.iaload, 1) := by decide +kernel
theorem dX5_string_43 : decode cX5_string 43 = .ok (.invokevirtual 132, 3) := by decide +kernel
theorem dX5_string_46 : decode cX5_string 46 = .ok (.ireturn, 1) := by decide +kernel
theorem dX5_learn_0 : decode cX5_learn 0 = .ok (.aload_n 0, 1) := by decide +kernel
theorem dX5_learn_1 : decode cX5_learn 1 = .ok (.iload_n 2, 1) := by decide +kernel
theorem dX5_learn_2 : decode cX5_learn 2 = .ok (.invokevirtual 68, 3) := by decide +kernel
theorem dX5_learn_5 : decode cX5_learn 5 = .ok (.aload_n 0, 1) := by decide +kernel
theorem dX5_learn_6 : decode cX5_learn 6 = .ok (.iload_n 3, 1) := by decide +kernel
theorem dX5_learn_7 : decode cX5_learn 7 = .ok (.invokevirtual 104, 3) := by decide +kernel
theorem dX5_learn_10 : decode cX5_learn 10 = .ok (.iload_n 1, 1) := by decide +kernel
theorem dX5_learn_11 : decode cX5_learn 11 = .ok (.invokestatic 136, 3) := by decide +kernel
theorem dX5_learn_14 : decode cX5_learn 14 = .ok (.aload_n 0, 1) := by decide +kernel
theorem dX5_learn_15 : decode cX5_learn 15 = .ok (.getfield 25, 3) := by decide +kernel
theorem dX5_learn_18 : decode cX5_learn 18 = .ok (.iload_n 1, 1) := by decide +kernel
theorem dX5_learn_19 : decode cX5_learn 19 = .ok (.aaload, 1) := by decide +kernel
theorem dX5_learn_20 : decode cX5_learn 20 = .ok (.astore 4, 2) := by decide +kernel
theorem dX5_learn_22 : decode cX5_learn 22 = .ok (.aload 4, 2) := by decide +kernel
theorem dX5_learn_24 : decode cX5_learn 24 = .ok (.iload_n 2, 1) := by decide +kernel
theorem dX5_learn_25 : decode cX5_learn 25 = .ok (.invokevirtual 139, 3) := by decide +kernel
theorem dX5_learn_28 : decode cX5_learn 28 = .ok (.ifCond .eq 13, 3) := by decide +kernel
theorem dX5_learn_31 : decode cX5_learn 31 = .ok (.new 61, 3) := by decide +kernel
theorem dX5_learn_34 : decode cX5_learn 34 = .ok (.dup, 1) := by decide +kernel
theorem dX5_learn_35 : decode cX5_learn 35 = .ok (.ldc 142, 2) := by decide +kernel
theorem dX5_learn_37 : decode cX5_learn 37 = .ok (.invokespecial 65, 3) := by decide +kernel
theorem dX5_learn_40 : decode cX5_learn 40 = .ok (.athrow, 1) := by decide +kernel
theorem dX5_learn_41 : decode cX5_learn 41 = .ok (.aload_n 0, 1) := by decide +kernel
theorem dX5_learn_42 : decode cX5_learn 42 = .ok (.iload_n 1, 1) := by decide +kernel
theorem dX5_learn_43 : decode cX5_learn 43 = .ok (.iload_n 2, 1) := by decide +kernel
theorem dX5_learn_44 : decode cX5_learn 44 = .ok (.iload_n 3, 1) := by decide +kernel
theorem dX5_learn_45 : decode cX5_learn 45 = .ok (.invokevirtual 144, 3) := by decide +kernel
theorem dX5_learn_48 : decode cX5_learn 48 = .ok (.istore 5, 2) := by decide +kernel
theorem dX5_learn_50 : decode cX5_learn 50 = .ok (.iload 5, 2) := by decide +kernel
theorem dX5_learn_52 : decode cX5_learn 52 = .ok (.iconst (-1), 1) := by decide +kernel
theorem dX5_learn_53 : decode cX5_learn 53 = .ok (.if_icmp .ne 13, 3) := by decide +kernel
theorem dX5_learn_56 : decode cX5_learn 56 = .ok (.new 61, 3) := by decide +kernel
theorem dX5_learn_59 : decode cX5_learn 59 = .ok (.dup, 1) := by decide +kernel
theorem dX5_learn_60 : decode cX5_learn 60 = .ok (.ldc 148, 2) := by decide +kernel
theorem dX5_learn_62 : decode cX5_learn 62 = .ok (.invokespecial 65, 3) := by decide +kernel
theorem dX5_learn_65 : decode cX5_learn 65 = .ok (.athrow, 1) := by decide +kernel
theorem dX5_learn_66 : decode cX5_learn 66 = .ok (.aload 4, 2) := by decide +kernel
theorem dX5_learn_68 : decode cX5_learn 68 = .ok (.iload_n 2, 1) := by decide +kernel
theorem dX5_learn_69 : decode cX5_learn 69 = .ok (.iload 5, 2) := by decide +kernel
theorem dX5_learn_71 : decode cX5_learn 71 = .ok (.invokevirtual 150, 3) := by decide +kernel
theorem dX5_learn_74 : decode cX5_learn 74 = .ok (.aload 4, 2) := by decide +kernel
theorem dX5_learn_76 : decode cX5_learn 76 = .ok (.getfield 153, 3) := by decide +kernel
theorem dX5_learn_79 : decode cX5_learn 79 = .ok (.ireturn, 1) := by decide +kernel
theorem dX5_level_0 : decode cX5_level 0 = .ok (.iload_n 1, 1) := by decide +kernel
theorem dX5_level_1 : decode cX5_level 1 = .ok (.invokestatic 136, 3) := by decide +kernel
theorem dX5_level_4 : decode cX5_level 4 = .ok (.aload_n 0, 1) := by decide +kernel
theorem dX5_level_5 : decode cX5_level 5 = .ok (.getfield 25, 3) := by decide +kernel
theorem dX5_level_8 : decode cX5_level 8 = .ok (.iload_n 1, 1) := by decide +kernel
theorem dX5_level_9 : decode cX5_level 9 = .ok (.aaload, 1) := by decide +kernel
theorem dX5_level_10 : decode cX5_level 10 = .ok (.getfield 153, 3) := by decide +kernel
theorem dX5_level_13 : decode cX5_level 13 = .ok (.ireturn, 1) := by decide +kernel
theorem dX5_known_0 : decode cX5_known 0 = .ok (.iload_n 1, 1) := by decide +kernel
theorem dX5_known_1 : decode cX5_known 1 = .ok (.invokestatic 136, 3) := by decide +kernel
theorem dX5_known_4 : decode cX5_known 4 = .ok (.aload_n 0, 1) := by decide +kernel
theorem dX5_known_5 : decode cX5_known 5 = .ok (.getfield 25, 3) := by decide +kernel
theorem dX5_known_8 : decode cX5_known 8 = .ok (.iload_n 1, 1) := by decide +kernel
theorem dX5_known_9 : decode cX5_known 9 = .ok (.aaload, 1) := by decide +kernel
theorem dX5_known_10 : decode cX5_known 10 = .ok (.getfield 156, 3) := by decide +kernel
theorem dX5_known_13 : decode cX5_known 13 = .ok (.ireturn, 1) := by decide +kernel
theorem dX5_next_0 : decode cX5_next 0 = .ok (.iload_n 1, 1) := by decide +kernel
theorem dX5_next_1 : decode cX5_next 1 = .ok (.invokestatic 136, 3) := by decide +kernel
theorem dX5_next_4 : decode cX5_next 4 = .ok (.iconst (-1), 1) := by decide +kernel
theorem dX5_next_5 : decode cX5_next 5 = .ok (.istore_n 2, 1) := by decide +kernel
theorem dX5_next_6 : decode cX5_next 6 = .ok (.iconst 0, 1) := by decide +kernel
theorem dX5_next_7 : decode cX5_next 7 = .ok (.istore_n 3, 1) := by decide +kernel
theorem dX5_next_8 : decode cX5_next 8 = .ok (.iconst 0, 1) := by decide +kernel
theorem dX5_next_9 : decode cX5_next 9 = .ok (.istore 4, 2) := by decide +kernel
theorem dX5_next_11 : decode cX5_next 11 = .ok (.iload 4, 2) := by decide +kernel
theorem dX5_next_13 : decode cX5_next 13 = .ok (.aload_n 0, 1) := by decide +kernel
theorem dX5_next_14 : decode cX5_next 14 = .ok (.getfield 48, 3) := by decide +kernel
theorem dX5_next_17 : decode cX5_next 17 = .ok (.if_icmp .ge 59, 3) := by decide +kernel
theorem dX5_next_20 : decode cX5_next 20 = .ok (.aload_n 0, 1) := by decide +kernel
theorem dX5_next_21 : decode cX5_next 21 = .ok (.getfield 25, 3) := by decide +kernel
theorem dX5_next_24 : decode cX5_next 24 = .ok (.iload_n 1, 1) := by decide +kernel
theorem dX5_next_25 : decode cX5_next 25 = .ok (.aaload, 1) := by decide +kernel
theorem dX5_next_26 : decode cX5_next 26 = .ok (.iload 4, 2) := by decide +kernel
theorem dX5_next_28 : decode cX5_next 28 = .ok (.invokevirtual 139, 3) := by decide +kernel
theorem dX5_next_31 : decode cX5_next 31 = .ok (.ifCond .eq 7, 3) := by decide +kernel
theorem dX5_next_34 : decode cX5_next 34 = .ok (.iconst (-1), 1) := by decide +kernel
theorem dX5_next_35 : decode cX5_next 35 = .ok (.goto 10, 3) := by decide +kernel
theorem dX5_next_38 : decode cX5_next 38 = .ok (.aload_n 0, 1) := by decide +kernel
theorem dX5_next_39 : decode cX5_next 39 = .ok (.iload_n 1, 1) := by decide +kernel
theorem dX5_next_40 : decode cX5_next 40 = .ok (.iload 4, 2) := by decide +kernel
theorem dX5_next_42 : decode cX5_next 42 = .ok (.invokevirtual 159, 3) := by decide +kernel

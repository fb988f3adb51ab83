theorem dX6_apart_11 : decode cX6_apart 11 = .ok (.iload_n 0, 1) := by decide +kernel
theorem dX6_apart_12 : decode cX6_apart 12 = .ok (.iload_n 1, 1) := by decide +kernel
theorem dX6_apart_13 : decode cX6_apart 13 = .ok (.isub, 1) := by decide +kernel
theorem dX6_apart_14 : decode cX6_apart 14 = .ok (.ireturn, 1) := by decide +kernel
theorem dX6_from_0 : decode cX6_from 0 = .ok (.aload_n 0, 1) := by decide +kernel
theorem dX6_from_1 : decode cX6_from 1 = .ok (.iload_n 1, 1) := by decide +kernel
theorem dX6_from_2 : decode cX6_from 2 = .ok (.iload_n 2, 1) := by decide +kernel
theorem dX6_from_3 : decode cX6_from 3 = .ok (.iload_n 3, 1) := by decide +kernel
theorem dX6_from_4 : decode cX6_from 4 = .ok (.iload 4, 2) := by decide +kernel
theorem dX6_from_6 : decode cX6_from 6 = .ok (.invokevirtual 93, 3) := by decide +kernel
theorem dX6_from_9 : decode cX6_from 9 = .ok (.ifCond .ne 6, 3) := by decide +kernel
theorem dX6_from_12 : decode cX6_from 12 = .ok (.ldc 97, 2) := by decide +kernel
theorem dX6_from_14 : decode cX6_from 14 = .ok (.ireturn, 1) := by decide +kernel
theorem dX6_from_15 : decode cX6_from 15 = .ok (.iload_n 2, 1) := by decide +kernel
theorem dX6_from_16 : decode cX6_from 16 = .ok (.iconst 1, 1) := by decide +kernel
theorem dX6_from_17 : decode cX6_from 17 = .ok (.iadd, 1) := by decide +kernel
theorem dX6_from_18 : decode cX6_from 18 = .ok (.aload_n 0, 1) := by decide +kernel
theorem dX6_from_19 : decode cX6_from 19 = .ok (.getfield 7, 3) := by decide +kernel
theorem dX6_from_22 : decode cX6_from 22 = .ok (.iload_n 1, 1) := by decide +kernel
theorem dX6_from_23 : decode cX6_from 23 = .ok (.iaload, 1) := by decide +kernel
theorem dX6_from_24 : decode cX6_from 24 = .ok (.if_icmp .ge 8, 3) := by decide +kernel
theorem dX6_from_27 : decode cX6_from 27 = .ok (.ldc 97, 2) := by decide +kernel
theorem dX6_from_29 : decode cX6_from 29 = .ok (.goto 4, 3) := by decide +kernel
theorem dX6_from_32 : decode cX6_from 32 = .ok (.iconst 0, 1) := by decide +kernel
theorem dX6_from_33 : decode cX6_from 33 = .ok (.istore 5, 2) := by decide +kernel
theorem dX6_from_35 : decode cX6_from 35 = .ok (.iconst 1, 1) := by decide +kernel
theorem dX6_from_36 : decode cX6_from 36 = .ok (.istore 6, 2) := by decide +kernel
theorem dX6_from_38 : decode cX6_from 38 = .ok (.iload_n 2, 1) := by decide +kernel
theorem dX6_from_39 : decode cX6_from 39 = .ok (.iconst 1, 1) := by decide +kernel
theorem dX6_from_40 : decode cX6_from 40 = .ok (.iadd, 1) := by decide +kernel
theorem dX6_from_41 : decode cX6_from 41 = .ok (.aload_n 0, 1) := by decide +kernel
theorem dX6_from_42 : decode cX6_from 42 = .ok (.getfield 7, 3) := by decide +kernel
theorem dX6_from_45 : decode cX6_from 45 = .ok (.iload_n 1, 1) := by decide +kernel
theorem dX6_from_46 : decode cX6_from 46 = .ok (.iaload, 1) := by decide +kernel
theorem dX6_from_47 : decode cX6_from 47 = .ok (.if_icmp .ge 62, 3) := by decide +kernel
theorem dX6_from_50 : decode cX6_from 50 = .ok (.iload 6, 2) := by decide +kernel
theorem dX6_from_52 : decode cX6_from 52 = .ok (.aload_n 0, 1) := by decide +kernel
theorem dX6_from_53 : decode cX6_from 53 = .ok (.getfield 19, 3) := by decide +kernel
theorem dX6_from_56 : decode cX6_from 56 = .ok (.iload_n 3, 1) := by decide +kernel
theorem dX6_from_57 : decode cX6_from 57 = .ok (.iaload, 1) := by decide +kernel
theorem dX6_from_58 : decode cX6_from 58 = .ok (.iconst 3, 1) := by decide +kernel
theorem dX6_from_59 : decode cX6_from 59 = .ok (.isub, 1) := by decide +kernel
theorem dX6_from_60 : decode cX6_from 60 = .ok (.if_icmp .gt 49, 3) := by decide +kernel
theorem dX6_from_63 : decode cX6_from 63 = .ok (.iload 4, 2) := by decide +kernel
theorem dX6_from_65 : decode cX6_from 65 = .ok (.iload 6, 2) := by decide +kernel
theorem dX6_from_67 : decode cX6_from 67 = .ok (.invokestatic 98, 3) := by decide +kernel
theorem dX6_from_70 : decode cX6_from 70 = .ok (.aload_n 0, 1) := by decide +kernel
theorem dX6_from_71 : decode cX6_from 71 = .ok (.getfield 47, 3) := by decide +kernel
theorem dX6_from_74 : decode cX6_from 74 = .ok (.bipush 14, 2) := by decide +kernel
theorem dX6_from_76 : decode cX6_from 76 = .ok (.iload_n 2, 1) := by decide +kernel
theorem dX6_from_77 : decode cX6_from 77 = .ok (.iconst 1, 1) := by decide +kernel
theorem dX6_from_78 : decode cX6_from 78 = .ok (.iadd, 1) := by decide +kernel
theorem dX6_from_79 : decode cX6_from 79 = .ok (.imul, 1) := by decide +kernel
theorem dX6_from_80 : decode cX6_from 80 = .ok (.iload 6, 2) := by decide +kernel
theorem dX6_from_82 : decode cX6_from 82 = .ok (.iadd, 1) := by decide +kernel
theorem dX6_from_83 : decode cX6_from 83 = .ok (.iaload, 1) := by decide +kernel
theorem dX6_from_84 : decode cX6_from 84 = .ok (.iadd, 1) := by decide +kernel
theorem dX6_from_85 : decode cX6_from 85 = .ok (.istore 7, 2) := by decide +kernel
theorem dX6_from_87 : decode cX6_from 87 = .ok (.iload 7, 2) := by decide +kernel
theorem dX6_from_89 : decode cX6_from 89 = .ok (.iload 5, 2) := by decide +kernel
theorem dX6_from_91 : decode cX6_from 91 = .ok (.if_icmp .ge 8, 3) := by decide +kernel
theorem dX6_from_94 : decode cX6_from 94 = .ok (.iload 7, 2) := by decide +kernel
theorem dX6_from_96 : decode cX6_from 96 = .ok (.goto 5, 3) := by decide +kernel
theorem dX6_from_99 : decode cX6_from 99 = .ok (.iload 5, 2) := by decide +kernel
theorem dX6_from_101 : decode cX6_from 101 = .ok (.istore 5, 2) := by decide +kernel
theorem dX6_from_103 : decode cX6_from 103 = .ok (.iinc 6 1, 3) := by decide +kernel
theorem dX6_from_106 : decode cX6_from 106 = .ok (.goto (-68), 3) := by decide +kernel
theorem dX6_from_109 : decode cX6_from 109 = .ok (.iload 5, 2) := by decide +kernel
theorem dX6_from_111 : decode cX6_from 111 = .ok (.ldc 97, 2) := by decide +kernel
theorem dX6_from_113 : decode cX6_from 113 = .ok (.if_icmp .le 8, 3) := by decide +kernel
theorem dX6_from_116 : decode cX6_from 116 = .ok (.ldc 97, 2) := by decide +kernel
theorem dX6_from_118 : decode cX6_from 118 = .ok (.goto 5, 3) := by decide +kernel
theorem dX6_from_121 : decode cX6_from 121 = .ok (.iload 5, 2) := by decide +kernel
theorem dX6_from_123 : decode cX6_from 123 = .ok (.ireturn, 1) := by decide +kernel
theorem dX6_finds_0 : decode cX6_finds 0 = .ok (.aload_n 0, 1) := by decide +kernel
theorem dX6_finds_1 : decode cX6_finds 1 = .ok (.getfield 7, 3) := by decide +kernel
theorem dX6_finds_4 : decode cX6_finds 4 = .ok (.iload_n 1, 1) := by decide +kernel
theorem dX6_finds_5 : decode cX6_finds 5 = .ok (.iaload, 1) := by decide +kernel
theorem dX6_finds_6 : decode cX6_finds 6 = .ok (.iconst 1, 1) := by decide +kernel
theorem dX6_finds_7 : decode cX6_finds 7 = .ok (.isub, 1) := by decide +kernel
theorem dX6_finds_8 : decode cX6_finds 8 = .ok (.istore_n 3, 1) := by decide +kernel
theorem dX6_finds_9 : decode cX6_finds 9 = .ok (.iload_n 3, 1) := by decide +kernel
theorem dX6_finds_10 : decode cX6_finds 10 = .ok (.ifCond .lt 52, 3) := by decide +kernel
theorem dX6_finds_13 : decode cX6_finds 13 = .ok (.iconst 1, 1) := by decide +kernel
theorem dX6_finds_14 : decode cX6_finds 14 = .ok (.istore 4, 2) := by decide +kernel
theorem dX6_finds_16 : decode cX6_finds 16 = .ok (.iload 4, 2) := by decide +kernel
theorem dX6_finds_18 : decode cX6_finds 18 = .ok (.aload_n 0, 1) := by decide +kernel
theorem dX6_finds_19 : decode cX6_finds 19 = .ok (.getfield 19, 3) := by decide +kernel
theorem dX6_finds_22 : decode cX6_finds 22 = .ok (.iload_n 2, 1) := by decide +kernel
theorem dX6_finds_23 : decode cX6_finds 23 = .ok (.iaload, 1) := by decide +kernel
theorem dX6_finds_24 : decode cX6_finds 24 = .ok (.iconst 3, 1) := by decide +kernel
theorem dX6_finds_25 : decode cX6_finds 25 = .ok (.isub, 1) := by decide +kernel
theorem dX6_finds_26 : decode cX6_finds 26 = .ok (.if_icmp .gt 30, 3) := by decide +kernel
theorem dX6_finds_29 : decode cX6_finds 29 = .ok (.aload_n 0, 1) := by decide +kernel
theorem dX6_finds_30 : decode cX6_finds 30 = .ok (.getfield 47, 3) := by decide +kernel
theorem dX6_finds_33 : decode cX6_finds 33 = .ok (.bipush 14, 2) := by decide +kernel
theorem dX6_finds_35 : decode cX6_finds 35 = .ok (.iload_n 3, 1) := by decide +kernel
theorem dX6_finds_36 : decode cX6_finds 36 = .ok (.imul, 1) := by decide +kernel
theorem dX6_finds_37 : decode cX6_finds 37 = .ok (.iload 4, 2) := by decide +kernel
theorem dX6_finds_39 : decode cX6_finds 39 = .ok (.iadd, 1) := by decide +kernel
theorem dX6_finds_40 : decode cX6_finds 40 = .ok (.aload_n 0, 1) := by decide +kernel
theorem dX6_finds_41 : decode cX6_finds 41 = .ok (.iload_n 1, 1) := by decide +kernel
theorem dX6_finds_42 : decode cX6_finds 42 = .ok (.iload_n 3, 1) := by decide +kernel
theorem dX6_finds_43 : decode cX6_finds 43 = .ok (.iload_n 2, 1) := by decide +kernel
theorem dX6_finds_44 : decode cX6_finds 44 = .ok (.iload 4, 2) := by decide +kernel
theorem dX6_finds_46 : decode cX6_finds 46 = .ok (.invokevirtual 102, 3) := by decide +kernel
theorem dX6_finds_49 : decode cX6_finds 49 = .ok (.iastore, 1) := by decide +kernel
theorem dX6_finds_50 : decode cX6_finds 50 = .ok (.iinc 4 1, 3) := by decide +kernel
theorem dX6_finds_53 : decode cX6_finds 53 = .ok (.goto (-37), 3) := by decide +kernel
theorem dX6_finds_56 : decode cX6_finds 56 = .ok (.iinc 3 (-1), 3) := by decide +kernel
theorem dX6_finds_59 : decode cX6_finds 59 = .ok (.goto (-50), 3) := by decide +kernel
theorem dX6_finds_62 : decode cX6_finds 62 = .ok (.ldc 97, 2) := by decide +kernel
theorem dX6_finds_64 : decode cX6_finds 64 = .ok (.istore_n 3, 1) := by decide +kernel
theorem dX6_finds_65 : decode cX6_finds 65 = .ok (.aload_n 0, 1) := by decide +kernel
theorem dX6_finds_66 : decode cX6_finds 66 = .ok (.getfield 19, 3) := by decide +kernel
theorem dX6_finds_69 : decode cX6_finds 69 = .ok (.iload_n 2, 1) := by decide +kernel
theorem dX6_finds_70 : decode cX6_finds 70 = .ok (.iaload, 1) := by decide +kernel
theorem dX6_finds_71 : decode cX6_finds 71 = .ok (.iconst 3, 1) := by decide +kernel
theorem dX6_finds_72 : decode cX6_finds 72 = .ok (.isub, 1) := by decide +kernel
theorem dX6_finds_73 : decode cX6_finds 73 = .ok (.istore 4, 2) := by decide +kernel
theorem dX6_finds_75 : decode cX6_finds 75 = .ok (.iload 4, 2) := by decide +kernel
theorem dX6_finds_77 : decode cX6_finds 77 = .ok (.iconst 1, 1) := by decide +kernel
theorem dX6_finds_78 : decode cX6_finds 78 = .ok (.if_icmp .lt 45, 3) := by decide +kernel
theorem dX6_finds_81 : decode cX6_finds 81 = .ok (.aload_n 0, 1) := by decide +kernel
theorem dX6_finds_82 : decode cX6_finds 82 = .ok (.getfield 7, 3) := by decide +kernel
theorem dX6_finds_85 : decode cX6_finds 85 = .ok (.iload_n 1, 1) := by decide +kernel
theorem dX6_finds_86 : decode cX6_finds 86 = .ok (.iaload, 1) := by decide +kernel
theorem dX6_finds_87 : decode cX6_finds 87 = .ok (.ifCond .le 36, 3) := by decide +kernel
theorem dX6_finds_90 : decode cX6_finds 90 = .ok (.aload_n 0, 1) := by decide +kernel
theorem dX6_finds_91 : decode cX6_finds 91 = .ok (.getfield 47, 3) := by decide +kernel
theorem dX6_finds_94 : decode cX6_finds 94 = .ok (.iload 4, 2) := by decide +kernel
theorem dX6_finds_96 : decode cX6_finds 96 = .ok (.iaload, 1) := by decide +kernel
theorem dX6_finds_97 : decode cX6_finds 97 = .ok (.iload_n 3, 1) := by decide +kernel
theorem dX6_finds_98 : decode cX6_finds 98 = .ok (.if_icmp .gt 19, 3) := by decide +kernel
theorem dX6_finds_101 : decode cX6_finds 101 = .ok (.aload_n 0, 1) := by decide +kernel
theorem dX6_finds_102 : decode cX6_finds 102 = .ok (.getfield 47, 3) := by decide +kernel
theorem dX6_finds_105 : decode cX6_finds 105 = .ok (.iload 4, 2) := by decide +kernel
theorem dX6_finds_107 : decode cX6_finds 107 = .ok (.iaload, 1) := by decide +kernel
theorem dX6_finds_108 : decode cX6_finds 108 = .ok (.istore_n 3, 1) := by decide +kernel
theorem dX6_finds_109 : decode cX6_finds 109 = .ok (.aload_n 0, 1) := by decide +kernel
theorem dX6_finds_110 : decode cX6_finds 110 = .ok (.getfield 50, 3) := by decide +kernel
theorem dX6_finds_113 : decode cX6_finds 113 = .ok (.iconst 0, 1) := by decide +kernel
theorem dX6_finds_114 : decode cX6_finds 114 = .ok (.iload 4, 2) := by decide +kernel
theorem dX6_finds_116 : decode cX6_finds 116 = .ok (.iastore, 1) := by decide +kernel
theorem dX6_finds_117 : decode cX6_finds 117 = .ok (.iinc 4 (-1), 3) := by decide +kernel
theorem dX6_finds_120 : decode cX6_finds 120 = .ok (.goto (-45), 3) := by decide +kernel
theorem dX6_finds_123 : decode cX6_finds 123 = .ok (.iconst 1, 1) := by decide +kernel
theorem dX6_finds_124 : decode cX6_finds 124 = .ok (.istore 4, 2) := by decide +kernel
theorem dX6_finds_126 : decode cX6_finds 126 = .ok (.iload 4, 2) := by decide +kernel
theorem dX6_finds_128 : decode cX6_finds 128 = .ok (.aload_n 0, 1) := by decide +kernel
theorem dX6_finds_129 : decode cX6_finds 129 = .ok (.getfield 7, 3) := by decide +kernel
theorem dX6_finds_132 : decode cX6_finds 132 = .ok (.iload_n 1, 1) := by decide +kernel
theorem dX6_finds_133 : decode cX6_finds 133 = .ok (.iaload, 1) := by decide +kernel
theorem dX6_finds_134 : decode cX6_finds 134 = .ok (.if_icmp .ge 103, 3) := by decide +kernel
theorem dX6_finds_137 : decode cX6_finds 137 = .ok (.iload_n 3, 1) := by decide +kernel
theorem dX6_finds_138 : decode cX6_finds 138 = .ok (.ldc 97, 2) := by decide +kernel
theorem dX6_finds_140 : decode cX6_finds 140 = .ok (.if_icmp .ge 97, 3) := by decide +kernel
theorem dX6_finds_143 : decode cX6_finds 143 = .ok (.aload_n 0, 1) := by decide +kernel
theorem dX6_finds_144 : decode cX6_finds 144 = .ok (.getfield 47, 3) := by decide +kernel
theorem dX6_finds_147 : decode cX6_finds 147 = .ok (.bipush 14, 2) := by decide +kernel
theorem dX6_finds_149 : decode cX6_finds 149 = .ok (.iload 4, 2) := by decide +kernel
theorem dX6_finds_151 : decode cX6_finds 151 = .ok (.iconst 1, 1) := by decide +kernel
theorem dX6_finds_152 : decode cX6_finds 152 = .ok (.isub, 1) := by decide +kernel
theorem dX6_finds_153 : decode cX6_finds 153 = .ok (.imul, 1) := by decide +kernel
theorem dX6_finds_154 : decode cX6_finds 154 = .ok (.aload_n 0, 1) := by decide +kernel
theorem dX6_finds_155 : decode cX6_finds 155 = .ok (.getfield 50, 3) := by decide +kernel
theorem dX6_finds_158 : decode cX6_finds 158 = .ok (.iload 4, 2) := by decide +kernel
theorem dX6_finds_160 : decode cX6_finds 160 = .ok (.iconst 1, 1) := by decide +kernel
theorem dX6_finds_161 : decode cX6_finds 161 = .ok (.isub, 1) := by decide +kernel
theorem dX6_finds_162 : decode cX6_finds 162 = .ok (.iaload, 1) := by decide +kernel
theorem dX6_finds_163 : decode cX6_finds 163 = .ok (.iadd, 1) := by decide +kernel
theorem dX6_finds_164 : decode cX6_finds 164 = .ok (.iaload, 1) := by decide +kernel
theorem dX6_finds_165 : decode cX6_finds 165 = .ok (.istore 5, 2) := by decide +kernel
theorem dX6_finds_167 : decode cX6_finds 167 = .ok (.aload_n 0, 1) := by decide +kernel
theorem dX6_finds_168 : decode cX6_finds 168 = .ok (.getfield 19, 3) := by decide +kernel
theorem dX6_finds_171 : decode cX6_finds 171 = .ok (.iload_n 2, 1) := by decide +kernel
theorem dX6_finds_172 : decode cX6_finds 172 = .ok (.iaload, 1) := by decide +kernel
theorem dX6_finds_173 : decode cX6_finds 173 = .ok (.iconst 3, 1) := by decide +kernel
theorem dX6_finds_174 : decode cX6_finds 174 = .ok (.isub, 1) := by decide +kernel
theorem dX6_finds_175 : decode cX6_finds 175 = .ok (.istore 6, 2) := by decide +kernel
theorem dX6_finds_177 : decode cX6_finds 177 = .ok (.iload 6, 2) := by decide +kernel
theorem dX6_finds_179 : decode cX6_finds 179 = .ok (.iconst 1, 1) := by decide +kernel
theorem dX6_finds_180 : decode cX6_finds 180 = .ok (.if_icmp .lt 51, 3) := by decide +kernel
theorem dX6_finds_183 : decode cX6_finds 183 = .ok (.aload_n 0, 1) := by decide +kernel
theorem dX6_finds_184 : decode cX6_finds 184 = .ok (.getfield 50, 3) := by decide +kernel
theorem dX6_finds_187 : decode cX6_finds 187 = .ok (.iload 4, 2) := by decide +kernel
theorem dX6_finds_189 : decode cX6_finds 189 = .ok (.iconst 1, 1) := by decide +kernel
theorem dX6_finds_190 : decode cX6_finds 190 = .ok (.isub, 1) := by decide +kernel
theorem dX6_finds_191 : decode cX6_finds 191 = .ok (.iaload, 1) := by decide +kernel
theorem dX6_finds_192 : decode cX6_finds 192 = .ok (.iload 6, 2) := by decide +kernel
theorem dX6_finds_194 : decode cX6_finds 194 = .ok (.invokestatic 98, 3) := by decide +kernel
theorem dX6_finds_197 : decode cX6_finds 197 = .ok (.aload_n 0, 1) := by decide +kernel
theorem dX6_finds_198 : decode cX6_finds 198 = .ok (.getfield 47, 3) := by decide +kernel
theorem dX6_finds_201 : decode cX6_finds 201 = .ok (.bipush 14, 2) := by decide +kernel
theorem dX6_finds_203 : decode cX6_finds 203 = .ok (.iload 4, 2) := by decide +kernel
theorem dX6_finds_205 : decode cX6_finds 205 = .ok (.imul, 1) := by decide +kernel
theorem dX6_finds_206 : decode cX6_finds 206 = .ok (.iload 6, 2) := by decide +kernel
theorem dX6_finds_208 : decode cX6_finds 208 = .ok (.iadd, 1) := by decide +kernel
theorem dX6_finds_209 : decode cX6_finds 209 = .ok (.iaload, 1) := by decide +kernel
theorem dX6_finds_210 : decode cX6_finds 210 = .ok (.iadd, 1) := by decide +kernel
theorem dX6_finds_211 : decode cX6_finds 211 = .ok (.iload 5, 2) := by decide +kernel
theorem dX6_finds_213 : decode cX6_finds 213 = .ok (.if_icmp .ne 12, 3) := by decide +kernel
theorem dX6_finds_216 : decode cX6_finds 216 = .ok (.aload_n 0, 1) := by decide +kernel
theorem dX6_finds_217 : decode cX6_finds 217 = .ok (.getfield 50, 3) := by decide +kernel
theorem dX6_finds_220 : decode cX6_finds 220 = .ok (.iload 4, 2) := by decide +kernel
theorem dX6_finds_222 : decode cX6_finds 222 = .ok (.iload 6, 2) := by decide +kernel
theorem dX6_finds_224 : decode cX6_finds 224 = .ok (.iastore, 1) := by decide +kernel
theorem dX6_finds_225 : decode cX6_finds 225 = .ok (.iinc 6 (-1), 3) := by decide +kernel
theorem dX6_finds_228 : decode cX6_finds 228 = .ok (.goto (-51), 3) := by decide +kernel
theorem dX6_finds_231 : decode cX6_finds 231 = .ok (.iinc 4 1, 3) := by decide +kernel
theorem dX6_finds_234 : decode cX6_finds 234 = .ok (.goto (-108), 3) := by decide +kernel
theorem dX6_finds_237 : decode cX6_finds 237 = .ok (.iload_n 3, 1) := by decide +kernel
theorem dX6_finds_238 : decode cX6_finds 238 = .ok (.ldc 97, 2) := by decide +kernel
theorem dX6_finds_240 : decode cX6_finds 240 = .ok (.if_icmp .ge 7, 3) := by decide +kernel
theorem dX6_finds_243 : decode cX6_finds 243 = .ok (.iload_n 3, 1) := by decide +kernel
theorem dX6_finds_244 : decode cX6_finds 244 = .ok (.goto 4, 3) := by decide +kernel
theorem dX6_finds_247 : decode cX6_finds 247 = .ok (.iconst (-1), 1) := by decide +kernel
theorem dX6_finds_248 : decode cX6_finds 248 = .ok (.ireturn, 1) := by decide +kernel
theorem dX6_asks_0 : decode cX6_asks 0 = .ok (.aload_n 0, 1) := by decide +kernel
theorem dX6_asks_1 : decode cX6_asks 1 = .ok (.aload_n 0, 1) := by decide +kernel
theorem dX6_asks_2 : decode cX6_asks 2 = .ok (.iload_n 1, 1) := by decide +kernel
theorem dX6_asks_3 : decode cX6_asks 3 = .ok (.invokevirtual 64, 3) := by decide +kernel
theorem dX6_asks_6 : decode cX6_asks 6 = .ok (.ifCond .eq 15, 3) := by decide +kernel
theorem dX6_asks_9 : decode cX6_asks 9 = .ok (.aload_n 0, 1) := by decide +kernel
theorem dX6_asks_10 : decode cX6_asks 10 = .ok (.iload_n 2, 1) := by decide +kernel
theorem dX6_asks_11 : decode cX6_asks 11 = .ok (.invokevirtual 82, 3) := by decide +kernel
theorem dX6_asks_14 : decode cX6_asks 14 = .ok (.ifCond .eq 7, 3) := by decide +kernel
theorem dX6_asks_17 : decode cX6_asks 17 = .ok (.iconst 1, 1) := by decide +kernel
theorem dX6_asks_18 : decode cX6_asks 18 = .ok (.goto 4, 3) := by decide +kernel
theorem dX6_asks_21 : decode cX6_asks 21 = .ok (.iconst 0, 1) := by decide +kernel
theorem dX6_asks_22 : decode cX6_asks 22 = .ok (.iconst 1, 1) := by decide +kernel
theorem dX6_asks_23 : decode cX6_asks 23 = .ok (.iconst 1, 1) := by decide +kernel
theorem dX6_asks_24 : decode cX6_asks 24 = .ok (.invokevirtual 74, 3) := by decide +kernel
theorem dX6_asks_27 : decode cX6_asks 27 = .ok (.ireturn, 1) := by decide +kernel
theorem dX6_shifts_0 : decode cX6_shifts 0 = .ok (.aload_n 0, 1) := by decide +kernel
theorem dX6_shifts_1 : decode cX6_shifts 1 = .ok (.iload_n 1, 1) := by decide +kernel
theorem dX6_shifts_2 : decode cX6_shifts 2 = .ok (.iload_n 2, 1) := by decide +kernel
theorem dX6_shifts_3 : decode cX6_shifts 3 = .ok (.invokevirtual 106, 3) := by decide +kernel
theorem dX6_shifts_6 : decode cX6_shifts 6 = .ok (.ifCond .eq 12, 3) := by decide +kernel
theorem dX6_shifts_9 : decode cX6_shifts 9 = .ok (.aload_n 0, 1) := by decide +kernel
theorem dX6_shifts_10 : decode cX6_shifts 10 = .ok (.iload_n 1, 1) := by decide +kernel
theorem dX6_shifts_11 : decode cX6_shifts 11 = .ok (.iload_n 2, 1) := by decide +kernel
theorem dX6_shifts_12 : decode cX6_shifts 12 = .ok (.invokevirtual 109, 3) := by decide +kernel
theorem dX6_shifts_15 : decode cX6_shifts 15 = .ok (.goto 4, 3) := by decide +kernel
theorem dX6_shifts_18 : decode cX6_shifts 18 = .ok (.iconst 0, 1) := by decide +kernel
theorem dX6_shifts_19 : decode cX6_shifts 19 = .ok (.ireturn, 1) := by decide +kernel
theorem dX6_shiftsByAll_0 : decode cX6_shiftsByAll 0 = .ok (.aload_n 0, 1) := by decide +kernel
theorem dX6_shiftsByAll_1 : decode cX6_shiftsByAll 1 = .ok (.iload_n 1, 1) := by decide +kernel
theorem dX6_shiftsByAll_2 : decode cX6_shiftsByAll 2 = .ok (.invokevirtual 64, 3) := by decide +kernel
theorem dX6_shiftsByAll_5 : decode cX6_shiftsByAll 5 = .ok (.ifCond .eq 15, 3) := by decide +kernel
theorem dX6_shiftsByAll_8 : decode cX6_shiftsByAll 8 = .ok (.aload_n 0, 1) := by decide +kernel
theorem dX6_shiftsByAll_9 : decode cX6_shiftsByAll 9 = .ok (.iload_n 2, 1) := by decide +kernel
theorem dX6_shiftsByAll_10 : decode cX6_shiftsByAll 10 = .ok (.invokevirtual 82, 3) := by decide +kernel
theorem dX6_shiftsByAll_13 : decode cX6_shiftsByAll 13 = .ok (.ifCond .eq 7, 3) := by decide +kernel
theorem dX6_shiftsByAll_16 : decode cX6_shiftsByAll 16 = .ok (.iconst 1, 1) := by decide +kernel
theorem dX6_shiftsByAll_17 : decode cX6_shiftsByAll 17 = .ok (.goto 4, 3) := by decide +kernel
theorem dX6_shiftsByAll_20 : decode cX6_shiftsByAll 20 = .ok (.iconst 0, 1) := by decide +kernel
theorem dX6_shiftsByAll_21 : decode cX6_shiftsByAll 21 = .ok (.istore_n 3, 1) := by decide +kernel
theorem dX6_shiftsByAll_22 : decode cX6_shiftsByAll 22 = .ok (.aload_n 0, 1) := by decide +kernel
theorem dX6_shiftsByAll_23 : decode cX6_shiftsByAll 23 = .ok (.iload_n 3, 1) := by decide +kernel
theorem dX6_shiftsByAll_24 : decode cX6_shiftsByAll 24 = .ok (.iload_n 3, 1) := by decide +kernel
theorem dX6_shiftsByAll_25 : decode cX6_shiftsByAll 25 = .ok (.ifCond .eq 17, 3) := by decide +kernel
theorem dX6_shiftsByAll_28 : decode cX6_shiftsByAll 28 = .ok (.aload_n 0, 1) := by decide +kernel
theorem dX6_shiftsByAll_29 : decode cX6_shiftsByAll 29 = .ok (.getfield 7, 3) := by decide +kernel
theorem dX6_shiftsByAll_32 : decode cX6_shiftsByAll 32 = .ok (.iload_n 1, 1) := by decide +kernel
theorem dX6_shiftsByAll_33 : decode cX6_shiftsByAll 33 = .ok (.iaload, 1) := by decide +kernel
theorem dX6_shiftsByAll_34 : decode cX6_shiftsByAll 34 = .ok (.iconst 4, 1) := by decide +kernel
theorem dX6_shiftsByAll_35 : decode cX6_shiftsByAll 35 = .ok (.if_icmp .gt 7, 3) := by decide +kernel
theorem dX6_shiftsByAll_38 : decode cX6_shiftsByAll 38 = .ok (.iconst 1, 1) := by decide +kernel
theorem dX6_shiftsByAll_39 : decode cX6_shiftsByAll 39 = .ok (.goto 4, 3) := by decide +kernel
theorem dX6_shiftsByAll_42 : decode cX6_shiftsByAll 42 = .ok (.iconst 0, 1) := by decide +kernel
theorem dX6_shiftsByAll_43 : decode cX6_shiftsByAll 43 = .ok (.iconst 1, 1) := by decide +kernel
theorem dX6_shiftsByAll_44 : decode cX6_shiftsByAll 44 = .ok (.invokevirtual 74, 3) := by decide +kernel
theorem dX6_shiftsByAll_47 : decode cX6_shiftsByAll 47 = .ok (.ifCond .eq 12, 3) := by decide +kernel
theorem dX6_shiftsByAll_50 : decode cX6_shiftsByAll 50 = .ok (.aload_n 0, 1) := by decide +kernel
theorem dX6_shiftsByAll_51 : decode cX6_shiftsByAll 51 = .ok (.iload_n 1, 1) := by decide +kernel
theorem dX6_shiftsByAll_52 : decode cX6_shiftsByAll 52 = .ok (.iload_n 2, 1) := by decide +kernel
theorem dX6_shiftsByAll_53 : decode cX6_shiftsByAll 53 = .ok (.invokevirtual 109, 3) := by decide +kernel
theorem dX6_shiftsByAll_56 : decode cX6_shiftsByAll 56 = .ok (.goto 4, 3) := by decide +kernel
theorem dX6_shiftsByAll_59 : decode cX6_shiftsByAll 59 = .ok (.iconst 0, 1) := by decide +kernel
theorem dX6_shiftsByAll_60 : decode cX6_shiftsByAll 60 = .ok (.ireturn, 1) := by decide +kernel
theorem dX6_hardestOf_0 : decode cX6_hardestOf 0 = .ok (.aload_n 0, 1) := by decide +kernel
theorem dX6_hardestOf_1 : decode cX6_hardestOf 1 = .ok (.iload_n 1, 1) := by decide +kernel
theorem dX6_hardestOf_2 : decode cX6_hardestOf 2 = .ok (.iload_n 2, 1) := by decide +kernel
theorem dX6_hardestOf_3 : decode cX6_hardestOf 3 = .ok (.invokevirtual 109, 3) := by decide +kernel
theorem dX6_hardestOf_6 : decode cX6_hardestOf 6 = .ok (.iconst (-1), 1) := by decide +kernel
theorem dX6_hardestOf_7 : decode cX6_hardestOf 7 = .ok (.if_icmp .ne 5, 3) := by decide +kernel
theorem dX6_hardestOf_10 : decode cX6_hardestOf 10 = .ok (.iconst (-1), 1) := by decide +kernel
theorem dX6_hardestOf_11 : decode cX6_hardestOf 11 = .ok (.ireturn, 1) := by decide +kernel
theorem dX6_hardestOf_12 : decode cX6_hardestOf 12 = .ok (.iconst 0, 1) := by decide +kernel
theorem dX6_hardestOf_13 : decode cX6_hardestOf 13 = .ok (.istore_n 3, 1) := by decide +kernel
theorem dX6_hardestOf_14 : decode cX6_hardestOf 14 = .ok (.iconst 1, 1) := by decide +kernel
theorem dX6_hardestOf_15 : decode cX6_hardestOf 15 = .ok (.istore 4, 2) := by decide +kernel
theorem dX6_hardestOf_17 : decode cX6_hardestOf 17 = .ok (.iload 4, 2) := by decide +kernel
theorem dX6_hardestOf_19 : decode cX6_hardestOf 19 = .ok (.aload_n 0, 1) := by decide +kernel
theorem dX6_hardestOf_20 : decode cX6_hardestOf 20 = .ok (.getfield 7, 3) := by decide +kernel
theorem dX6_hardestOf_23 : decode cX6_hardestOf 23 = .ok (.iload_n 1, 1) := by decide +kernel
theorem dX6_hardestOf_24 : decode cX6_hardestOf 24 = .ok (.iaload, 1) := by decide +kernel
theorem dX6_hardestOf_25 : decode cX6_hardestOf 25 = .ok (.if_icmp .ge 43, 3) := by decide +kernel
theorem dX6_hardestOf_28 : decode cX6_hardestOf 28 = .ok (.aload_n 0, 1) := by decide +kernel
theorem dX6_hardestOf_29 : decode cX6_hardestOf 29 = .ok (.getfield 50, 3) := by decide +kernel
theorem dX6_hardestOf_32 : decode cX6_hardestOf 32 = .ok (.iload 4, 2) := by decide +kernel
theorem dX6_hardestOf_34 : decode cX6_hardestOf 34 = .ok (.iconst 1, 1) := by decide +kernel
theorem dX6_hardestOf_35 : decode cX6_hardestOf 35 = .ok (.isub, 1) := by decide +kernel
theorem dX6_hardestOf_36 : decode cX6_hardestOf 36 = .ok (.iaload, 1) := by decide +kernel
theorem dX6_hardestOf_37 : decode cX6_hardestOf 37 = .ok (.aload_n 0, 1) := by decide +kernel
theorem dX6_hardestOf_38 : decode cX6_hardestOf 38 = .ok (.getfield 50, 3) := by decide +kernel
theorem dX6_hardestOf_41 : decode cX6_hardestOf 41 = .ok (.iload 4, 2) := by decide +kernel
theorem dX6_hardestOf_43 : decode cX6_hardestOf 43 = .ok (.iaload, 1) := by decide +kernel
theorem dX6_hardestOf_44 : decode cX6_hardestOf 44 = .ok (.invokestatic 98, 3) := by decide +kernel
theorem dX6_hardestOf_47 : decode cX6_hardestOf 47 = .ok (.istore 5, 2) := by decide +kernel
theorem dX6_hardestOf_49 : decode cX6_hardestOf 49 = .ok (.iload 5, 2) := by decide +kernel
theorem dX6_hardestOf_51 : decode cX6_hardestOf 51 = .ok (.iload_n 3, 1) := by decide +kernel
theorem dX6_hardestOf_52 : decode cX6_hardestOf 52 = .ok (.if_icmp .le 8, 3) := by decide +kernel
theorem dX6_hardestOf_55 : decode cX6_hardestOf 55 = .ok (.iload 5, 2) := by decide +kernel
theorem dX6_hardestOf_57 : decode cX6_hardestOf 57 = .ok (.goto 4, 3) := by decide +kernel
theorem dX6_hardestOf_60 : decode cX6_hardestOf 60 = .ok (.iload_n 3, 1) := by decide +kernel
theorem dX6_hardestOf_61 : decode cX6_hardestOf 61 = .ok (.istore_n 3, 1) := by decide +kernel
theorem dX6_hardestOf_62 : decode cX6_hardestOf 62 = .ok (.iinc 4 1, 3) := by decide +kernel
theorem dX6_hardestOf_65 : decode cX6_hardestOf 65 = .ok (.goto (-48), 3) := by decide +kernel
theorem dX6_hardestOf_68 : decode cX6_hardestOf 68 = .ok (.iload_n 3, 1) := by decide +kernel
theorem dX6_hardestOf_69 : decode cX6_hardestOf 69 = .ok (.ireturn, 1) := by decide +kernel
theorem dX6_hardest_0 : decode cX6_hardest 0 = .ok (.aload_n 0, 1) := by decide +kernel
theorem dX6_hardest_1 : decode cX6_hardest 1 = .ok (.iload_n 1, 1) := by decide +kernel
theorem dX6_hardest_2 : decode cX6_hardest 2 = .ok (.iload_n 2, 1) := by decide +kernel
theorem dX6_hardest_3 : decode cX6_hardest 3 = .ok (.invokevirtual 106, 3) := by decide +kernel
theorem dX6_hardest_6 : decode cX6_hardest 6 = .ok (.ifCond .eq 12, 3) := by decide +kernel
theorem dX6_hardest_9 : decode cX6_hardest 9 = .ok (.aload_n 0, 1) := by decide +kernel
theorem dX6_hardest_10 : decode cX6_hardest 10 = .ok (.iload_n 1, 1) := by decide +kernel
theorem dX6_hardest_11 : decode cX6_hardest 11 = .ok (.iload_n 2, 1) := by decide +kernel
theorem dX6_hardest_12 : decode cX6_hardest 12 = .ok (.invokevirtual 112, 3) := by decide +kernel
theorem dX6_hardest_15 : decode cX6_hardest 15 = .ok (.goto 4, 3) := by decide +kernel
theorem dX6_hardest_18 : decode cX6_hardest 18 = .ok (.iconst 0, 1) := by decide +kernel
theorem dX6_hardest_19 : decode cX6_hardest 19 = .ok (.ireturn, 1) := by decide +kernel
theorem dX6_asksNote_0 : decode cX6_asksNote 0 = .ok (.aload_n 0, 1) := by decide +kernel
theorem dX6_asksNote_1 : decode cX6_asksNote 1 = .ok (.aload_n 0, 1) := by decide +kernel
theorem dX6_asksNote_2 : decode cX6_asksNote 2 = .ok (.iload_n 1, 1) := by decide +kernel
theorem dX6_asksNote_3 : decode cX6_asksNote 3 = .ok (.iload_n 2, 1) := by decide +kernel
theorem dX6_asksNote_4 : decode cX6_asksNote 4 = .ok (.invokevirtual 78, 3) := by decide +kernel
theorem dX6_asksNote_7 : decode cX6_asksNote 7 = .ok (.ifCond .eq 15, 3) := by decide +kernel
theorem dX6_asksNote_10 : decode cX6_asksNote 10 = .ok (.aload_n 0, 1) := by decide +kernel
theorem dX6_asksNote_11 : decode cX6_asksNote 11 = .ok (.iload_n 3, 1) := by decide +kernel
theorem dX6_asksNote_12 : decode cX6_asksNote 12 = .ok (.invokevirtual 82, 3) := by decide +kernel
theorem dX6_asksNote_15 : decode cX6_asksNote 15 = .ok (.ifCond .eq 7, 3) := by decide +kernel
theorem dX6_asksNote_18 : decode cX6_asksNote 18 = .ok (.iconst 1, 1) := by decide +kernel
theorem dX6_asksNote_19 : decode cX6_asksNote 19 = .ok (.goto 4, 3) := by decide +kernel
theorem dX6_asksNote_22 : decode cX6_asksNote 22 = .ok (.iconst 0, 1) := by decide +kernel
theorem dX6_asksNote_23 : decode cX6_asksNote 23 = .ok (.iconst 1, 1) := by decide +kernel
theorem dX6_asksNote_24 : decode cX6_asksNote 24 = .ok (.iconst 1, 1) := by decide +kernel
theorem dX6_asksNote_25 : decode cX6_asksNote 25 = .ok (.invokevirtual 74, 3) := by decide +kernel
theorem dX6_asksNote_28 : decode cX6_asksNote 28 = .ok (.ireturn, 1) := by decide +kernel
theorem dX6_position_0 : decode cX6_position 0 = .ok (.aload_n 0, 1) := by decide +kernel
theorem dX6_position_1 : decode cX6_position 1 = .ok (.iload_n 1, 1) := by decide +kernel
theorem dX6_position_2 : decode cX6_position 2 = .ok (.iload_n 2, 1) := by decide +kernel
theorem dX6_position_3 : decode cX6_position 3 = .ok (.iload_n 3, 1) := by decide +kernel
theorem dX6_position_4 : decode cX6_position 4 = .ok (.invokevirtual 115, 3) := by decide +kernel
theorem dX6_position_7 : decode cX6_position 7 = .ok (.ifCond .ne 7, 3) := by decide +kernel
theorem dX6_position_10 : decode cX6_position 10 = .ok (.iconst 0, 1) := by decide +kernel
theorem dX6_position_11 : decode cX6_position 11 = .ok (.goto 23, 3) := by decide +kernel
theorem dX6_position_14 : decode cX6_position 14 = .ok (.aload_n 0, 1) := by decide +kernel
theorem dX6_position_15 : decode cX6_position 15 = .ok (.iload_n 1, 1) := by decide +kernel
theorem dX6_position_16 : decode cX6_position 16 = .ok (.iload_n 3, 1) := by decide +kernel
theorem dX6_position_17 : decode cX6_position 17 = .ok (.invokevirtual 109, 3) := by decide +kernel
theorem dX6_position_20 : decode cX6_position 20 = .ok (.iconst (-1), 1) := by decide +kernel
theorem dX6_position_21 : decode cX6_position 21 = .ok (.if_icmp .ne 7, 3) := by decide +kernel
theorem dX6_position_24 : decode cX6_position 24 = .ok (.iconst (-1), 1) := by decide +kernel
theorem dX6_position_25 : decode cX6_position 25 = .ok (.goto 9, 3) := by decide +kernel
theorem dX6_position_28 : decode cX6_position 28 = .ok (.aload_n 0, 1) := by decide +kernel
theorem dX6_position_29 : decode cX6_position 29 = .ok (.getfield 50, 3) := by decide +kernel
theorem dX6_position_32 : decode cX6_position 32 = .ok (.iload_n 2, 1) := by decide +kernel
theorem dX6_position_33 : decode cX6_position 33 = .ok (.iaload, 1) := by decide +kernel
theorem dX6_position_34 : decode cX6_position 34 = .ok (.ireturn, 1) := by decide +kernel
theorem dX6_string_0 : decode cX6_string 0 = .ok (.aload_n 0, 1) := by decide +kernel
theorem dX6_string_1 : decode cX6_string 1 = .ok (.iload_n 1, 1) := by decide +kernel
theorem dX6_string_2 : decode cX6_string 2 = .ok (.iload_n 2, 1) := by decide +kernel
theorem dX6_string_3 : decode cX6_string 3 = .ok (.iload_n 3, 1) := by decide +kernel
theorem dX6_string_4 : decode cX6_string 4 = .ok (.invokevirtual 115, 3) := by decide +kernel
theorem dX6_string_7 : decode cX6_string 7 = .ok (.ifCond .ne 5, 3) := by decide +kernel
theorem dX6_string_10 : decode cX6_string 10 = .ok (.iconst 0, 1) := by decide +kernel
theorem dX6_string_11 : decode cX6_string 11 = .ok (.ireturn, 1) := by decide +kernel
theorem dX6_string_12 : decode cX6_string 12 = .ok (.aload_n 0, 1) := by decide +kernel
theorem dX6_string_13 : decode cX6_string 13 = .ok (.iload_n 1, 1) := by decide +kernel
theorem dX6_string_14 : decode cX6_string 14 = .ok (.iload_n 3, 1) := by decide +kernel
theorem dX6_string_15 : decode cX6_string 15 = .ok (.invokevirtual 109, 3) := by decide +kernel
theorem dX6_string_18 : decode cX6_string 18 = .ok (.iconst (-1), 1) := by decide +kernel
theorem dX6_string_19 : decode cX6_string 19 = .ok (.if_icmp .ne 5, 3) := by decide +kernel
theorem dX6_string_22 : decode cX6_string 22 = .ok (.iconst (-1), 1) := by decide +kernel
theorem dX6_string_23 : decode cX6_string 23 = .ok (.ireturn, 1) := by decide +kernel
theorem dX6_string_24 : decode cX6_string 24 = .ok (.iconst (-1), 1) := by decide +kernel
theorem dX6_string_25 : decode cX6_string 25 = .ok (.istore 4, 2) := by decide +kernel
theorem dX6_string_27 : decode cX6_string 27 = .ok (.iconst 3, 1) := by decide +kernel
theorem dX6_string_28 : decode cX6_string 28 = .ok (.istore 5, 2) := by decide +kernel
theorem dX6_string_30 : decode cX6_string 30 = .ok (.iload 5, 2) := by decide +kernel
theorem dX6_string_32 : decode cX6_string 32 = .ok (.ifCond .lt 36, 3) := by decide +kernel
theorem dX6_string_35 : decode cX6_string 35 = .ok (.aload_n 0, 1) := by decide +kernel
theorem dX6_string_36 : decode cX6_string 36 = .ok (.iload_n 1, 1) := by decide +kernel
theorem dX6_string_37 : decode cX6_string 37 = .ok (.iload_n 2, 1) := by decide +kernel
theorem dX6_string_38 : decode cX6_string 38 = .ok (.iload_n 3, 1) := by decide +kernel
theorem dX6_string_39 : decode cX6_string 39 = .ok (.iload 5, 2) := by decide +kernel
theorem dX6_string_41 : decode cX6_string 41 = .ok (.aload_n 0, 1) := by decide +kernel
theorem dX6_string_42 : decode cX6_string 42 = .ok (.getfield 50, 3) := by decide +kernel
theorem dX6_string_45 : decode cX6_string 45 = .ok (.iload_n 2, 1) := by decide +kernel
theorem dX6_string_46 : decode cX6_string 46 = .ok (.iaload, 1) := by decide +kernel
theorem dX6_string_47 : decode cX6_string 47 = .ok (.invokevirtual 89, 3) := by decide +kernel
theorem dX6_string_50 : decode cX6_string 50 = .ok (.ifCond .eq 8, 3) := by decide +kernel
theorem dX6_string_53 : decode cX6_string 53 = .ok (.iload 5, 2) := by decide +kernel
theorem dX6_string_55 : decode cX6_string 55 = .ok (.goto 5, 3) := by decide +kernel
theorem dX6_string_58 : decode cX6_string 58 = .ok (.iload 4, 2) := by decide +kernel
theorem dX6_string_60 : decode cX6_string 60 = .ok (.istore 4, 2) := by decide +kernel
theorem dX6_string_62 : decode cX6_string 62 = .ok (.iinc 5 (-1), 3) := by decide +kernel
theorem dX6_string_65 : decode cX6_string 65 = .ok (.goto (-35), 3) := by decide +kernel
theorem dX6_string_68 : decode cX6_string 68 = .ok (.iload 4, 2) := by decide +kernel
theorem dX6_string_70 : decode cX6_string 70 = .ok (.ireturn, 1) := by decide +kernel
theorem dX6_isKnown_0 : decode cX6_isKnown 0 = .ok (.aload_n 0, 1) := by decide +kernel
theorem dX6_isKnown_1 : decode cX6_isKnown 1 = .ok (.getfield 28, 3) := by decide +kernel
theorem dX6_isKnown_4 : decode cX6_isKnown 4 = .ok (.iload_n 1, 1) := by decide +kernel
theorem dX6_isKnown_5 : decode cX6_isKnown 5 = .ok (.iaload, 1) := by decide +kernel
theorem dX6_isKnown_6 : decode cX6_isKnown 6 = .ok (.iload_n 2, 1) := by decide +kernel
theorem dX6_isKnown_7 : decode cX6_isKnown 7 = .ok (.ishr, 1) := by decide +kernel
theorem dX6_isKnown_8 : decode cX6_isKnown 8 = .ok (.iconst 1, 1) := by decide +kernel
theorem dX6_isKnown_9 : decode cX6_isKnown 9 = .ok (.iand, 1) := by decide +kernel
theorem dX6_isKnown_10 : decode cX6_isKnown 10 = .ok (.iconst 1, 1) := by decide +kernel
theorem dX6_isKnown_11 : decode cX6_isKnown 11 = .ok (.if_icmp .ne 7, 3) := by decide +kernel
theorem dX6_isKnown_14 : decode cX6_isKnown 14 = .ok (.iconst 1, 1) := by decide +kernel
theorem dX6_isKnown_15 : decode cX6_isKnown 15 = .ok (.goto 4, 3) := by decide +kernel
theorem dX6_isKnown_18 : decode cX6_isKnown 18 = .ok (.iconst 0, 1) := by decide +kernel
theorem dX6_isKnown_19 : decode cX6_isKnown 19 = .ok (.ireturn, 1) := by decide +kernel
theorem dX6_canLearn_0 : decode cX6_canLearn 0 = .ok (.aload_n 0, 1) := by decide +kernel
theorem dX6_canLearn_1 : decode cX6_canLearn 1 = .ok (.iload_n 2, 1) := by decide +kernel
theorem dX6_canLearn_2 : decode cX6_canLearn 2 = .ok (.iload_n 3, 1) := by decide +kernel
theorem dX6_canLearn_3 : decode cX6_canLearn 3 = .ok (.invokevirtual 112, 3) := by decide +kernel
theorem dX6_canLearn_6 : decode cX6_canLearn 6 = .ok (.istore 4, 2) := by decide +kernel
theorem dX6_canLearn_8 : decode cX6_canLearn 8 = .ok (.aload_n 0, 1) := by decide +kernel
theorem dX6_canLearn_9 : decode cX6_canLearn 9 = .ok (.getfield 16, 3) := by decide +kernel
theorem dX6_canLearn_12 : decode cX6_canLearn 12 = .ok (.iload_n 3, 1) := by decide +kernel
theorem dX6_canLearn_13 : decode cX6_canLearn 13 = .ok (.iaload, 1) := by decide +kernel
theorem dX6_canLearn_14 : decode cX6_canLearn 14 = .ok (.iload_n 1, 1) := by decide +kernel
theorem dX6_canLearn_15 : decode cX6_canLearn 15 = .ok (.if_icmp .ne 33, 3) := by decide +kernel
theorem dX6_canLearn_18 : decode cX6_canLearn 18 = .ok (.aload_n 0, 1) := by decide +kernel
theorem dX6_canLearn_19 : decode cX6_canLearn 19 = .ok (.iload_n 1, 1) := by decide +kernel
theorem dX6_canLearn_20 : decode cX6_canLearn 20 = .ok (.iload_n 2, 1) := by decide +kernel
theorem dX6_canLearn_21 : decode cX6_canLearn 21 = .ok (.invokevirtual 118, 3) := by decide +kernel
theorem dX6_canLearn_24 : decode cX6_canLearn 24 = .ok (.ifCond .ne 24, 3) := by decide +kernel
theorem dX6_canLearn_27 : decode cX6_canLearn 27 = .ok (.iload 4, 2) := by decide +kernel
theorem dX6_canLearn_29 : decode cX6_canLearn 29 = .ok (.iconst (-1), 1) := by decide +kernel
theorem dX6_canLearn_30 : decode cX6_canLearn 30 = .ok (.if_icmp .eq 18, 3) := by decide +kernel
theorem dX6_canLearn_33 : decode cX6_canLearn 33 = .ok (.iload 4, 2) := by decide +kernel
theorem dX6_canLearn_35 : decode cX6_canLearn 35 = .ok (.aload_n 0, 1) := by decide +kernel
theorem dX6_canLearn_36 : decode cX6_canLearn 36 = .ok (.getfield 25, 3) := by decide +kernel
theorem dX6_canLearn_39 : decode cX6_canLearn 39 = .ok (.iload_n 1, 1) := by decide +kernel
theorem dX6_canLearn_40 : decode cX6_canLearn 40 = .ok (.iaload, 1) := by decide +kernel
theorem dX6_canLearn_41 : decode cX6_canLearn 41 = .ok (.if_icmp .gt 7, 3) := by decide +kernel
theorem dX6_canLearn_44 : decode cX6_canLearn 44 = .ok (.iconst 1, 1) := by decide +kernel
theorem dX6_canLearn_45 : decode cX6_canLearn 45 = .ok (.goto 4, 3) := by decide +kernel
theorem dX6_canLearn_48 : decode cX6_canLearn 48 = .ok (.iconst 0, 1) := by decide +kernel
theorem dX6_canLearn_49 : decode cX6_canLearn 49 = .ok (.ireturn, 1) := by decide +kernel
theorem dX6_learn_0 : decode cX6_learn 0 = .ok (.aload_n 0, 1) := by decide +kernel
theorem dX6_learn_1 : decode cX6_learn 1 = .ok (.iload_n 2, 1) := by decide +kernel
theorem dX6_learn_2 : decode cX6_learn 2 = .ok (.invokevirtual 64, 3) := by decide +kernel
theorem dX6_learn_5 : decode cX6_learn 5 = .ok (.ifCond .eq 15, 3) := by decide +kernel

theorem d_Mo_offFour_197 : decode b_Mo_offFour 197 = .ok (.istore 5, 2) := by decide +kernel
theorem d_Mo_offFour_199 : decode b_Mo_offFour 199 = .ok (.iload 6, 2) := by decide +kernel
theorem d_Mo_offFour_201 : decode b_Mo_offFour 201 = .ok (.iload 10, 2) := by decide +kernel
theorem d_Mo_offFour_203 : decode b_Mo_offFour 203 = .ok (.ixor, 1) := by decide +kernel
theorem d_Mo_offFour_204 : decode b_Mo_offFour 204 = .ok (.aload_n 0, 1) := by decide +kernel
theorem d_Mo_offFour_205 : decode b_Mo_offFour 205 = .ok (.getfield 53, 3) := by decide +kernel
theorem d_Mo_offFour_208 : decode b_Mo_offFour 208 = .ok (.iload 7, 2) := by decide +kernel
theorem d_Mo_offFour_210 : decode b_Mo_offFour 210 = .ok (.iconst 3, 1) := by decide +kernel
theorem d_Mo_offFour_211 : decode b_Mo_offFour 211 = .ok (.iadd, 1) := by decide +kernel
theorem d_Mo_offFour_212 : decode b_Mo_offFour 212 = .ok (.iaload, 1) := by decide +kernel
theorem d_Mo_offFour_213 : decode b_Mo_offFour 213 = .ok (.invokestatic 135, 3) := by decide +kernel
theorem d_Mo_offFour_216 : decode b_Mo_offFour 216 = .ok (.invokestatic 75, 3) := by decide +kernel
theorem d_Mo_offFour_219 : decode b_Mo_offFour 219 = .ok (.istore 6, 2) := by decide +kernel
theorem d_Mo_offFour_221 : decode b_Mo_offFour 221 = .ok (.iinc 7 (-6), 3) := by decide +kernel
theorem d_Mo_offFour_224 : decode b_Mo_offFour 224 = .ok (.goto (-145), 3) := by decide +kernel
theorem d_Mo_offFour_227 : decode b_Mo_offFour 227 = .ok (.iload_n 3, 1) := by decide +kernel
theorem d_Mo_offFour_228 : decode b_Mo_offFour 228 = .ok (.iload 4, 2) := by decide +kernel
theorem d_Mo_offFour_230 : decode b_Mo_offFour 230 = .ok (.iload 5, 2) := by decide +kernel
theorem d_Mo_offFour_232 : decode b_Mo_offFour 232 = .ok (.iload 6, 2) := by decide +kernel
theorem d_Mo_offFour_234 : decode b_Mo_offFour 234 = .ok (.invokestatic 131, 3) := by decide +kernel
theorem d_Mo_offFour_237 : decode b_Mo_offFour 237 = .ok (.lreturn, 1) := by decide +kernel
theorem d_Mo_part_0 : decode b_Mo_part 0 = .ok (.lload_n 0, 1) := by decide +kernel
theorem d_Mo_part_1 : decode b_Mo_part 1 = .ok (.bipush 48, 2) := by decide +kernel
theorem d_Mo_part_3 : decode b_Mo_part 3 = .ok (.bipush 16, 2) := by decide +kernel
theorem d_Mo_part_5 : decode b_Mo_part 5 = .ok (.iload_n 2, 1) := by decide +kernel
theorem d_Mo_part_6 : decode b_Mo_part 6 = .ok (.imul, 1) := by decide +kernel
theorem d_Mo_part_7 : decode b_Mo_part 7 = .ok (.isub, 1) := by decide +kernel
theorem d_Mo_part_8 : decode b_Mo_part 8 = .ok (.lushr, 1) := by decide +kernel
theorem d_Mo_part_9 : decode b_Mo_part 9 = .ok (.l2i, 1) := by decide +kernel
theorem d_Mo_part_10 : decode b_Mo_part 10 = .ok (.ldc 74, 2) := by decide +kernel
theorem d_Mo_part_12 : decode b_Mo_part 12 = .ok (.iand, 1) := by decide +kernel
theorem d_Mo_part_13 : decode b_Mo_part 13 = .ok (.ireturn, 1) := by decide +kernel
theorem d_Mo_inverse_0 : decode b_Mo_inverse 0 = .ok (.iconst 1, 1) := by decide +kernel
theorem d_Mo_inverse_1 : decode b_Mo_inverse 1 = .ok (.istore_n 1, 1) := by decide +kernel
theorem d_Mo_inverse_2 : decode b_Mo_inverse 2 = .ok (.iconst 0, 1) := by decide +kernel
theorem d_Mo_inverse_3 : decode b_Mo_inverse 3 = .ok (.istore_n 2, 1) := by decide +kernel
theorem d_Mo_inverse_4 : decode b_Mo_inverse 4 = .ok (.iload_n 2, 1) := by decide +kernel
theorem d_Mo_inverse_5 : decode b_Mo_inverse 5 = .ok (.bipush 16, 2) := by decide +kernel
theorem d_Mo_inverse_7 : decode b_Mo_inverse 7 = .ok (.if_icmp .ge 19, 3) := by decide +kernel
theorem d_Mo_inverse_10 : decode b_Mo_inverse 10 = .ok (.iload_n 1, 1) := by decide +kernel
theorem d_Mo_inverse_11 : decode b_Mo_inverse 11 = .ok (.iload_n 1, 1) := by decide +kernel
theorem d_Mo_inverse_12 : decode b_Mo_inverse 12 = .ok (.invokestatic 75, 3) := by decide +kernel
theorem d_Mo_inverse_15 : decode b_Mo_inverse 15 = .ok (.iload_n 0, 1) := by decide +kernel
theorem d_Mo_inverse_16 : decode b_Mo_inverse 16 = .ok (.invokestatic 75, 3) := by decide +kernel
theorem d_Mo_inverse_19 : decode b_Mo_inverse 19 = .ok (.istore_n 1, 1) := by decide +kernel
theorem d_Mo_inverse_20 : decode b_Mo_inverse 20 = .ok (.iinc 2 1, 3) := by decide +kernel
theorem d_Mo_inverse_23 : decode b_Mo_inverse 23 = .ok (.goto (-19), 3) := by decide +kernel
theorem d_Mo_inverse_26 : decode b_Mo_inverse 26 = .ok (.iload_n 1, 1) := by decide +kernel
theorem d_Mo_inverse_27 : decode b_Mo_inverse 27 = .ok (.ireturn, 1) := by decide +kernel
theorem d_Mo_times_0 : decode b_Mo_times 0 = .ok (.iload_n 0, 1) := by decide +kernel
theorem d_Mo_times_1 : decode b_Mo_times 1 = .ok (.ifCond .ne 9, 3) := by decide +kernel
theorem d_Mo_times_4 : decode b_Mo_times 4 = .ok (.ldc2_w 70, 3) := by decide +kernel
theorem d_Mo_times_7 : decode b_Mo_times 7 = .ok (.goto 5, 3) := by decide +kernel
theorem d_Mo_times_10 : decode b_Mo_times 10 = .ok (.iload_n 0, 1) := by decide +kernel
theorem d_Mo_times_11 : decode b_Mo_times 11 = .ok (.i2l, 1) := by decide +kernel
theorem d_Mo_times_12 : decode b_Mo_times 12 = .ok (.lstore_n 2, 1) := by decide +kernel
theorem d_Mo_times_13 : decode b_Mo_times 13 = .ok (.iload_n 1, 1) := by decide +kernel
theorem d_Mo_times_14 : decode b_Mo_times 14 = .ok (.ifCond .ne 9, 3) := by decide +kernel
theorem d_Mo_times_17 : decode b_Mo_times 17 = .ok (.ldc2_w 70, 3) := by decide +kernel
theorem d_Mo_times_20 : decode b_Mo_times 20 = .ok (.goto 5, 3) := by decide +kernel
theorem d_Mo_times_23 : decode b_Mo_times 23 = .ok (.iload_n 1, 1) := by decide +kernel
theorem d_Mo_times_24 : decode b_Mo_times 24 = .ok (.i2l, 1) := by decide +kernel
theorem d_Mo_times_25 : decode b_Mo_times 25 = .ok (.lstore 4, 2) := by decide +kernel
theorem d_Mo_times_27 : decode b_Mo_times 27 = .ok (.lload_n 2, 1) := by decide +kernel
theorem d_Mo_times_28 : decode b_Mo_times 28 = .ok (.lload 4, 2) := by decide +kernel
theorem d_Mo_times_30 : decode b_Mo_times 30 = .ok (.lmul, 1) := by decide +kernel
theorem d_Mo_times_31 : decode b_Mo_times 31 = .ok (.ldc2_w 72, 3) := by decide +kernel
theorem d_Mo_times_34 : decode b_Mo_times 34 = .ok (.lrem, 1) := by decide +kernel
theorem d_Mo_times_35 : decode b_Mo_times 35 = .ok (.l2i, 1) := by decide +kernel
theorem d_Mo_times_36 : decode b_Mo_times 36 = .ok (.ldc 74, 2) := by decide +kernel
theorem d_Mo_times_38 : decode b_Mo_times 38 = .ok (.iand, 1) := by decide +kernel
theorem d_Mo_times_39 : decode b_Mo_times 39 = .ok (.ireturn, 1) := by decide +kernel
theorem d_Mo_four_0 : decode b_Mo_four 0 = .ok (.iload_n 0, 1) := by decide +kernel
theorem d_Mo_four_1 : decode b_Mo_four 1 = .ok (.ldc 74, 2) := by decide +kernel
theorem d_Mo_four_3 : decode b_Mo_four 3 = .ok (.iand, 1) := by decide +kernel
theorem d_Mo_four_4 : decode b_Mo_four 4 = .ok (.i2l, 1) := by decide +kernel
theorem d_Mo_four_5 : decode b_Mo_four 5 = .ok (.bipush 48, 2) := by decide +kernel
theorem d_Mo_four_7 : decode b_Mo_four 7 = .ok (.lshl, 1) := by decide +kernel
theorem d_Mo_four_8 : decode b_Mo_four 8 = .ok (.iload_n 1, 1) := by decide +kernel
theorem d_Mo_four_9 : decode b_Mo_four 9 = .ok (.ldc 74, 2) := by decide +kernel
theorem d_Mo_four_11 : decode b_Mo_four 11 = .ok (.iand, 1) := by decide +kernel
theorem d_Mo_four_12 : decode b_Mo_four 12 = .ok (.i2l, 1) := by decide +kernel
theorem d_Mo_four_13 : decode b_Mo_four 13 = .ok (.bipush 32, 2) := by decide +kernel
theorem d_Mo_four_15 : decode b_Mo_four 15 = .ok (.lshl, 1) := by decide +kernel
theorem d_Mo_four_16 : decode b_Mo_four 16 = .ok (.lor, 1) := by decide +kernel
theorem d_Mo_four_17 : decode b_Mo_four 17 = .ok (.iload_n 2, 1) := by decide +kernel
theorem d_Mo_four_18 : decode b_Mo_four 18 = .ok (.ldc 74, 2) := by decide +kernel
theorem d_Mo_four_20 : decode b_Mo_four 20 = .ok (.iand, 1) := by decide +kernel
theorem d_Mo_four_21 : decode b_Mo_four 21 = .ok (.i2l, 1) := by decide +kernel
theorem d_Mo_four_22 : decode b_Mo_four 22 = .ok (.bipush 16, 2) := by decide +kernel
theorem d_Mo_four_24 : decode b_Mo_four 24 = .ok (.lshl, 1) := by decide +kernel
theorem d_Mo_four_25 : decode b_Mo_four 25 = .ok (.lor, 1) := by decide +kernel
theorem d_Mo_four_26 : decode b_Mo_four 26 = .ok (.iload_n 3, 1) := by decide +kernel
theorem d_Mo_four_27 : decode b_Mo_four 27 = .ok (.ldc 74, 2) := by decide +kernel
theorem d_Mo_four_29 : decode b_Mo_four 29 = .ok (.iand, 1) := by decide +kernel
theorem d_Mo_four_30 : decode b_Mo_four 30 = .ok (.i2l, 1) := by decide +kernel
theorem d_Mo_four_31 : decode b_Mo_four 31 = .ok (.lor, 1) := by decide +kernel
theorem d_Mo_four_32 : decode b_Mo_four 32 = .ok (.lreturn, 1) := by decide +kernel
theorem d_Mo_on_0 : decode b_Mo_on 0 = .ok (.lload_n 1, 1) := by decide +kernel
theorem d_Mo_on_1 : decode b_Mo_on 1 = .ok (.invokestatic 78, 3) := by decide +kernel
theorem d_Mo_on_4 : decode b_Mo_on 4 = .ok (.istore_n 3, 1) := by decide +kernel
theorem d_Mo_on_5 : decode b_Mo_on 5 = .ok (.lload_n 1, 1) := by decide +kernel
theorem d_Mo_on_6 : decode b_Mo_on 6 = .ok (.l2i, 1) := by decide +kernel
theorem d_Mo_on_7 : decode b_Mo_on 7 = .ok (.istore 4, 2) := by decide +kernel
theorem d_Mo_on_9 : decode b_Mo_on 9 = .ok (.iconst 0, 1) := by decide +kernel
theorem d_Mo_on_10 : decode b_Mo_on 10 = .ok (.istore 5, 2) := by decide +kernel
theorem d_Mo_on_12 : decode b_Mo_on 12 = .ok (.aload_n 0, 1) := by decide +kernel
theorem d_Mo_on_13 : decode b_Mo_on 13 = .ok (.getfield 84, 3) := by decide +kernel
theorem d_Mo_on_16 : decode b_Mo_on 16 = .ok (.tableswitch 328 0 3 #[32, 129, 217, 268], 32) := by decide +kernel
theorem d_Mo_on_48 : decode b_Mo_on 48 = .ok (.iload_n 3, 1) := by decide +kernel
theorem d_Mo_on_49 : decode b_Mo_on 49 = .ok (.invokestatic 109, 3) := by decide +kernel
theorem d_Mo_on_52 : decode b_Mo_on 52 = .ok (.aload_n 0, 1) := by decide +kernel
theorem d_Mo_on_53 : decode b_Mo_on 53 = .ok (.getfield 53, 3) := by decide +kernel
theorem d_Mo_on_56 : decode b_Mo_on 56 = .ok (.iconst 0, 1) := by decide +kernel
theorem d_Mo_on_57 : decode b_Mo_on 57 = .ok (.iaload, 1) := by decide +kernel
theorem d_Mo_on_58 : decode b_Mo_on 58 = .ok (.iadd, 1) := by decide +kernel
theorem d_Mo_on_59 : decode b_Mo_on 59 = .ok (.istore_n 3, 1) := by decide +kernel
theorem d_Mo_on_60 : decode b_Mo_on 60 = .ok (.iload 4, 2) := by decide +kernel
theorem d_Mo_on_62 : decode b_Mo_on 62 = .ok (.invokestatic 109, 3) := by decide +kernel
theorem d_Mo_on_65 : decode b_Mo_on 65 = .ok (.aload_n 0, 1) := by decide +kernel
theorem d_Mo_on_66 : decode b_Mo_on 66 = .ok (.getfield 53, 3) := by decide +kernel
theorem d_Mo_on_69 : decode b_Mo_on 69 = .ok (.iconst 1, 1) := by decide +kernel
theorem d_Mo_on_70 : decode b_Mo_on 70 = .ok (.iaload, 1) := by decide +kernel
theorem d_Mo_on_71 : decode b_Mo_on 71 = .ok (.iadd, 1) := by decide +kernel
theorem d_Mo_on_72 : decode b_Mo_on 72 = .ok (.istore 4, 2) := by decide +kernel
theorem d_Mo_on_74 : decode b_Mo_on 74 = .ok (.iconst 1, 1) := by decide +kernel
theorem d_Mo_on_75 : decode b_Mo_on 75 = .ok (.istore 6, 2) := by decide +kernel
theorem d_Mo_on_77 : decode b_Mo_on 77 = .ok (.iload 6, 2) := by decide +kernel
theorem d_Mo_on_79 : decode b_Mo_on 79 = .ok (.bipush 13, 2) := by decide +kernel
theorem d_Mo_on_81 : decode b_Mo_on 81 = .ok (.if_icmp .ge 51, 3) := by decide +kernel
theorem d_Mo_on_84 : decode b_Mo_on 84 = .ok (.iload_n 3, 1) := by decide +kernel
theorem d_Mo_on_85 : decode b_Mo_on 85 = .ok (.iload 4, 2) := by decide +kernel
theorem d_Mo_on_87 : decode b_Mo_on 87 = .ok (.ixor, 1) := by decide +kernel
theorem d_Mo_on_88 : decode b_Mo_on 88 = .ok (.iload 4, 2) := by decide +kernel
theorem d_Mo_on_90 : decode b_Mo_on 90 = .ok (.invokestatic 63, 3) := by decide +kernel
theorem d_Mo_on_93 : decode b_Mo_on 93 = .ok (.aload_n 0, 1) := by decide +kernel
theorem d_Mo_on_94 : decode b_Mo_on 94 = .ok (.getfield 53, 3) := by decide +kernel
theorem d_Mo_on_97 : decode b_Mo_on 97 = .ok (.iconst 2, 1) := by decide +kernel
theorem d_Mo_on_98 : decode b_Mo_on 98 = .ok (.iload 6, 2) := by decide +kernel
theorem d_Mo_on_100 : decode b_Mo_on 100 = .ok (.imul, 1) := by decide +kernel
theorem d_Mo_on_101 : decode b_Mo_on 101 = .ok (.iaload, 1) := by decide +kernel
theorem d_Mo_on_102 : decode b_Mo_on 102 = .ok (.iadd, 1) := by decide +kernel
theorem d_Mo_on_103 : decode b_Mo_on 103 = .ok (.istore_n 3, 1) := by decide +kernel
theorem d_Mo_on_104 : decode b_Mo_on 104 = .ok (.iload 4, 2) := by decide +kernel
theorem d_Mo_on_106 : decode b_Mo_on 106 = .ok (.iload_n 3, 1) := by decide +kernel
theorem d_Mo_on_107 : decode b_Mo_on 107 = .ok (.ixor, 1) := by decide +kernel
theorem d_Mo_on_108 : decode b_Mo_on 108 = .ok (.iload_n 3, 1) := by decide +kernel
theorem d_Mo_on_109 : decode b_Mo_on 109 = .ok (.invokestatic 63, 3) := by decide +kernel
theorem d_Mo_on_112 : decode b_Mo_on 112 = .ok (.aload_n 0, 1) := by decide +kernel
theorem d_Mo_on_113 : decode b_Mo_on 113 = .ok (.getfield 53, 3) := by decide +kernel
theorem d_Mo_on_116 : decode b_Mo_on 116 = .ok (.iconst 2, 1) := by decide +kernel
theorem d_Mo_on_117 : decode b_Mo_on 117 = .ok (.iload 6, 2) := by decide +kernel
theorem d_Mo_on_119 : decode b_Mo_on 119 = .ok (.imul, 1) := by decide +kernel
theorem d_Mo_on_120 : decode b_Mo_on 120 = .ok (.iconst 1, 1) := by decide +kernel
theorem d_Mo_on_121 : decode b_Mo_on 121 = .ok (.iadd, 1) := by decide +kernel
theorem d_Mo_on_122 : decode b_Mo_on 122 = .ok (.iaload, 1) := by decide +kernel
theorem d_Mo_on_123 : decode b_Mo_on 123 = .ok (.iadd, 1) := by decide +kernel
theorem d_Mo_on_124 : decode b_Mo_on 124 = .ok (.istore 4, 2) := by decide +kernel
theorem d_Mo_on_126 : decode b_Mo_on 126 = .ok (.iinc 6 1, 3) := by decide +kernel
theorem d_Mo_on_129 : decode b_Mo_on 129 = .ok (.goto (-52), 3) := by decide +kernel
theorem d_Mo_on_132 : decode b_Mo_on 132 = .ok (.iload_n 3, 1) := by decide +kernel
theorem d_Mo_on_133 : decode b_Mo_on 133 = .ok (.invokestatic 109, 3) := by decide +kernel
theorem d_Mo_on_136 : decode b_Mo_on 136 = .ok (.iload 4, 2) := by decide +kernel
theorem d_Mo_on_138 : decode b_Mo_on 138 = .ok (.invokestatic 109, 3) := by decide +kernel
theorem d_Mo_on_141 : decode b_Mo_on 141 = .ok (.invokestatic 112, 3) := by decide +kernel
theorem d_Mo_on_144 : decode b_Mo_on 144 = .ok (.lreturn, 1) := by decide +kernel
theorem d_Mo_on_145 : decode b_Mo_on 145 = .ok (.iconst 0, 1) := by decide +kernel
theorem d_Mo_on_146 : decode b_Mo_on 146 = .ok (.istore 6, 2) := by decide +kernel
theorem d_Mo_on_148 : decode b_Mo_on 148 = .ok (.iload 6, 2) := by decide +kernel
theorem d_Mo_on_150 : decode b_Mo_on 150 = .ok (.bipush 32, 2) := by decide +kernel
theorem d_Mo_on_152 : decode b_Mo_on 152 = .ok (.if_icmp .ge 74, 3) := by decide +kernel
theorem d_Mo_on_155 : decode b_Mo_on 155 = .ok (.iload_n 3, 1) := by decide +kernel
theorem d_Mo_on_156 : decode b_Mo_on 156 = .ok (.iload 4, 2) := by decide +kernel
theorem d_Mo_on_158 : decode b_Mo_on 158 = .ok (.iconst 4, 1) := by decide +kernel
theorem d_Mo_on_159 : decode b_Mo_on 159 = .ok (.ishl, 1) := by decide +kernel
theorem d_Mo_on_160 : decode b_Mo_on 160 = .ok (.iload 4, 2) := by decide +kernel
theorem d_Mo_on_162 : decode b_Mo_on 162 = .ok (.iconst 5, 1) := by decide +kernel
theorem d_Mo_on_163 : decode b_Mo_on 163 = .ok (.iushr, 1) := by decide +kernel
theorem d_Mo_on_164 : decode b_Mo_on 164 = .ok (.ixor, 1) := by decide +kernel
theorem d_Mo_on_165 : decode b_Mo_on 165 = .ok (.iload 4, 2) := by decide +kernel
theorem d_Mo_on_167 : decode b_Mo_on 167 = .ok (.iadd, 1) := by decide +kernel
theorem d_Mo_on_168 : decode b_Mo_on 168 = .ok (.iload 5, 2) := by decide +kernel
theorem d_Mo_on_170 : decode b_Mo_on 170 = .ok (.aload_n 0, 1) := by decide +kernel
theorem d_Mo_on_171 : decode b_Mo_on 171 = .ok (.getfield 53, 3) := by decide +kernel
theorem d_Mo_on_174 : decode b_Mo_on 174 = .ok (.iload 5, 2) := by decide +kernel
theorem d_Mo_on_176 : decode b_Mo_on 176 = .ok (.iconst 3, 1) := by decide +kernel
theorem d_Mo_on_177 : decode b_Mo_on 177 = .ok (.iand, 1) := by decide +kernel
theorem d_Mo_on_178 : decode b_Mo_on 178 = .ok (.iaload, 1) := by decide +kernel
theorem d_Mo_on_179 : decode b_Mo_on 179 = .ok (.iadd, 1) := by decide +kernel
theorem d_Mo_on_180 : decode b_Mo_on 180 = .ok (.ixor, 1) := by decide +kernel
theorem d_Mo_on_181 : decode b_Mo_on 181 = .ok (.iadd, 1) := by decide +kernel
theorem d_Mo_on_182 : decode b_Mo_on 182 = .ok (.istore_n 3, 1) := by decide +kernel
theorem d_Mo_on_183 : decode b_Mo_on 183 = .ok (.iload 5, 2) := by decide +kernel
theorem d_Mo_on_185 : decode b_Mo_on 185 = .ok (.ldc 108, 2) := by decide +kernel
theorem d_Mo_on_187 : decode b_Mo_on 187 = .ok (.iadd, 1) := by decide +kernel
theorem d_Mo_on_188 : decode b_Mo_on 188 = .ok (.istore 5, 2) := by decide +kernel
theorem d_Mo_on_190 : decode b_Mo_on 190 = .ok (.iload 4, 2) := by decide +kernel
theorem d_Mo_on_192 : decode b_Mo_on 192 = .ok (.iload_n 3, 1) := by decide +kernel
theorem d_Mo_on_193 : decode b_Mo_on 193 = .ok (.iconst 4, 1) := by decide +kernel
theorem d_Mo_on_194 : decode b_Mo_on 194 = .ok (.ishl, 1) := by decide +kernel
theorem d_Mo_on_195 : decode b_Mo_on 195 = .ok (.iload_n 3, 1) := by decide +kernel
theorem d_Mo_on_196 : decode b_Mo_on 196 = .ok (.iconst 5, 1) := by decide +kernel
theorem d_Mo_on_197 : decode b_Mo_on 197 = .ok (.iushr, 1) := by decide +kernel
theorem d_Mo_on_198 : decode b_Mo_on 198 = .ok (.ixor, 1) := by decide +kernel
theorem d_Mo_on_199 : decode b_Mo_on 199 = .ok (.iload_n 3, 1) := by decide +kernel
theorem d_Mo_on_200 : decode b_Mo_on 200 = .ok (.iadd, 1) := by decide +kernel
theorem d_Mo_on_201 : decode b_Mo_on 201 = .ok (.iload 5, 2) := by decide +kernel
theorem d_Mo_on_203 : decode b_Mo_on 203 = .ok (.aload_n 0, 1) := by decide +kernel
theorem d_Mo_on_204 : decode b_Mo_on 204 = .ok (.getfield 53, 3) := by decide +kernel
theorem d_Mo_on_207 : decode b_Mo_on 207 = .ok (.iload 5, 2) := by decide +kernel
theorem d_Mo_on_209 : decode b_Mo_on 209 = .ok (.bipush 11, 2) := by decide +kernel
theorem d_Mo_on_211 : decode b_Mo_on 211 = .ok (.iushr, 1) := by decide +kernel
theorem d_Mo_on_212 : decode b_Mo_on 212 = .ok (.iconst 3, 1) := by decide +kernel
theorem d_Mo_on_213 : decode b_Mo_on 213 = .ok (.iand, 1) := by decide +kernel
theorem d_Mo_on_214 : decode b_Mo_on 214 = .ok (.iaload, 1) := by decide +kernel
theorem d_Mo_on_215 : decode b_Mo_on 215 = .ok (.iadd, 1) := by decide +kernel
theorem d_Mo_on_216 : decode b_Mo_on 216 = .ok (.ixor, 1) := by decide +kernel
theorem d_Mo_on_217 : decode b_Mo_on 217 = .ok (.iadd, 1) := by decide +kernel
theorem d_Mo_on_218 : decode b_Mo_on 218 = .ok (.istore 4, 2) := by decide +kernel
theorem d_Mo_on_220 : decode b_Mo_on 220 = .ok (.iinc 6 1, 3) := by decide +kernel
theorem d_Mo_on_223 : decode b_Mo_on 223 = .ok (.goto (-75), 3) := by decide +kernel
theorem d_Mo_on_226 : decode b_Mo_on 226 = .ok (.iload_n 3, 1) := by decide +kernel
theorem d_Mo_on_227 : decode b_Mo_on 227 = .ok (.iload 4, 2) := by decide +kernel
theorem d_Mo_on_229 : decode b_Mo_on 229 = .ok (.invokestatic 112, 3) := by decide +kernel
theorem d_Mo_on_232 : decode b_Mo_on 232 = .ok (.lreturn, 1) := by decide +kernel
theorem d_Mo_on_233 : decode b_Mo_on 233 = .ok (.iconst 0, 1) := by decide +kernel
theorem d_Mo_on_234 : decode b_Mo_on 234 = .ok (.istore 6, 2) := by decide +kernel
theorem d_Mo_on_236 : decode b_Mo_on 236 = .ok (.iload 6, 2) := by decide +kernel
theorem d_Mo_on_238 : decode b_Mo_on 238 = .ok (.bipush 27, 2) := by decide +kernel
theorem d_Mo_on_240 : decode b_Mo_on 240 = .ok (.if_icmp .ge 37, 3) := by decide +kernel
theorem d_Mo_on_243 : decode b_Mo_on 243 = .ok (.iload_n 3, 1) := by decide +kernel
theorem d_Mo_on_244 : decode b_Mo_on 244 = .ok (.bipush 8, 2) := by decide +kernel
theorem d_Mo_on_246 : decode b_Mo_on 246 = .ok (.invokestatic 97, 3) := by decide +kernel
theorem d_Mo_on_249 : decode b_Mo_on 249 = .ok (.iload 4, 2) := by decide +kernel
theorem d_Mo_on_251 : decode b_Mo_on 251 = .ok (.iadd, 1) := by decide +kernel
theorem d_Mo_on_252 : decode b_Mo_on 252 = .ok (.aload_n 0, 1) := by decide +kernel
theorem d_Mo_on_253 : decode b_Mo_on 253 = .ok (.getfield 53, 3) := by decide +kernel
theorem d_Mo_on_256 : decode b_Mo_on 256 = .ok (.iload 6, 2) := by decide +kernel
theorem d_Mo_on_258 : decode b_Mo_on 258 = .ok (.iaload, 1) := by decide +kernel
theorem d_Mo_on_259 : decode b_Mo_on 259 = .ok (.ixor, 1) := by decide +kernel
theorem d_Mo_on_260 : decode b_Mo_on 260 = .ok (.istore_n 3, 1) := by decide +kernel
theorem d_Mo_on_261 : decode b_Mo_on 261 = .ok (.iload 4, 2) := by decide +kernel
theorem d_Mo_on_263 : decode b_Mo_on 263 = .ok (.iconst 3, 1) := by decide +kernel
theorem d_Mo_on_264 : decode b_Mo_on 264 = .ok (.invokestatic 63, 3) := by decide +kernel
theorem d_Mo_on_267 : decode b_Mo_on 267 = .ok (.iload_n 3, 1) := by decide +kernel
theorem d_Mo_on_268 : decode b_Mo_on 268 = .ok (.ixor, 1) := by decide +kernel
theorem d_Mo_on_269 : decode b_Mo_on 269 = .ok (.istore 4, 2) := by decide +kernel
theorem d_Mo_on_271 : decode b_Mo_on 271 = .ok (.iinc 6 1, 3) := by decide +kernel
theorem d_Mo_on_274 : decode b_Mo_on 274 = .ok (.goto (-38), 3) := by decide +kernel
theorem d_Mo_on_277 : decode b_Mo_on 277 = .ok (.iload_n 3, 1) := by decide +kernel
theorem d_Mo_on_278 : decode b_Mo_on 278 = .ok (.iload 4, 2) := by decide +kernel
theorem d_Mo_on_280 : decode b_Mo_on 280 = .ok (.invokestatic 112, 3) := by decide +kernel
theorem d_Mo_on_283 : decode b_Mo_on 283 = .ok (.lreturn, 1) := by decide +kernel
theorem d_Mo_on_284 : decode b_Mo_on 284 = .ok (.iconst 0, 1) := by decide +kernel
theorem d_Mo_on_285 : decode b_Mo_on 285 = .ok (.istore 6, 2) := by decide +kernel
theorem d_Mo_on_287 : decode b_Mo_on 287 = .ok (.iload 6, 2) := by decide +kernel
theorem d_Mo_on_289 : decode b_Mo_on 289 = .ok (.bipush 44, 2) := by decide +kernel
theorem d_Mo_on_291 : decode b_Mo_on 291 = .ok (.if_icmp .ge 46, 3) := by decide +kernel
theorem d_Mo_on_294 : decode b_Mo_on 294 = .ok (.iload_n 3, 1) := by decide +kernel
theorem d_Mo_on_295 : decode b_Mo_on 295 = .ok (.istore 7, 2) := by decide +kernel
theorem d_Mo_on_297 : decode b_Mo_on 297 = .ok (.iload 4, 2) := by decide +kernel
theorem d_Mo_on_299 : decode b_Mo_on 299 = .ok (.iload_n 3, 1) := by decide +kernel
theorem d_Mo_on_300 : decode b_Mo_on 300 = .ok (.iconst 1, 1) := by decide +kernel
theorem d_Mo_on_301 : decode b_Mo_on 301 = .ok (.invokestatic 63, 3) := by decide +kernel
theorem d_Mo_on_304 : decode b_Mo_on 304 = .ok (.iload_n 3, 1) := by decide +kernel
theorem d_Mo_on_305 : decode b_Mo_on 305 = .ok (.bipush 8, 2) := by decide +kernel
theorem d_Mo_on_307 : decode b_Mo_on 307 = .ok (.invokestatic 63, 3) := by decide +kernel
theorem d_Mo_on_310 : decode b_Mo_on 310 = .ok (.iand, 1) := by decide +kernel
theorem d_Mo_on_311 : decode b_Mo_on 311 = .ok (.ixor, 1) := by decide +kernel
theorem d_Mo_on_312 : decode b_Mo_on 312 = .ok (.iload_n 3, 1) := by decide +kernel
theorem d_Mo_on_313 : decode b_Mo_on 313 = .ok (.iconst 2, 1) := by decide +kernel
theorem d_Mo_on_314 : decode b_Mo_on 314 = .ok (.invokestatic 63, 3) := by decide +kernel
theorem d_Mo_on_317 : decode b_Mo_on 317 = .ok (.ixor, 1) := by decide +kernel
theorem d_Mo_on_318 : decode b_Mo_on 318 = .ok (.aload_n 0, 1) := by decide +kernel
theorem d_Mo_on_319 : decode b_Mo_on 319 = .ok (.getfield 53, 3) := by decide +kernel
theorem d_Mo_on_322 : decode b_Mo_on 322 = .ok (.iload 6, 2) := by decide +kernel
theorem d_Mo_on_324 : decode b_Mo_on 324 = .ok (.iaload, 1) := by decide +kernel
theorem d_Mo_on_325 : decode b_Mo_on 325 = .ok (.ixor, 1) := by decide +kernel
theorem d_Mo_on_326 : decode b_Mo_on 326 = .ok (.istore_n 3, 1) := by decide +kernel
theorem d_Mo_on_327 : decode b_Mo_on 327 = .ok (.iload 7, 2) := by decide +kernel
theorem d_Mo_on_329 : decode b_Mo_on 329 = .ok (.istore 4, 2) := by decide +kernel
theorem d_Mo_on_331 : decode b_Mo_on 331 = .ok (.iinc 6 1, 3) := by decide +kernel
theorem d_Mo_on_334 : decode b_Mo_on 334 = .ok (.goto (-47), 3) := by decide +kernel
theorem d_Mo_on_337 : decode b_Mo_on 337 = .ok (.iload_n 3, 1) := by decide +kernel
theorem d_Mo_on_338 : decode b_Mo_on 338 = .ok (.iload 4, 2) := by decide +kernel
theorem d_Mo_on_340 : decode b_Mo_on 340 = .ok (.invokestatic 112, 3) := by decide +kernel
theorem d_Mo_on_343 : decode b_Mo_on 343 = .ok (.lreturn, 1) := by decide +kernel
theorem d_Mo_on_344 : decode b_Mo_on 344 = .ok (.aload_n 0, 1) := by decide +kernel
theorem d_Mo_on_345 : decode b_Mo_on 345 = .ok (.lload_n 1, 1) := by decide +kernel
theorem d_Mo_on_346 : decode b_Mo_on 346 = .ok (.invokevirtual 116, 3) := by decide +kernel
theorem d_Mo_on_349 : decode b_Mo_on 349 = .ok (.lreturn, 1) := by decide +kernel
theorem d_Mo_onFour_0 : decode b_Mo_onFour 0 = .ok (.lload_n 1, 1) := by decide +kernel
theorem d_Mo_onFour_1 : decode b_Mo_onFour 1 = .ok (.iconst 0, 1) := by decide +kernel
theorem d_Mo_onFour_2 : decode b_Mo_onFour 2 = .ok (.invokestatic 124, 3) := by decide +kernel
theorem d_Mo_onFour_5 : decode b_Mo_onFour 5 = .ok (.istore_n 3, 1) := by decide +kernel
theorem d_Mo_onFour_6 : decode b_Mo_onFour 6 = .ok (.lload_n 1, 1) := by decide +kernel
theorem d_Mo_onFour_7 : decode b_Mo_onFour 7 = .ok (.iconst 1, 1) := by decide +kernel
theorem d_Mo_onFour_8 : decode b_Mo_onFour 8 = .ok (.invokestatic 124, 3) := by decide +kernel
theorem d_Mo_onFour_11 : decode b_Mo_onFour 11 = .ok (.istore 4, 2) := by decide +kernel
theorem d_Mo_onFour_13 : decode b_Mo_onFour 13 = .ok (.lload_n 1, 1) := by decide +kernel
theorem d_Mo_onFour_14 : decode b_Mo_onFour 14 = .ok (.iconst 2, 1) := by decide +kernel
theorem d_Mo_onFour_15 : decode b_Mo_onFour 15 = .ok (.invokestatic 124, 3) := by decide +kernel
theorem d_Mo_onFour_18 : decode b_Mo_onFour 18 = .ok (.istore 5, 2) := by decide +kernel
theorem d_Mo_onFour_20 : decode b_Mo_onFour 20 = .ok (.lload_n 1, 1) := by decide +kernel
theorem d_Mo_onFour_21 : decode b_Mo_onFour 21 = .ok (.iconst 3, 1) := by decide +kernel
theorem d_Mo_onFour_22 : decode b_Mo_onFour 22 = .ok (.invokestatic 124, 3) := by decide +kernel
theorem d_Mo_onFour_25 : decode b_Mo_onFour 25 = .ok (.istore 6, 2) := by decide +kernel
theorem d_Mo_onFour_27 : decode b_Mo_onFour 27 = .ok (.iconst 0, 1) := by decide +kernel
theorem d_Mo_onFour_28 : decode b_Mo_onFour 28 = .ok (.istore 7, 2) := by decide +kernel
theorem d_Mo_onFour_30 : decode b_Mo_onFour 30 = .ok (.iload 7, 2) := by decide +kernel
theorem d_Mo_onFour_32 : decode b_Mo_onFour 32 = .ok (.bipush 48, 2) := by decide +kernel
theorem d_Mo_onFour_34 : decode b_Mo_onFour 34 = .ok (.if_icmp .ge 154, 3) := by decide +kernel
theorem d_Mo_onFour_37 : decode b_Mo_onFour 37 = .ok (.iload_n 3, 1) := by decide +kernel
theorem d_Mo_onFour_38 : decode b_Mo_onFour 38 = .ok (.aload_n 0, 1) := by decide +kernel
theorem d_Mo_onFour_39 : decode b_Mo_onFour 39 = .ok (.getfield 53, 3) := by decide +kernel
theorem d_Mo_onFour_42 : decode b_Mo_onFour 42 = .ok (.iload 7, 2) := by decide +kernel
theorem d_Mo_onFour_44 : decode b_Mo_onFour 44 = .ok (.iaload, 1) := by decide +kernel
theorem d_Mo_onFour_45 : decode b_Mo_onFour 45 = .ok (.invokestatic 75, 3) := by decide +kernel
theorem d_Mo_onFour_48 : decode b_Mo_onFour 48 = .ok (.istore_n 3, 1) := by decide +kernel
theorem d_Mo_onFour_49 : decode b_Mo_onFour 49 = .ok (.iload 4, 2) := by decide +kernel
theorem d_Mo_onFour_51 : decode b_Mo_onFour 51 = .ok (.aload_n 0, 1) := by decide +kernel
theorem d_Mo_onFour_52 : decode b_Mo_onFour 52 = .ok (.getfield 53, 3) := by decide +kernel
theorem d_Mo_onFour_55 : decode b_Mo_onFour 55 = .ok (.iload 7, 2) := by decide +kernel
theorem d_Mo_onFour_57 : decode b_Mo_onFour 57 = .ok (.iconst 1, 1) := by decide +kernel
theorem d_Mo_onFour_58 : decode b_Mo_onFour 58 = .ok (.iadd, 1) := by decide +kernel
theorem d_Mo_onFour_59 : decode b_Mo_onFour 59 = .ok (.iaload, 1) := by decide +kernel
theorem d_Mo_onFour_60 : decode b_Mo_onFour 60 = .ok (.iadd, 1) := by decide +kernel
theorem d_Mo_onFour_61 : decode b_Mo_onFour 61 = .ok (.ldc 74, 2) := by decide +kernel
theorem d_Mo_onFour_63 : decode b_Mo_onFour 63 = .ok (.iand, 1) := by decide +kernel
theorem d_Mo_onFour_64 : decode b_Mo_onFour 64 = .ok (.istore 4, 2) := by decide +kernel
theorem d_Mo_onFour_66 : decode b_Mo_onFour 66 = .ok (.iload 5, 2) := by decide +kernel
theorem d_Mo_onFour_68 : decode b_Mo_onFour 68 = .ok (.aload_n 0, 1) := by decide +kernel
theorem d_Mo_onFour_69 : decode b_Mo_onFour 69 = .ok (.getfield 53, 3) := by decide +kernel
theorem d_Mo_onFour_72 : decode b_Mo_onFour 72 = .ok (.iload 7, 2) := by decide +kernel
theorem d_Mo_onFour_74 : decode b_Mo_onFour 74 = .ok (.iconst 2, 1) := by decide +kernel
theorem d_Mo_onFour_75 : decode b_Mo_onFour 75 = .ok (.iadd, 1) := by decide +kernel
theorem d_Mo_onFour_76 : decode b_Mo_onFour 76 = .ok (.iaload, 1) := by decide +kernel
theorem d_Mo_onFour_77 : decode b_Mo_onFour 77 = .ok (.iadd, 1) := by decide +kernel
theorem d_Mo_onFour_78 : decode b_Mo_onFour 78 = .ok (.ldc 74, 2) := by decide +kernel
theorem d_Mo_onFour_80 : decode b_Mo_onFour 80 = .ok (.iand, 1) := by decide +kernel
theorem d_Mo_onFour_81 : decode b_Mo_onFour 81 = .ok (.istore 5, 2) := by decide +kernel
theorem d_Mo_onFour_83 : decode b_Mo_onFour 83 = .ok (.iload 6, 2) := by decide +kernel
theorem d_Mo_onFour_85 : decode b_Mo_onFour 85 = .ok (.aload_n 0, 1) := by decide +kernel
theorem d_Mo_onFour_86 : decode b_Mo_onFour 86 = .ok (.getfield 53, 3) := by decide +kernel
theorem d_Mo_onFour_89 : decode b_Mo_onFour 89 = .ok (.iload 7, 2) := by decide +kernel
theorem d_Mo_onFour_91 : decode b_Mo_onFour 91 = .ok (.iconst 3, 1) := by decide +kernel
theorem d_Mo_onFour_92 : decode b_Mo_onFour 92 = .ok (.iadd, 1) := by decide +kernel
theorem d_Mo_onFour_93 : decode b_Mo_onFour 93 = .ok (.iaload, 1) := by decide +kernel
theorem d_Mo_onFour_94 : decode b_Mo_onFour 94 = .ok (.invokestatic 75, 3) := by decide +kernel
theorem d_Mo_onFour_97 : decode b_Mo_onFour 97 = .ok (.istore 6, 2) := by decide +kernel
theorem d_Mo_onFour_99 : decode b_Mo_onFour 99 = .ok (.iload_n 3, 1) := by decide +kernel
theorem d_Mo_onFour_100 : decode b_Mo_onFour 100 = .ok (.iload 5, 2) := by decide +kernel
theorem d_Mo_onFour_102 : decode b_Mo_onFour 102 = .ok (.ixor, 1) := by decide +kernel
theorem d_Mo_onFour_103 : decode b_Mo_onFour 103 = .ok (.aload_n 0, 1) := by decide +kernel
theorem d_Mo_onFour_104 : decode b_Mo_onFour 104 = .ok (.getfield 53, 3) := by decide +kernel
theorem d_Mo_onFour_107 : decode b_Mo_onFour 107 = .ok (.iload 7, 2) := by decide +kernel
theorem d_Mo_onFour_109 : decode b_Mo_onFour 109 = .ok (.iconst 4, 1) := by decide +kernel
theorem d_Mo_onFour_110 : decode b_Mo_onFour 110 = .ok (.iadd, 1) := by decide +kernel
theorem d_Mo_onFour_111 : decode b_Mo_onFour 111 = .ok (.iaload, 1) := by decide +kernel
theorem d_Mo_onFour_112 : decode b_Mo_onFour 112 = .ok (.invokestatic 75, 3) := by decide +kernel
theorem d_Mo_onFour_115 : decode b_Mo_onFour 115 = .ok (.istore 8, 2) := by decide +kernel
theorem d_Mo_onFour_117 : decode b_Mo_onFour 117 = .ok (.iload 8, 2) := by decide +kernel
theorem d_Mo_onFour_119 : decode b_Mo_onFour 119 = .ok (.iload 4, 2) := by decide +kernel
theorem d_Mo_onFour_121 : decode b_Mo_onFour 121 = .ok (.iload 6, 2) := by decide +kernel
theorem d_Mo_onFour_123 : decode b_Mo_onFour 123 = .ok (.ixor, 1) := by decide +kernel
theorem d_Mo_onFour_124 : decode b_Mo_onFour 124 = .ok (.iadd, 1) := by decide +kernel
theorem d_Mo_onFour_125 : decode b_Mo_onFour 125 = .ok (.ldc 74, 2) := by decide +kernel
theorem d_Mo_onFour_127 : decode b_Mo_onFour 127 = .ok (.iand, 1) := by decide +kernel
theorem d_Mo_onFour_128 : decode b_Mo_onFour 128 = .ok (.aload_n 0, 1) := by decide +kernel
theorem d_Mo_onFour_129 : decode b_Mo_onFour 129 = .ok (.getfield 53, 3) := by decide +kernel
theorem d_Mo_onFour_132 : decode b_Mo_onFour 132 = .ok (.iload 7, 2) := by decide +kernel
theorem d_Mo_onFour_134 : decode b_Mo_onFour 134 = .ok (.iconst 5, 1) := by decide +kernel
theorem d_Mo_onFour_135 : decode b_Mo_onFour 135 = .ok (.iadd, 1) := by decide +kernel
theorem d_Mo_onFour_136 : decode b_Mo_onFour 136 = .ok (.iaload, 1) := by decide +kernel
theorem d_Mo_onFour_137 : decode b_Mo_onFour 137 = .ok (.invokestatic 75, 3) := by decide +kernel
theorem d_Mo_onFour_140 : decode b_Mo_onFour 140 = .ok (.istore 9, 2) := by decide +kernel
theorem d_Mo_onFour_142 : decode b_Mo_onFour 142 = .ok (.iload 8, 2) := by decide +kernel
theorem d_Mo_onFour_144 : decode b_Mo_onFour 144 = .ok (.iload 9, 2) := by decide +kernel
theorem d_Mo_onFour_146 : decode b_Mo_onFour 146 = .ok (.iadd, 1) := by decide +kernel
theorem d_Mo_onFour_147 : decode b_Mo_onFour 147 = .ok (.ldc 74, 2) := by decide +kernel
theorem d_Mo_onFour_149 : decode b_Mo_onFour 149 = .ok (.iand, 1) := by decide +kernel
theorem d_Mo_onFour_150 : decode b_Mo_onFour 150 = .ok (.istore 10, 2) := by decide +kernel
theorem d_Mo_onFour_152 : decode b_Mo_onFour 152 = .ok (.iload 4, 2) := by decide +kernel
theorem d_Mo_onFour_154 : decode b_Mo_onFour 154 = .ok (.istore 11, 2) := by decide +kernel
theorem d_Mo_onFour_156 : decode b_Mo_onFour 156 = .ok (.iload_n 3, 1) := by decide +kernel
theorem d_Mo_onFour_157 : decode b_Mo_onFour 157 = .ok (.iload 9, 2) := by decide +kernel
theorem d_Mo_onFour_159 : decode b_Mo_onFour 159 = .ok (.ixor, 1) := by decide +kernel
theorem d_Mo_onFour_160 : decode b_Mo_onFour 160 = .ok (.istore_n 3, 1) := by decide +kernel
theorem d_Mo_onFour_161 : decode b_Mo_onFour 161 = .ok (.iload 5, 2) := by decide +kernel
theorem d_Mo_onFour_163 : decode b_Mo_onFour 163 = .ok (.iload 9, 2) := by decide +kernel
theorem d_Mo_onFour_165 : decode b_Mo_onFour 165 = .ok (.ixor, 1) := by decide +kernel
theorem d_Mo_onFour_166 : decode b_Mo_onFour 166 = .ok (.istore 4, 2) := by decide +kernel
theorem d_Mo_onFour_168 : decode b_Mo_onFour 168 = .ok (.iload 11, 2) := by decide +kernel
theorem d_Mo_onFour_170 : decode b_Mo_onFour 170 = .ok (.iload 10, 2) := by decide +kernel
theorem d_Mo_onFour_172 : decode b_Mo_onFour 172 = .ok (.ixor, 1) := by decide +kernel
theorem d_Mo_onFour_173 : decode b_Mo_onFour 173 = .ok (.istore 5, 2) := by decide +kernel
theorem d_Mo_onFour_175 : decode b_Mo_onFour 175 = .ok (.iload 6, 2) := by decide +kernel
theorem d_Mo_onFour_177 : decode b_Mo_onFour 177 = .ok (.iload 10, 2) := by decide +kernel
theorem d_Mo_onFour_179 : decode b_Mo_onFour 179 = .ok (.ixor, 1) := by decide +kernel
theorem d_Mo_onFour_180 : decode b_Mo_onFour 180 = .ok (.istore 6, 2) := by decide +kernel

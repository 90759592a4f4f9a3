theorem d_Mo_stage_29 : decode b_Mo_stage 29 = .ok (.ireturn, 1) := by decide +kernel
theorem d_Mo_block_0 : decode b_Mo_block 0 = .ok (.aload_n 0, 1) := by decide +kernel
theorem d_Mo_block_1 : decode b_Mo_block 1 = .ok (.iload_n 1, 1) := by decide +kernel
theorem d_Mo_block_2 : decode b_Mo_block 2 = .ok (.invokestatic 138, 3) := by decide +kernel
theorem d_Mo_block_5 : decode b_Mo_block 5 = .ok (.ifCond .ne 7, 3) := by decide +kernel
theorem d_Mo_block_8 : decode b_Mo_block 8 = .ok (.iconst 1, 1) := by decide +kernel
theorem d_Mo_block_9 : decode b_Mo_block 9 = .ok (.goto 16, 3) := by decide +kernel
theorem d_Mo_block_12 : decode b_Mo_block 12 = .ok (.aload_n 0, 1) := by decide +kernel
theorem d_Mo_block_13 : decode b_Mo_block 13 = .ok (.iload_n 1, 1) := by decide +kernel
theorem d_Mo_block_14 : decode b_Mo_block 14 = .ok (.invokevirtual 145, 3) := by decide +kernel
theorem d_Mo_block_17 : decode b_Mo_block 17 = .ok (.ifCond .ne 7, 3) := by decide +kernel
theorem d_Mo_block_20 : decode b_Mo_block 20 = .ok (.iconst 2, 1) := by decide +kernel
theorem d_Mo_block_21 : decode b_Mo_block 21 = .ok (.goto 4, 3) := by decide +kernel
theorem d_Mo_block_24 : decode b_Mo_block 24 = .ok (.iconst 0, 1) := by decide +kernel
theorem d_Mo_block_25 : decode b_Mo_block 25 = .ok (.invokevirtual 142, 3) := by decide +kernel
theorem d_Mo_block_28 : decode b_Mo_block 28 = .ok (.ifCond .eq 5, 3) := by decide +kernel
theorem d_Mo_block_31 : decode b_Mo_block 31 = .ok (.lconst 0, 1) := by decide +kernel
theorem d_Mo_block_32 : decode b_Mo_block 32 = .ok (.lreturn, 1) := by decide +kernel
theorem d_Mo_block_33 : decode b_Mo_block 33 = .ok (.aload_n 0, 1) := by decide +kernel
theorem d_Mo_block_34 : decode b_Mo_block 34 = .ok (.iload_n 1, 1) := by decide +kernel
theorem d_Mo_block_35 : decode b_Mo_block 35 = .ok (.invokevirtual 151, 3) := by decide +kernel
theorem d_Mo_block_38 : decode b_Mo_block 38 = .ok (.iload_n 2, 1) := by decide +kernel
theorem d_Mo_block_39 : decode b_Mo_block 39 = .ok (.ifCond .eq 11, 3) := by decide +kernel
theorem d_Mo_block_42 : decode b_Mo_block 42 = .ok (.aload_n 0, 1) := by decide +kernel
theorem d_Mo_block_43 : decode b_Mo_block 43 = .ok (.lload_n 3, 1) := by decide +kernel
theorem d_Mo_block_44 : decode b_Mo_block 44 = .ok (.invokevirtual 154, 3) := by decide +kernel
theorem d_Mo_block_47 : decode b_Mo_block 47 = .ok (.goto 8, 3) := by decide +kernel
theorem d_Mo_block_50 : decode b_Mo_block 50 = .ok (.aload_n 0, 1) := by decide +kernel
theorem d_Mo_block_51 : decode b_Mo_block 51 = .ok (.lload_n 3, 1) := by decide +kernel
theorem d_Mo_block_52 : decode b_Mo_block 52 = .ok (.invokevirtual 157, 3) := by decide +kernel
theorem d_Mo_block_55 : decode b_Mo_block 55 = .ok (.lreturn, 1) := by decide +kernel
theorem d_Mo_prepare_0 : decode b_Mo_prepare 0 = .ok (.aload_n 0, 1) := by decide +kernel
theorem d_Mo_prepare_1 : decode b_Mo_prepare 1 = .ok (.aload_n 0, 1) := by decide +kernel
theorem d_Mo_prepare_2 : decode b_Mo_prepare 2 = .ok (.getfield 16, 3) := by decide +kernel
theorem d_Mo_prepare_5 : decode b_Mo_prepare 5 = .ok (.iload_n 1, 1) := by decide +kernel
theorem d_Mo_prepare_6 : decode b_Mo_prepare 6 = .ok (.iaload, 1) := by decide +kernel
theorem d_Mo_prepare_7 : decode b_Mo_prepare 7 = .ok (.putfield 84, 3) := by decide +kernel
theorem d_Mo_prepare_10 : decode b_Mo_prepare 10 = .ok (.aload_n 0, 1) := by decide +kernel
theorem d_Mo_prepare_11 : decode b_Mo_prepare 11 = .ok (.getfield 84, 3) := by decide +kernel
theorem d_Mo_prepare_14 : decode b_Mo_prepare 14 = .ok (.tableswitch 304 0 3 #[30, 38, 71, 197], 30) := by decide +kernel
theorem d_Mo_prepare_44 : decode b_Mo_prepare 44 = .ok (.aload_n 0, 1) := by decide +kernel
theorem d_Mo_prepare_45 : decode b_Mo_prepare 45 = .ok (.iload_n 1, 1) := by decide +kernel
theorem d_Mo_prepare_46 : decode b_Mo_prepare 46 = .ok (.invokevirtual 87, 3) := by decide +kernel
theorem d_Mo_prepare_49 : decode b_Mo_prepare 49 = .ok (.goto 280, 3) := by decide +kernel
theorem d_Mo_prepare_52 : decode b_Mo_prepare 52 = .ok (.aload_n 0, 1) := by decide +kernel
theorem d_Mo_prepare_53 : decode b_Mo_prepare 53 = .ok (.iconst 4, 1) := by decide +kernel
theorem d_Mo_prepare_54 : decode b_Mo_prepare 54 = .ok (.putfield 91, 3) := by decide +kernel
theorem d_Mo_prepare_57 : decode b_Mo_prepare 57 = .ok (.iconst 0, 1) := by decide +kernel
theorem d_Mo_prepare_58 : decode b_Mo_prepare 58 = .ok (.istore_n 2, 1) := by decide +kernel
theorem d_Mo_prepare_59 : decode b_Mo_prepare 59 = .ok (.iload_n 2, 1) := by decide +kernel
theorem d_Mo_prepare_60 : decode b_Mo_prepare 60 = .ok (.iconst 4, 1) := by decide +kernel
theorem d_Mo_prepare_61 : decode b_Mo_prepare 61 = .ok (.if_icmp .ge 21, 3) := by decide +kernel
theorem d_Mo_prepare_64 : decode b_Mo_prepare 64 = .ok (.aload_n 0, 1) := by decide +kernel
theorem d_Mo_prepare_65 : decode b_Mo_prepare 65 = .ok (.getfield 53, 3) := by decide +kernel
theorem d_Mo_prepare_68 : decode b_Mo_prepare 68 = .ok (.iload_n 2, 1) := by decide +kernel
theorem d_Mo_prepare_69 : decode b_Mo_prepare 69 = .ok (.aload_n 0, 1) := by decide +kernel
theorem d_Mo_prepare_70 : decode b_Mo_prepare 70 = .ok (.iload_n 1, 1) := by decide +kernel
theorem d_Mo_prepare_71 : decode b_Mo_prepare 71 = .ok (.iload_n 2, 1) := by decide +kernel
theorem d_Mo_prepare_72 : decode b_Mo_prepare 72 = .ok (.invokevirtual 94, 3) := by decide +kernel
theorem d_Mo_prepare_75 : decode b_Mo_prepare 75 = .ok (.iastore, 1) := by decide +kernel
theorem d_Mo_prepare_76 : decode b_Mo_prepare 76 = .ok (.iinc 2 1, 3) := by decide +kernel
theorem d_Mo_prepare_79 : decode b_Mo_prepare 79 = .ok (.goto (-20), 3) := by decide +kernel
theorem d_Mo_prepare_82 : decode b_Mo_prepare 82 = .ok (.goto 247, 3) := by decide +kernel
theorem d_Mo_prepare_85 : decode b_Mo_prepare 85 = .ok (.aload_n 0, 1) := by decide +kernel
theorem d_Mo_prepare_86 : decode b_Mo_prepare 86 = .ok (.bipush 27, 2) := by decide +kernel
theorem d_Mo_prepare_88 : decode b_Mo_prepare 88 = .ok (.putfield 91, 3) := by decide +kernel
theorem d_Mo_prepare_91 : decode b_Mo_prepare 91 = .ok (.aload_n 0, 1) := by decide +kernel
theorem d_Mo_prepare_92 : decode b_Mo_prepare 92 = .ok (.getfield 56, 3) := by decide +kernel
theorem d_Mo_prepare_95 : decode b_Mo_prepare 95 = .ok (.iconst 2, 1) := by decide +kernel
theorem d_Mo_prepare_96 : decode b_Mo_prepare 96 = .ok (.aload_n 0, 1) := by decide +kernel
theorem d_Mo_prepare_97 : decode b_Mo_prepare 97 = .ok (.iload_n 1, 1) := by decide +kernel
theorem d_Mo_prepare_98 : decode b_Mo_prepare 98 = .ok (.iconst 0, 1) := by decide +kernel
theorem d_Mo_prepare_99 : decode b_Mo_prepare 99 = .ok (.invokevirtual 94, 3) := by decide +kernel
theorem d_Mo_prepare_102 : decode b_Mo_prepare 102 = .ok (.iastore, 1) := by decide +kernel
theorem d_Mo_prepare_103 : decode b_Mo_prepare 103 = .ok (.aload_n 0, 1) := by decide +kernel
theorem d_Mo_prepare_104 : decode b_Mo_prepare 104 = .ok (.getfield 56, 3) := by decide +kernel
theorem d_Mo_prepare_107 : decode b_Mo_prepare 107 = .ok (.iconst 1, 1) := by decide +kernel
theorem d_Mo_prepare_108 : decode b_Mo_prepare 108 = .ok (.aload_n 0, 1) := by decide +kernel
theorem d_Mo_prepare_109 : decode b_Mo_prepare 109 = .ok (.iload_n 1, 1) := by decide +kernel
theorem d_Mo_prepare_110 : decode b_Mo_prepare 110 = .ok (.iconst 1, 1) := by decide +kernel
theorem d_Mo_prepare_111 : decode b_Mo_prepare 111 = .ok (.invokevirtual 94, 3) := by decide +kernel
theorem d_Mo_prepare_114 : decode b_Mo_prepare 114 = .ok (.iastore, 1) := by decide +kernel
theorem d_Mo_prepare_115 : decode b_Mo_prepare 115 = .ok (.aload_n 0, 1) := by decide +kernel
theorem d_Mo_prepare_116 : decode b_Mo_prepare 116 = .ok (.getfield 56, 3) := by decide +kernel
theorem d_Mo_prepare_119 : decode b_Mo_prepare 119 = .ok (.iconst 0, 1) := by decide +kernel
theorem d_Mo_prepare_120 : decode b_Mo_prepare 120 = .ok (.aload_n 0, 1) := by decide +kernel
theorem d_Mo_prepare_121 : decode b_Mo_prepare 121 = .ok (.iload_n 1, 1) := by decide +kernel
theorem d_Mo_prepare_122 : decode b_Mo_prepare 122 = .ok (.iconst 2, 1) := by decide +kernel
theorem d_Mo_prepare_123 : decode b_Mo_prepare 123 = .ok (.invokevirtual 94, 3) := by decide +kernel
theorem d_Mo_prepare_126 : decode b_Mo_prepare 126 = .ok (.iastore, 1) := by decide +kernel
theorem d_Mo_prepare_127 : decode b_Mo_prepare 127 = .ok (.aload_n 0, 1) := by decide +kernel
theorem d_Mo_prepare_128 : decode b_Mo_prepare 128 = .ok (.getfield 53, 3) := by decide +kernel
theorem d_Mo_prepare_131 : decode b_Mo_prepare 131 = .ok (.iconst 0, 1) := by decide +kernel
theorem d_Mo_prepare_132 : decode b_Mo_prepare 132 = .ok (.aload_n 0, 1) := by decide +kernel
theorem d_Mo_prepare_133 : decode b_Mo_prepare 133 = .ok (.iload_n 1, 1) := by decide +kernel
theorem d_Mo_prepare_134 : decode b_Mo_prepare 134 = .ok (.iconst 3, 1) := by decide +kernel
theorem d_Mo_prepare_135 : decode b_Mo_prepare 135 = .ok (.invokevirtual 94, 3) := by decide +kernel
theorem d_Mo_prepare_138 : decode b_Mo_prepare 138 = .ok (.iastore, 1) := by decide +kernel
theorem d_Mo_prepare_139 : decode b_Mo_prepare 139 = .ok (.iconst 0, 1) := by decide +kernel
theorem d_Mo_prepare_140 : decode b_Mo_prepare 140 = .ok (.istore_n 2, 1) := by decide +kernel
theorem d_Mo_prepare_141 : decode b_Mo_prepare 141 = .ok (.iload_n 2, 1) := by decide +kernel
theorem d_Mo_prepare_142 : decode b_Mo_prepare 142 = .ok (.bipush 26, 2) := by decide +kernel
theorem d_Mo_prepare_144 : decode b_Mo_prepare 144 = .ok (.if_icmp .ge 64, 3) := by decide +kernel
theorem d_Mo_prepare_147 : decode b_Mo_prepare 147 = .ok (.aload_n 0, 1) := by decide +kernel
theorem d_Mo_prepare_148 : decode b_Mo_prepare 148 = .ok (.getfield 56, 3) := by decide +kernel
theorem d_Mo_prepare_151 : decode b_Mo_prepare 151 = .ok (.iload_n 2, 1) := by decide +kernel
theorem d_Mo_prepare_152 : decode b_Mo_prepare 152 = .ok (.iconst 3, 1) := by decide +kernel
theorem d_Mo_prepare_153 : decode b_Mo_prepare 153 = .ok (.iadd, 1) := by decide +kernel
theorem d_Mo_prepare_154 : decode b_Mo_prepare 154 = .ok (.aload_n 0, 1) := by decide +kernel
theorem d_Mo_prepare_155 : decode b_Mo_prepare 155 = .ok (.getfield 53, 3) := by decide +kernel
theorem d_Mo_prepare_158 : decode b_Mo_prepare 158 = .ok (.iload_n 2, 1) := by decide +kernel
theorem d_Mo_prepare_159 : decode b_Mo_prepare 159 = .ok (.iaload, 1) := by decide +kernel
theorem d_Mo_prepare_160 : decode b_Mo_prepare 160 = .ok (.aload_n 0, 1) := by decide +kernel
theorem d_Mo_prepare_161 : decode b_Mo_prepare 161 = .ok (.getfield 56, 3) := by decide +kernel
theorem d_Mo_prepare_164 : decode b_Mo_prepare 164 = .ok (.iload_n 2, 1) := by decide +kernel
theorem d_Mo_prepare_165 : decode b_Mo_prepare 165 = .ok (.iaload, 1) := by decide +kernel
theorem d_Mo_prepare_166 : decode b_Mo_prepare 166 = .ok (.bipush 8, 2) := by decide +kernel
theorem d_Mo_prepare_168 : decode b_Mo_prepare 168 = .ok (.invokestatic 97, 3) := by decide +kernel
theorem d_Mo_prepare_171 : decode b_Mo_prepare 171 = .ok (.iadd, 1) := by decide +kernel
theorem d_Mo_prepare_172 : decode b_Mo_prepare 172 = .ok (.iload_n 2, 1) := by decide +kernel
theorem d_Mo_prepare_173 : decode b_Mo_prepare 173 = .ok (.ixor, 1) := by decide +kernel
theorem d_Mo_prepare_174 : decode b_Mo_prepare 174 = .ok (.iastore, 1) := by decide +kernel
theorem d_Mo_prepare_175 : decode b_Mo_prepare 175 = .ok (.aload_n 0, 1) := by decide +kernel
theorem d_Mo_prepare_176 : decode b_Mo_prepare 176 = .ok (.getfield 53, 3) := by decide +kernel
theorem d_Mo_prepare_179 : decode b_Mo_prepare 179 = .ok (.iload_n 2, 1) := by decide +kernel
theorem d_Mo_prepare_180 : decode b_Mo_prepare 180 = .ok (.iconst 1, 1) := by decide +kernel
theorem d_Mo_prepare_181 : decode b_Mo_prepare 181 = .ok (.iadd, 1) := by decide +kernel
theorem d_Mo_prepare_182 : decode b_Mo_prepare 182 = .ok (.aload_n 0, 1) := by decide +kernel
theorem d_Mo_prepare_183 : decode b_Mo_prepare 183 = .ok (.getfield 53, 3) := by decide +kernel
theorem d_Mo_prepare_186 : decode b_Mo_prepare 186 = .ok (.iload_n 2, 1) := by decide +kernel
theorem d_Mo_prepare_187 : decode b_Mo_prepare 187 = .ok (.iaload, 1) := by decide +kernel
theorem d_Mo_prepare_188 : decode b_Mo_prepare 188 = .ok (.iconst 3, 1) := by decide +kernel
theorem d_Mo_prepare_189 : decode b_Mo_prepare 189 = .ok (.invokestatic 63, 3) := by decide +kernel
theorem d_Mo_prepare_192 : decode b_Mo_prepare 192 = .ok (.aload_n 0, 1) := by decide +kernel
theorem d_Mo_prepare_193 : decode b_Mo_prepare 193 = .ok (.getfield 56, 3) := by decide +kernel
theorem d_Mo_prepare_196 : decode b_Mo_prepare 196 = .ok (.iload_n 2, 1) := by decide +kernel
theorem d_Mo_prepare_197 : decode b_Mo_prepare 197 = .ok (.iconst 3, 1) := by decide +kernel
theorem d_Mo_prepare_198 : decode b_Mo_prepare 198 = .ok (.iadd, 1) := by decide +kernel
theorem d_Mo_prepare_199 : decode b_Mo_prepare 199 = .ok (.iaload, 1) := by decide +kernel
theorem d_Mo_prepare_200 : decode b_Mo_prepare 200 = .ok (.ixor, 1) := by decide +kernel
theorem d_Mo_prepare_201 : decode b_Mo_prepare 201 = .ok (.iastore, 1) := by decide +kernel
theorem d_Mo_prepare_202 : decode b_Mo_prepare 202 = .ok (.iinc 2 1, 3) := by decide +kernel
theorem d_Mo_prepare_205 : decode b_Mo_prepare 205 = .ok (.goto (-64), 3) := by decide +kernel
theorem d_Mo_prepare_208 : decode b_Mo_prepare 208 = .ok (.goto 121, 3) := by decide +kernel
theorem d_Mo_prepare_211 : decode b_Mo_prepare 211 = .ok (.aload_n 0, 1) := by decide +kernel
theorem d_Mo_prepare_212 : decode b_Mo_prepare 212 = .ok (.bipush 44, 2) := by decide +kernel
theorem d_Mo_prepare_214 : decode b_Mo_prepare 214 = .ok (.putfield 91, 3) := by decide +kernel
theorem d_Mo_prepare_217 : decode b_Mo_prepare 217 = .ok (.iconst 0, 1) := by decide +kernel
theorem d_Mo_prepare_218 : decode b_Mo_prepare 218 = .ok (.istore_n 2, 1) := by decide +kernel
theorem d_Mo_prepare_219 : decode b_Mo_prepare 219 = .ok (.iload_n 2, 1) := by decide +kernel
theorem d_Mo_prepare_220 : decode b_Mo_prepare 220 = .ok (.iconst 4, 1) := by decide +kernel
theorem d_Mo_prepare_221 : decode b_Mo_prepare 221 = .ok (.if_icmp .ge 23, 3) := by decide +kernel
theorem d_Mo_prepare_224 : decode b_Mo_prepare 224 = .ok (.aload_n 0, 1) := by decide +kernel
theorem d_Mo_prepare_225 : decode b_Mo_prepare 225 = .ok (.getfield 53, 3) := by decide +kernel
theorem d_Mo_prepare_228 : decode b_Mo_prepare 228 = .ok (.iconst 3, 1) := by decide +kernel
theorem d_Mo_prepare_229 : decode b_Mo_prepare 229 = .ok (.iload_n 2, 1) := by decide +kernel
theorem d_Mo_prepare_230 : decode b_Mo_prepare 230 = .ok (.isub, 1) := by decide +kernel
theorem d_Mo_prepare_231 : decode b_Mo_prepare 231 = .ok (.aload_n 0, 1) := by decide +kernel
theorem d_Mo_prepare_232 : decode b_Mo_prepare 232 = .ok (.iload_n 1, 1) := by decide +kernel
theorem d_Mo_prepare_233 : decode b_Mo_prepare 233 = .ok (.iload_n 2, 1) := by decide +kernel
theorem d_Mo_prepare_234 : decode b_Mo_prepare 234 = .ok (.invokevirtual 94, 3) := by decide +kernel
theorem d_Mo_prepare_237 : decode b_Mo_prepare 237 = .ok (.iastore, 1) := by decide +kernel
theorem d_Mo_prepare_238 : decode b_Mo_prepare 238 = .ok (.iinc 2 1, 3) := by decide +kernel
theorem d_Mo_prepare_241 : decode b_Mo_prepare 241 = .ok (.goto (-22), 3) := by decide +kernel
theorem d_Mo_prepare_244 : decode b_Mo_prepare 244 = .ok (.iconst 4, 1) := by decide +kernel
theorem d_Mo_prepare_245 : decode b_Mo_prepare 245 = .ok (.istore_n 2, 1) := by decide +kernel
theorem d_Mo_prepare_246 : decode b_Mo_prepare 246 = .ok (.iload_n 2, 1) := by decide +kernel
theorem d_Mo_prepare_247 : decode b_Mo_prepare 247 = .ok (.bipush 44, 2) := by decide +kernel
theorem d_Mo_prepare_249 : decode b_Mo_prepare 249 = .ok (.if_icmp .ge 66, 3) := by decide +kernel
theorem d_Mo_prepare_252 : decode b_Mo_prepare 252 = .ok (.aload_n 0, 1) := by decide +kernel
theorem d_Mo_prepare_253 : decode b_Mo_prepare 253 = .ok (.getfield 53, 3) := by decide +kernel
theorem d_Mo_prepare_256 : decode b_Mo_prepare 256 = .ok (.iload_n 2, 1) := by decide +kernel
theorem d_Mo_prepare_257 : decode b_Mo_prepare 257 = .ok (.iconst 1, 1) := by decide +kernel
theorem d_Mo_prepare_258 : decode b_Mo_prepare 258 = .ok (.isub, 1) := by decide +kernel
theorem d_Mo_prepare_259 : decode b_Mo_prepare 259 = .ok (.iaload, 1) := by decide +kernel
theorem d_Mo_prepare_260 : decode b_Mo_prepare 260 = .ok (.iconst 3, 1) := by decide +kernel
theorem d_Mo_prepare_261 : decode b_Mo_prepare 261 = .ok (.invokestatic 97, 3) := by decide +kernel
theorem d_Mo_prepare_264 : decode b_Mo_prepare 264 = .ok (.aload_n 0, 1) := by decide +kernel
theorem d_Mo_prepare_265 : decode b_Mo_prepare 265 = .ok (.getfield 53, 3) := by decide +kernel
theorem d_Mo_prepare_268 : decode b_Mo_prepare 268 = .ok (.iload_n 2, 1) := by decide +kernel
theorem d_Mo_prepare_269 : decode b_Mo_prepare 269 = .ok (.iconst 3, 1) := by decide +kernel
theorem d_Mo_prepare_270 : decode b_Mo_prepare 270 = .ok (.isub, 1) := by decide +kernel
theorem d_Mo_prepare_271 : decode b_Mo_prepare 271 = .ok (.iaload, 1) := by decide +kernel
theorem d_Mo_prepare_272 : decode b_Mo_prepare 272 = .ok (.ixor, 1) := by decide +kernel
theorem d_Mo_prepare_273 : decode b_Mo_prepare 273 = .ok (.istore_n 3, 1) := by decide +kernel
theorem d_Mo_prepare_274 : decode b_Mo_prepare 274 = .ok (.iload_n 3, 1) := by decide +kernel
theorem d_Mo_prepare_275 : decode b_Mo_prepare 275 = .ok (.iload_n 3, 1) := by decide +kernel
theorem d_Mo_prepare_276 : decode b_Mo_prepare 276 = .ok (.iconst 1, 1) := by decide +kernel
theorem d_Mo_prepare_277 : decode b_Mo_prepare 277 = .ok (.invokestatic 97, 3) := by decide +kernel
theorem d_Mo_prepare_280 : decode b_Mo_prepare 280 = .ok (.ixor, 1) := by decide +kernel
theorem d_Mo_prepare_281 : decode b_Mo_prepare 281 = .ok (.istore_n 3, 1) := by decide +kernel
theorem d_Mo_prepare_282 : decode b_Mo_prepare 282 = .ok (.aload_n 0, 1) := by decide +kernel
theorem d_Mo_prepare_283 : decode b_Mo_prepare 283 = .ok (.getfield 53, 3) := by decide +kernel
theorem d_Mo_prepare_286 : decode b_Mo_prepare 286 = .ok (.iload_n 2, 1) := by decide +kernel
theorem d_Mo_prepare_287 : decode b_Mo_prepare 287 = .ok (.aload_n 0, 1) := by decide +kernel
theorem d_Mo_prepare_288 : decode b_Mo_prepare 288 = .ok (.getfield 53, 3) := by decide +kernel
theorem d_Mo_prepare_291 : decode b_Mo_prepare 291 = .ok (.iload_n 2, 1) := by decide +kernel
theorem d_Mo_prepare_292 : decode b_Mo_prepare 292 = .ok (.iconst 4, 1) := by decide +kernel
theorem d_Mo_prepare_293 : decode b_Mo_prepare 293 = .ok (.isub, 1) := by decide +kernel
theorem d_Mo_prepare_294 : decode b_Mo_prepare 294 = .ok (.iaload, 1) := by decide +kernel
theorem d_Mo_prepare_295 : decode b_Mo_prepare 295 = .ok (.iconst (-1), 1) := by decide +kernel
theorem d_Mo_prepare_296 : decode b_Mo_prepare 296 = .ok (.ixor, 1) := by decide +kernel
theorem d_Mo_prepare_297 : decode b_Mo_prepare 297 = .ok (.iload_n 3, 1) := by decide +kernel
theorem d_Mo_prepare_298 : decode b_Mo_prepare 298 = .ok (.ixor, 1) := by decide +kernel
theorem d_Mo_prepare_299 : decode b_Mo_prepare 299 = .ok (.iload_n 2, 1) := by decide +kernel
theorem d_Mo_prepare_300 : decode b_Mo_prepare 300 = .ok (.iconst 4, 1) := by decide +kernel
theorem d_Mo_prepare_301 : decode b_Mo_prepare 301 = .ok (.isub, 1) := by decide +kernel
theorem d_Mo_prepare_302 : decode b_Mo_prepare 302 = .ok (.invokestatic 100, 3) := by decide +kernel
theorem d_Mo_prepare_305 : decode b_Mo_prepare 305 = .ok (.ixor, 1) := by decide +kernel
theorem d_Mo_prepare_306 : decode b_Mo_prepare 306 = .ok (.iconst 3, 1) := by decide +kernel
theorem d_Mo_prepare_307 : decode b_Mo_prepare 307 = .ok (.ixor, 1) := by decide +kernel
theorem d_Mo_prepare_308 : decode b_Mo_prepare 308 = .ok (.iastore, 1) := by decide +kernel
theorem d_Mo_prepare_309 : decode b_Mo_prepare 309 = .ok (.iinc 2 1, 3) := by decide +kernel
theorem d_Mo_prepare_312 : decode b_Mo_prepare 312 = .ok (.goto (-66), 3) := by decide +kernel
theorem d_Mo_prepare_315 : decode b_Mo_prepare 315 = .ok (.goto 14, 3) := by decide +kernel
theorem d_Mo_prepare_318 : decode b_Mo_prepare 318 = .ok (.aload_n 0, 1) := by decide +kernel
theorem d_Mo_prepare_319 : decode b_Mo_prepare 319 = .ok (.bipush 52, 2) := by decide +kernel
theorem d_Mo_prepare_321 : decode b_Mo_prepare 321 = .ok (.putfield 91, 3) := by decide +kernel
theorem d_Mo_prepare_324 : decode b_Mo_prepare 324 = .ok (.aload_n 0, 1) := by decide +kernel
theorem d_Mo_prepare_325 : decode b_Mo_prepare 325 = .ok (.iload_n 1, 1) := by decide +kernel
theorem d_Mo_prepare_326 : decode b_Mo_prepare 326 = .ok (.invokevirtual 104, 3) := by decide +kernel
theorem d_Mo_prepare_329 : decode b_Mo_prepare 329 = .ok (.return_, 1) := by decide +kernel
theorem d_Mo_prepareZero_0 : decode b_Mo_prepareZero 0 = .ok (.aload_n 0, 1) := by decide +kernel
theorem d_Mo_prepareZero_1 : decode b_Mo_prepareZero 1 = .ok (.bipush 26, 2) := by decide +kernel
theorem d_Mo_prepareZero_3 : decode b_Mo_prepareZero 3 = .ok (.putfield 91, 3) := by decide +kernel
theorem d_Mo_prepareZero_6 : decode b_Mo_prepareZero 6 = .ok (.aload_n 0, 1) := by decide +kernel
theorem d_Mo_prepareZero_7 : decode b_Mo_prepareZero 7 = .ok (.getfield 53, 3) := by decide +kernel
theorem d_Mo_prepareZero_10 : decode b_Mo_prepareZero 10 = .ok (.iconst 0, 1) := by decide +kernel
theorem d_Mo_prepareZero_11 : decode b_Mo_prepareZero 11 = .ok (.ldc 107, 2) := by decide +kernel
theorem d_Mo_prepareZero_13 : decode b_Mo_prepareZero 13 = .ok (.iastore, 1) := by decide +kernel
theorem d_Mo_prepareZero_14 : decode b_Mo_prepareZero 14 = .ok (.iconst 1, 1) := by decide +kernel
theorem d_Mo_prepareZero_15 : decode b_Mo_prepareZero 15 = .ok (.istore_n 2, 1) := by decide +kernel
theorem d_Mo_prepareZero_16 : decode b_Mo_prepareZero 16 = .ok (.iload_n 2, 1) := by decide +kernel
theorem d_Mo_prepareZero_17 : decode b_Mo_prepareZero 17 = .ok (.bipush 26, 2) := by decide +kernel
theorem d_Mo_prepareZero_19 : decode b_Mo_prepareZero 19 = .ok (.if_icmp .ge 26, 3) := by decide +kernel
theorem d_Mo_prepareZero_22 : decode b_Mo_prepareZero 22 = .ok (.aload_n 0, 1) := by decide +kernel
theorem d_Mo_prepareZero_23 : decode b_Mo_prepareZero 23 = .ok (.getfield 53, 3) := by decide +kernel
theorem d_Mo_prepareZero_26 : decode b_Mo_prepareZero 26 = .ok (.iload_n 2, 1) := by decide +kernel
theorem d_Mo_prepareZero_27 : decode b_Mo_prepareZero 27 = .ok (.aload_n 0, 1) := by decide +kernel
theorem d_Mo_prepareZero_28 : decode b_Mo_prepareZero 28 = .ok (.getfield 53, 3) := by decide +kernel
theorem d_Mo_prepareZero_31 : decode b_Mo_prepareZero 31 = .ok (.iload_n 2, 1) := by decide +kernel
theorem d_Mo_prepareZero_32 : decode b_Mo_prepareZero 32 = .ok (.iconst 1, 1) := by decide +kernel
theorem d_Mo_prepareZero_33 : decode b_Mo_prepareZero 33 = .ok (.isub, 1) := by decide +kernel
theorem d_Mo_prepareZero_34 : decode b_Mo_prepareZero 34 = .ok (.iaload, 1) := by decide +kernel
theorem d_Mo_prepareZero_35 : decode b_Mo_prepareZero 35 = .ok (.ldc 108, 2) := by decide +kernel
theorem d_Mo_prepareZero_37 : decode b_Mo_prepareZero 37 = .ok (.iadd, 1) := by decide +kernel
theorem d_Mo_prepareZero_38 : decode b_Mo_prepareZero 38 = .ok (.iastore, 1) := by decide +kernel
theorem d_Mo_prepareZero_39 : decode b_Mo_prepareZero 39 = .ok (.iinc 2 1, 3) := by decide +kernel
theorem d_Mo_prepareZero_42 : decode b_Mo_prepareZero 42 = .ok (.goto (-26), 3) := by decide +kernel
theorem d_Mo_prepareZero_45 : decode b_Mo_prepareZero 45 = .ok (.iconst 0, 1) := by decide +kernel
theorem d_Mo_prepareZero_46 : decode b_Mo_prepareZero 46 = .ok (.istore_n 2, 1) := by decide +kernel
theorem d_Mo_prepareZero_47 : decode b_Mo_prepareZero 47 = .ok (.iload_n 2, 1) := by decide +kernel
theorem d_Mo_prepareZero_48 : decode b_Mo_prepareZero 48 = .ok (.iconst 4, 1) := by decide +kernel
theorem d_Mo_prepareZero_49 : decode b_Mo_prepareZero 49 = .ok (.if_icmp .ge 24, 3) := by decide +kernel
theorem d_Mo_prepareZero_52 : decode b_Mo_prepareZero 52 = .ok (.aload_n 0, 1) := by decide +kernel
theorem d_Mo_prepareZero_53 : decode b_Mo_prepareZero 53 = .ok (.getfield 56, 3) := by decide +kernel
theorem d_Mo_prepareZero_56 : decode b_Mo_prepareZero 56 = .ok (.iload_n 2, 1) := by decide +kernel
theorem d_Mo_prepareZero_57 : decode b_Mo_prepareZero 57 = .ok (.aload_n 0, 1) := by decide +kernel
theorem d_Mo_prepareZero_58 : decode b_Mo_prepareZero 58 = .ok (.iload_n 1, 1) := by decide +kernel
theorem d_Mo_prepareZero_59 : decode b_Mo_prepareZero 59 = .ok (.iload_n 2, 1) := by decide +kernel
theorem d_Mo_prepareZero_60 : decode b_Mo_prepareZero 60 = .ok (.invokevirtual 94, 3) := by decide +kernel
theorem d_Mo_prepareZero_63 : decode b_Mo_prepareZero 63 = .ok (.invokestatic 109, 3) := by decide +kernel
theorem d_Mo_prepareZero_66 : decode b_Mo_prepareZero 66 = .ok (.iastore, 1) := by decide +kernel
theorem d_Mo_prepareZero_67 : decode b_Mo_prepareZero 67 = .ok (.iinc 2 1, 3) := by decide +kernel
theorem d_Mo_prepareZero_70 : decode b_Mo_prepareZero 70 = .ok (.goto (-23), 3) := by decide +kernel
theorem d_Mo_prepareZero_73 : decode b_Mo_prepareZero 73 = .ok (.iconst 0, 1) := by decide +kernel
theorem d_Mo_prepareZero_74 : decode b_Mo_prepareZero 74 = .ok (.istore_n 2, 1) := by decide +kernel
theorem d_Mo_prepareZero_75 : decode b_Mo_prepareZero 75 = .ok (.iconst 0, 1) := by decide +kernel
theorem d_Mo_prepareZero_76 : decode b_Mo_prepareZero 76 = .ok (.istore_n 3, 1) := by decide +kernel
theorem d_Mo_prepareZero_77 : decode b_Mo_prepareZero 77 = .ok (.iconst 0, 1) := by decide +kernel
theorem d_Mo_prepareZero_78 : decode b_Mo_prepareZero 78 = .ok (.istore 4, 2) := by decide +kernel
theorem d_Mo_prepareZero_80 : decode b_Mo_prepareZero 80 = .ok (.iload 4, 2) := by decide +kernel
theorem d_Mo_prepareZero_82 : decode b_Mo_prepareZero 82 = .ok (.bipush 78, 2) := by decide +kernel
theorem d_Mo_prepareZero_84 : decode b_Mo_prepareZero 84 = .ok (.if_icmp .ge 84, 3) := by decide +kernel
theorem d_Mo_prepareZero_87 : decode b_Mo_prepareZero 87 = .ok (.iload 4, 2) := by decide +kernel
theorem d_Mo_prepareZero_89 : decode b_Mo_prepareZero 89 = .ok (.bipush 26, 2) := by decide +kernel
theorem d_Mo_prepareZero_91 : decode b_Mo_prepareZero 91 = .ok (.irem, 1) := by decide +kernel
theorem d_Mo_prepareZero_92 : decode b_Mo_prepareZero 92 = .ok (.istore 5, 2) := by decide +kernel
theorem d_Mo_prepareZero_94 : decode b_Mo_prepareZero 94 = .ok (.iload 4, 2) := by decide +kernel
theorem d_Mo_prepareZero_96 : decode b_Mo_prepareZero 96 = .ok (.iconst 4, 1) := by decide +kernel
theorem d_Mo_prepareZero_97 : decode b_Mo_prepareZero 97 = .ok (.irem, 1) := by decide +kernel
theorem d_Mo_prepareZero_98 : decode b_Mo_prepareZero 98 = .ok (.istore 6, 2) := by decide +kernel
theorem d_Mo_prepareZero_100 : decode b_Mo_prepareZero 100 = .ok (.aload_n 0, 1) := by decide +kernel
theorem d_Mo_prepareZero_101 : decode b_Mo_prepareZero 101 = .ok (.getfield 53, 3) := by decide +kernel
theorem d_Mo_prepareZero_104 : decode b_Mo_prepareZero 104 = .ok (.iload 5, 2) := by decide +kernel
theorem d_Mo_prepareZero_106 : decode b_Mo_prepareZero 106 = .ok (.aload_n 0, 1) := by decide +kernel
theorem d_Mo_prepareZero_107 : decode b_Mo_prepareZero 107 = .ok (.getfield 53, 3) := by decide +kernel
theorem d_Mo_prepareZero_110 : decode b_Mo_prepareZero 110 = .ok (.iload 5, 2) := by decide +kernel
theorem d_Mo_prepareZero_112 : decode b_Mo_prepareZero 112 = .ok (.iaload, 1) := by decide +kernel
theorem d_Mo_prepareZero_113 : decode b_Mo_prepareZero 113 = .ok (.iload_n 2, 1) := by decide +kernel
theorem d_Mo_prepareZero_114 : decode b_Mo_prepareZero 114 = .ok (.iadd, 1) := by decide +kernel
theorem d_Mo_prepareZero_115 : decode b_Mo_prepareZero 115 = .ok (.iload_n 3, 1) := by decide +kernel
theorem d_Mo_prepareZero_116 : decode b_Mo_prepareZero 116 = .ok (.iadd, 1) := by decide +kernel
theorem d_Mo_prepareZero_117 : decode b_Mo_prepareZero 117 = .ok (.iconst 3, 1) := by decide +kernel
theorem d_Mo_prepareZero_118 : decode b_Mo_prepareZero 118 = .ok (.invokestatic 63, 3) := by decide +kernel
theorem d_Mo_prepareZero_121 : decode b_Mo_prepareZero 121 = .ok (.iastore, 1) := by decide +kernel
theorem d_Mo_prepareZero_122 : decode b_Mo_prepareZero 122 = .ok (.aload_n 0, 1) := by decide +kernel
theorem d_Mo_prepareZero_123 : decode b_Mo_prepareZero 123 = .ok (.getfield 53, 3) := by decide +kernel
theorem d_Mo_prepareZero_126 : decode b_Mo_prepareZero 126 = .ok (.iload 5, 2) := by decide +kernel
theorem d_Mo_prepareZero_128 : decode b_Mo_prepareZero 128 = .ok (.iaload, 1) := by decide +kernel
theorem d_Mo_prepareZero_129 : decode b_Mo_prepareZero 129 = .ok (.istore_n 2, 1) := by decide +kernel
theorem d_Mo_prepareZero_130 : decode b_Mo_prepareZero 130 = .ok (.aload_n 0, 1) := by decide +kernel
theorem d_Mo_prepareZero_131 : decode b_Mo_prepareZero 131 = .ok (.getfield 56, 3) := by decide +kernel
theorem d_Mo_prepareZero_134 : decode b_Mo_prepareZero 134 = .ok (.iload 6, 2) := by decide +kernel
theorem d_Mo_prepareZero_136 : decode b_Mo_prepareZero 136 = .ok (.aload_n 0, 1) := by decide +kernel
theorem d_Mo_prepareZero_137 : decode b_Mo_prepareZero 137 = .ok (.getfield 56, 3) := by decide +kernel
theorem d_Mo_prepareZero_140 : decode b_Mo_prepareZero 140 = .ok (.iload 6, 2) := by decide +kernel
theorem d_Mo_prepareZero_142 : decode b_Mo_prepareZero 142 = .ok (.iaload, 1) := by decide +kernel
theorem d_Mo_prepareZero_143 : decode b_Mo_prepareZero 143 = .ok (.iload_n 2, 1) := by decide +kernel
theorem d_Mo_prepareZero_144 : decode b_Mo_prepareZero 144 = .ok (.iadd, 1) := by decide +kernel
theorem d_Mo_prepareZero_145 : decode b_Mo_prepareZero 145 = .ok (.iload_n 3, 1) := by decide +kernel
theorem d_Mo_prepareZero_146 : decode b_Mo_prepareZero 146 = .ok (.iadd, 1) := by decide +kernel
theorem d_Mo_prepareZero_147 : decode b_Mo_prepareZero 147 = .ok (.iload_n 2, 1) := by decide +kernel
theorem d_Mo_prepareZero_148 : decode b_Mo_prepareZero 148 = .ok (.iload_n 3, 1) := by decide +kernel
theorem d_Mo_prepareZero_149 : decode b_Mo_prepareZero 149 = .ok (.iadd, 1) := by decide +kernel
theorem d_Mo_prepareZero_150 : decode b_Mo_prepareZero 150 = .ok (.invokestatic 63, 3) := by decide +kernel
theorem d_Mo_prepareZero_153 : decode b_Mo_prepareZero 153 = .ok (.iastore, 1) := by decide +kernel
theorem d_Mo_prepareZero_154 : decode b_Mo_prepareZero 154 = .ok (.aload_n 0, 1) := by decide +kernel
theorem d_Mo_prepareZero_155 : decode b_Mo_prepareZero 155 = .ok (.getfield 56, 3) := by decide +kernel
theorem d_Mo_prepareZero_158 : decode b_Mo_prepareZero 158 = .ok (.iload 6, 2) := by decide +kernel
theorem d_Mo_prepareZero_160 : decode b_Mo_prepareZero 160 = .ok (.iaload, 1) := by decide +kernel
theorem d_Mo_prepareZero_161 : decode b_Mo_prepareZero 161 = .ok (.istore_n 3, 1) := by decide +kernel
theorem d_Mo_prepareZero_162 : decode b_Mo_prepareZero 162 = .ok (.iinc 4 1, 3) := by decide +kernel
theorem d_Mo_prepareZero_165 : decode b_Mo_prepareZero 165 = .ok (.goto (-85), 3) := by decide +kernel
theorem d_Mo_prepareZero_168 : decode b_Mo_prepareZero 168 = .ok (.return_, 1) := by decide +kernel
theorem d_Mo_quarter_0 : decode b_Mo_quarter 0 = .ok (.iload_n 2, 1) := by decide +kernel
theorem d_Mo_quarter_1 : decode b_Mo_quarter 1 = .ok (.iconst 2, 1) := by decide +kernel
theorem d_Mo_quarter_2 : decode b_Mo_quarter 2 = .ok (.if_icmp .ge 12, 3) := by decide +kernel
theorem d_Mo_quarter_5 : decode b_Mo_quarter 5 = .ok (.aload_n 0, 1) := by decide +kernel
theorem d_Mo_quarter_6 : decode b_Mo_quarter 6 = .ok (.getfield 19, 3) := by decide +kernel
theorem d_Mo_quarter_9 : decode b_Mo_quarter 9 = .ok (.iload_n 1, 1) := by decide +kernel
theorem d_Mo_quarter_10 : decode b_Mo_quarter 10 = .ok (.laload, 1) := by decide +kernel
theorem d_Mo_quarter_11 : decode b_Mo_quarter 11 = .ok (.goto 9, 3) := by decide +kernel
theorem d_Mo_quarter_14 : decode b_Mo_quarter 14 = .ok (.aload_n 0, 1) := by decide +kernel
theorem d_Mo_quarter_15 : decode b_Mo_quarter 15 = .ok (.getfield 23, 3) := by decide +kernel
theorem d_Mo_quarter_18 : decode b_Mo_quarter 18 = .ok (.iload_n 1, 1) := by decide +kernel
theorem d_Mo_quarter_19 : decode b_Mo_quarter 19 = .ok (.laload, 1) := by decide +kernel
theorem d_Mo_quarter_20 : decode b_Mo_quarter 20 = .ok (.lstore_n 3, 1) := by decide +kernel
theorem d_Mo_quarter_21 : decode b_Mo_quarter 21 = .ok (.iload_n 2, 1) := by decide +kernel
theorem d_Mo_quarter_22 : decode b_Mo_quarter 22 = .ok (.iconst 2, 1) := by decide +kernel
theorem d_Mo_quarter_23 : decode b_Mo_quarter 23 = .ok (.irem, 1) := by decide +kernel
theorem d_Mo_quarter_24 : decode b_Mo_quarter 24 = .ok (.ifCond .ne 10, 3) := by decide +kernel
theorem d_Mo_quarter_27 : decode b_Mo_quarter 27 = .ok (.lload_n 3, 1) := by decide +kernel
theorem d_Mo_quarter_28 : decode b_Mo_quarter 28 = .ok (.invokestatic 78, 3) := by decide +kernel
theorem d_Mo_quarter_31 : decode b_Mo_quarter 31 = .ok (.goto 5, 3) := by decide +kernel
theorem d_Mo_quarter_34 : decode b_Mo_quarter 34 = .ok (.lload_n 3, 1) := by decide +kernel
theorem d_Mo_quarter_35 : decode b_Mo_quarter 35 = .ok (.l2i, 1) := by decide +kernel
theorem d_Mo_quarter_36 : decode b_Mo_quarter 36 = .ok (.ireturn, 1) := by decide +kernel
theorem d_Mo_upper_0 : decode b_Mo_upper 0 = .ok (.lload_n 0, 1) := by decide +kernel
theorem d_Mo_upper_1 : decode b_Mo_upper 1 = .ok (.bipush 32, 2) := by decide +kernel
theorem d_Mo_upper_3 : decode b_Mo_upper 3 = .ok (.lushr, 1) := by decide +kernel
theorem d_Mo_upper_4 : decode b_Mo_upper 4 = .ok (.l2i, 1) := by decide +kernel
theorem d_Mo_upper_5 : decode b_Mo_upper 5 = .ok (.ireturn, 1) := by decide +kernel
theorem d_Mo_swapped_0 : decode b_Mo_swapped 0 = .ok (.iload_n 0, 1) := by decide +kernel
theorem d_Mo_swapped_1 : decode b_Mo_swapped 1 = .ok (.bipush 24, 2) := by decide +kernel
theorem d_Mo_swapped_3 : decode b_Mo_swapped 3 = .ok (.ishl, 1) := by decide +kernel
theorem d_Mo_swapped_4 : decode b_Mo_swapped 4 = .ok (.iload_n 0, 1) := by decide +kernel
theorem d_Mo_swapped_5 : decode b_Mo_swapped 5 = .ok (.ldc 67, 2) := by decide +kernel
theorem d_Mo_swapped_7 : decode b_Mo_swapped 7 = .ok (.iand, 1) := by decide +kernel
theorem d_Mo_swapped_8 : decode b_Mo_swapped 8 = .ok (.bipush 8, 2) := by decide +kernel
theorem d_Mo_swapped_10 : decode b_Mo_swapped 10 = .ok (.ishl, 1) := by decide +kernel
theorem d_Mo_swapped_11 : decode b_Mo_swapped 11 = .ok (.ior, 1) := by decide +kernel
theorem d_Mo_swapped_12 : decode b_Mo_swapped 12 = .ok (.iload_n 0, 1) := by decide +kernel
theorem d_Mo_swapped_13 : decode b_Mo_swapped 13 = .ok (.bipush 8, 2) := by decide +kernel
theorem d_Mo_swapped_15 : decode b_Mo_swapped 15 = .ok (.iushr, 1) := by decide +kernel
theorem d_Mo_swapped_16 : decode b_Mo_swapped 16 = .ok (.ldc 67, 2) := by decide +kernel
theorem d_Mo_swapped_18 : decode b_Mo_swapped 18 = .ok (.iand, 1) := by decide +kernel
theorem d_Mo_swapped_19 : decode b_Mo_swapped 19 = .ok (.ior, 1) := by decide +kernel
theorem d_Mo_swapped_20 : decode b_Mo_swapped 20 = .ok (.iload_n 0, 1) := by decide +kernel
theorem d_Mo_swapped_21 : decode b_Mo_swapped 21 = .ok (.bipush 24, 2) := by decide +kernel
theorem d_Mo_swapped_23 : decode b_Mo_swapped 23 = .ok (.iushr, 1) := by decide +kernel
theorem d_Mo_swapped_24 : decode b_Mo_swapped 24 = .ok (.ior, 1) := by decide +kernel
theorem d_Mo_swapped_25 : decode b_Mo_swapped 25 = .ok (.ireturn, 1) := by decide +kernel
theorem d_Mo_turn_0 : decode b_Mo_turn 0 = .ok (.iload_n 1, 1) := by decide +kernel
theorem d_Mo_turn_1 : decode b_Mo_turn 1 = .ok (.bipush 31, 2) := by decide +kernel
theorem d_Mo_turn_3 : decode b_Mo_turn 3 = .ok (.iand, 1) := by decide +kernel
theorem d_Mo_turn_4 : decode b_Mo_turn 4 = .ok (.istore_n 2, 1) := by decide +kernel
theorem d_Mo_turn_5 : decode b_Mo_turn 5 = .ok (.iload_n 2, 1) := by decide +kernel
theorem d_Mo_turn_6 : decode b_Mo_turn 6 = .ok (.ifCond .ne 7, 3) := by decide +kernel
theorem d_Mo_turn_9 : decode b_Mo_turn 9 = .ok (.iload_n 0, 1) := by decide +kernel
theorem d_Mo_turn_10 : decode b_Mo_turn 10 = .ok (.goto 13, 3) := by decide +kernel
theorem d_Mo_turn_13 : decode b_Mo_turn 13 = .ok (.iload_n 0, 1) := by decide +kernel
theorem d_Mo_turn_14 : decode b_Mo_turn 14 = .ok (.iload_n 2, 1) := by decide +kernel
theorem d_Mo_turn_15 : decode b_Mo_turn 15 = .ok (.ishl, 1) := by decide +kernel
theorem d_Mo_turn_16 : decode b_Mo_turn 16 = .ok (.iload_n 0, 1) := by decide +kernel
theorem d_Mo_turn_17 : decode b_Mo_turn 17 = .ok (.bipush 32, 2) := by decide +kernel
theorem d_Mo_turn_19 : decode b_Mo_turn 19 = .ok (.iload_n 2, 1) := by decide +kernel
theorem d_Mo_turn_20 : decode b_Mo_turn 20 = .ok (.isub, 1) := by decide +kernel
theorem d_Mo_turn_21 : decode b_Mo_turn 21 = .ok (.iushr, 1) := by decide +kernel
theorem d_Mo_turn_22 : decode b_Mo_turn 22 = .ok (.ior, 1) := by decide +kernel
theorem d_Mo_turn_23 : decode b_Mo_turn 23 = .ok (.ireturn, 1) := by decide +kernel
theorem d_Mo_back_0 : decode b_Mo_back 0 = .ok (.iload_n 0, 1) := by decide +kernel
theorem d_Mo_back_1 : decode b_Mo_back 1 = .ok (.bipush 32, 2) := by decide +kernel
theorem d_Mo_back_3 : decode b_Mo_back 3 = .ok (.iload_n 1, 1) := by decide +kernel
theorem d_Mo_back_4 : decode b_Mo_back 4 = .ok (.bipush 31, 2) := by decide +kernel
theorem d_Mo_back_6 : decode b_Mo_back 6 = .ok (.iand, 1) := by decide +kernel
theorem d_Mo_back_7 : decode b_Mo_back 7 = .ok (.isub, 1) := by decide +kernel
theorem d_Mo_back_8 : decode b_Mo_back 8 = .ok (.invokestatic 63, 3) := by decide +kernel
theorem d_Mo_back_11 : decode b_Mo_back 11 = .ok (.ireturn, 1) := by decide +kernel
theorem d_Mo_bit_0 : decode b_Mo_bit 0 = .ok (.iload_n 0, 1) := by decide +kernel

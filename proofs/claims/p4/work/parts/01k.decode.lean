theorem d_Mo_onFour_182 : decode b_Mo_onFour 182 = .ok (.iinc 7 6, 3) := by decide +kernel
theorem d_Mo_onFour_185 : decode b_Mo_onFour 185 = .ok (.goto (-155), 3) := by decide +kernel
theorem d_Mo_onFour_188 : decode b_Mo_onFour 188 = .ok (.iload_n 3, 1) := by decide +kernel
theorem d_Mo_onFour_189 : decode b_Mo_onFour 189 = .ok (.aload_n 0, 1) := by decide +kernel
theorem d_Mo_onFour_190 : decode b_Mo_onFour 190 = .ok (.getfield 53, 3) := by decide +kernel
theorem d_Mo_onFour_193 : decode b_Mo_onFour 193 = .ok (.bipush 48, 2) := by decide +kernel
theorem d_Mo_onFour_195 : decode b_Mo_onFour 195 = .ok (.iaload, 1) := by decide +kernel
theorem d_Mo_onFour_196 : decode b_Mo_onFour 196 = .ok (.invokestatic 75, 3) := by decide +kernel
theorem d_Mo_onFour_199 : decode b_Mo_onFour 199 = .ok (.iload 5, 2) := by decide +kernel
theorem d_Mo_onFour_201 : decode b_Mo_onFour 201 = .ok (.aload_n 0, 1) := by decide +kernel
theorem d_Mo_onFour_202 : decode b_Mo_onFour 202 = .ok (.getfield 53, 3) := by decide +kernel
theorem d_Mo_onFour_205 : decode b_Mo_onFour 205 = .ok (.bipush 49, 2) := by decide +kernel
theorem d_Mo_onFour_207 : decode b_Mo_onFour 207 = .ok (.iaload, 1) := by decide +kernel
theorem d_Mo_onFour_208 : decode b_Mo_onFour 208 = .ok (.invokestatic 128, 3) := by decide +kernel
theorem d_Mo_onFour_211 : decode b_Mo_onFour 211 = .ok (.iload 4, 2) := by decide +kernel
theorem d_Mo_onFour_213 : decode b_Mo_onFour 213 = .ok (.aload_n 0, 1) := by decide +kernel
theorem d_Mo_onFour_214 : decode b_Mo_onFour 214 = .ok (.getfield 53, 3) := by decide +kernel
theorem d_Mo_onFour_217 : decode b_Mo_onFour 217 = .ok (.bipush 50, 2) := by decide +kernel
theorem d_Mo_onFour_219 : decode b_Mo_onFour 219 = .ok (.iaload, 1) := by decide +kernel
theorem d_Mo_onFour_220 : decode b_Mo_onFour 220 = .ok (.invokestatic 128, 3) := by decide +kernel
theorem d_Mo_onFour_223 : decode b_Mo_onFour 223 = .ok (.iload 6, 2) := by decide +kernel
theorem d_Mo_onFour_225 : decode b_Mo_onFour 225 = .ok (.aload_n 0, 1) := by decide +kernel
theorem d_Mo_onFour_226 : decode b_Mo_onFour 226 = .ok (.getfield 53, 3) := by decide +kernel
theorem d_Mo_onFour_229 : decode b_Mo_onFour 229 = .ok (.bipush 51, 2) := by decide +kernel
theorem d_Mo_onFour_231 : decode b_Mo_onFour 231 = .ok (.iaload, 1) := by decide +kernel
theorem d_Mo_onFour_232 : decode b_Mo_onFour 232 = .ok (.invokestatic 75, 3) := by decide +kernel
theorem d_Mo_onFour_235 : decode b_Mo_onFour 235 = .ok (.invokestatic 131, 3) := by decide +kernel
theorem d_Mo_onFour_238 : decode b_Mo_onFour 238 = .ok (.lreturn, 1) := by decide +kernel
theorem d_Mo_sum_0 : decode b_Mo_sum 0 = .ok (.iload_n 0, 1) := by decide +kernel
theorem d_Mo_sum_1 : decode b_Mo_sum 1 = .ok (.iload_n 1, 1) := by decide +kernel
theorem d_Mo_sum_2 : decode b_Mo_sum 2 = .ok (.iadd, 1) := by decide +kernel
theorem d_Mo_sum_3 : decode b_Mo_sum 3 = .ok (.ldc 74, 2) := by decide +kernel
theorem d_Mo_sum_5 : decode b_Mo_sum 5 = .ok (.iand, 1) := by decide +kernel
theorem d_Mo_sum_6 : decode b_Mo_sum 6 = .ok (.ireturn, 1) := by decide +kernel
theorem d_Mo_word_0 : decode b_Mo_word 0 = .ok (.aload_n 0, 1) := by decide +kernel
theorem d_Mo_word_1 : decode b_Mo_word 1 = .ok (.iload_n 1, 1) := by decide +kernel
theorem d_Mo_word_2 : decode b_Mo_word 2 = .ok (.invokestatic 138, 3) := by decide +kernel
theorem d_Mo_word_5 : decode b_Mo_word 5 = .ok (.ifCond .ne 7, 3) := by decide +kernel
theorem d_Mo_word_8 : decode b_Mo_word 8 = .ok (.iconst 1, 1) := by decide +kernel
theorem d_Mo_word_9 : decode b_Mo_word 9 = .ok (.goto 16, 3) := by decide +kernel
theorem d_Mo_word_12 : decode b_Mo_word 12 = .ok (.aload_n 0, 1) := by decide +kernel
theorem d_Mo_word_13 : decode b_Mo_word 13 = .ok (.iload_n 1, 1) := by decide +kernel
theorem d_Mo_word_14 : decode b_Mo_word 14 = .ok (.invokevirtual 145, 3) := by decide +kernel
theorem d_Mo_word_17 : decode b_Mo_word 17 = .ok (.ifCond .ne 7, 3) := by decide +kernel
theorem d_Mo_word_20 : decode b_Mo_word 20 = .ok (.iconst 2, 1) := by decide +kernel
theorem d_Mo_word_21 : decode b_Mo_word 21 = .ok (.goto 4, 3) := by decide +kernel
theorem d_Mo_word_24 : decode b_Mo_word 24 = .ok (.iconst 0, 1) := by decide +kernel
theorem d_Mo_word_25 : decode b_Mo_word 25 = .ok (.invokevirtual 142, 3) := by decide +kernel
theorem d_Mo_word_28 : decode b_Mo_word 28 = .ok (.ifCond .eq 5, 3) := by decide +kernel
theorem d_Mo_word_31 : decode b_Mo_word 31 = .ok (.iconst 0, 1) := by decide +kernel
theorem d_Mo_word_32 : decode b_Mo_word 32 = .ok (.ireturn, 1) := by decide +kernel
theorem d_Mo_word_33 : decode b_Mo_word 33 = .ok (.aload_n 0, 1) := by decide +kernel
theorem d_Mo_word_34 : decode b_Mo_word 34 = .ok (.iload_n 1, 1) := by decide +kernel
theorem d_Mo_word_35 : decode b_Mo_word 35 = .ok (.invokevirtual 151, 3) := by decide +kernel
theorem d_Mo_word_38 : decode b_Mo_word 38 = .ok (.iload_n 2, 1) := by decide +kernel
theorem d_Mo_word_39 : decode b_Mo_word 39 = .ok (.ifCond .lt 11, 3) := by decide +kernel
theorem d_Mo_word_42 : decode b_Mo_word 42 = .ok (.iload_n 2, 1) := by decide +kernel
theorem d_Mo_word_43 : decode b_Mo_word 43 = .ok (.aload_n 0, 1) := by decide +kernel
theorem d_Mo_word_44 : decode b_Mo_word 44 = .ok (.getfield 91, 3) := by decide +kernel
theorem d_Mo_word_47 : decode b_Mo_word 47 = .ok (.if_icmp .lt 7, 3) := by decide +kernel
theorem d_Mo_word_50 : decode b_Mo_word 50 = .ok (.iconst (-1), 1) := by decide +kernel
theorem d_Mo_word_51 : decode b_Mo_word 51 = .ok (.goto 9, 3) := by decide +kernel
theorem d_Mo_word_54 : decode b_Mo_word 54 = .ok (.aload_n 0, 1) := by decide +kernel
theorem d_Mo_word_55 : decode b_Mo_word 55 = .ok (.getfield 53, 3) := by decide +kernel
theorem d_Mo_word_58 : decode b_Mo_word 58 = .ok (.iload_n 2, 1) := by decide +kernel
theorem d_Mo_word_59 : decode b_Mo_word 59 = .ok (.iaload, 1) := by decide +kernel
theorem d_Mo_word_60 : decode b_Mo_word 60 = .ok (.ireturn, 1) := by decide +kernel
theorem d_Mo_put_0 : decode b_Mo_put 0 = .ok (.aload_n 0, 1) := by decide +kernel
theorem d_Mo_put_1 : decode b_Mo_put 1 = .ok (.iload_n 1, 1) := by decide +kernel
theorem d_Mo_put_2 : decode b_Mo_put 2 = .ok (.ifCond .lt 9, 3) := by decide +kernel
theorem d_Mo_put_5 : decode b_Mo_put 5 = .ok (.iload_n 1, 1) := by decide +kernel
theorem d_Mo_put_6 : decode b_Mo_put 6 = .ok (.bipush 63, 2) := by decide +kernel
theorem d_Mo_put_8 : decode b_Mo_put 8 = .ok (.if_icmp .le 7, 3) := by decide +kernel
theorem d_Mo_put_11 : decode b_Mo_put 11 = .ok (.iconst 1, 1) := by decide +kernel
theorem d_Mo_put_12 : decode b_Mo_put 12 = .ok (.goto 4, 3) := by decide +kernel
theorem d_Mo_put_15 : decode b_Mo_put 15 = .ok (.iconst 0, 1) := by decide +kernel
theorem d_Mo_put_16 : decode b_Mo_put 16 = .ok (.invokevirtual 142, 3) := by decide +kernel
theorem d_Mo_put_19 : decode b_Mo_put 19 = .ok (.ifCond .ne 14, 3) := by decide +kernel
theorem d_Mo_put_22 : decode b_Mo_put 22 = .ok (.aload_n 0, 1) := by decide +kernel
theorem d_Mo_put_23 : decode b_Mo_put 23 = .ok (.getfield 7, 3) := by decide +kernel
theorem d_Mo_put_26 : decode b_Mo_put 26 = .ok (.iload_n 1, 1) := by decide +kernel
theorem d_Mo_put_27 : decode b_Mo_put 27 = .ok (.iload_n 2, 1) := by decide +kernel
theorem d_Mo_put_28 : decode b_Mo_put 28 = .ok (.sipush 255, 3) := by decide +kernel
theorem d_Mo_put_31 : decode b_Mo_put 31 = .ok (.iand, 1) := by decide +kernel
theorem d_Mo_put_32 : decode b_Mo_put 32 = .ok (.iastore, 1) := by decide +kernel
theorem d_Mo_put_33 : decode b_Mo_put 33 = .ok (.return_, 1) := by decide +kernel
theorem d_Mo_get_0 : decode b_Mo_get 0 = .ok (.aload_n 0, 1) := by decide +kernel
theorem d_Mo_get_1 : decode b_Mo_get 1 = .ok (.iload_n 1, 1) := by decide +kernel
theorem d_Mo_get_2 : decode b_Mo_get 2 = .ok (.ifCond .lt 9, 3) := by decide +kernel
theorem d_Mo_get_5 : decode b_Mo_get 5 = .ok (.iload_n 1, 1) := by decide +kernel
theorem d_Mo_get_6 : decode b_Mo_get 6 = .ok (.bipush 63, 2) := by decide +kernel
theorem d_Mo_get_8 : decode b_Mo_get 8 = .ok (.if_icmp .le 7, 3) := by decide +kernel
theorem d_Mo_get_11 : decode b_Mo_get 11 = .ok (.iconst 1, 1) := by decide +kernel
theorem d_Mo_get_12 : decode b_Mo_get 12 = .ok (.goto 4, 3) := by decide +kernel
theorem d_Mo_get_15 : decode b_Mo_get 15 = .ok (.iconst 0, 1) := by decide +kernel
theorem d_Mo_get_16 : decode b_Mo_get 16 = .ok (.invokevirtual 142, 3) := by decide +kernel
theorem d_Mo_get_19 : decode b_Mo_get 19 = .ok (.ifCond .eq 7, 3) := by decide +kernel
theorem d_Mo_get_22 : decode b_Mo_get 22 = .ok (.iconst 0, 1) := by decide +kernel
theorem d_Mo_get_23 : decode b_Mo_get 23 = .ok (.goto 9, 3) := by decide +kernel
theorem d_Mo_get_26 : decode b_Mo_get 26 = .ok (.aload_n 0, 1) := by decide +kernel
theorem d_Mo_get_27 : decode b_Mo_get 27 = .ok (.getfield 7, 3) := by decide +kernel
theorem d_Mo_get_30 : decode b_Mo_get 30 = .ok (.iload_n 1, 1) := by decide +kernel
theorem d_Mo_get_31 : decode b_Mo_get 31 = .ok (.iaload, 1) := by decide +kernel
theorem d_Mo_get_32 : decode b_Mo_get 32 = .ok (.ireturn, 1) := by decide +kernel
theorem d_Mo_feed_0 : decode b_Mo_feed 0 = .ok (.iload_n 1, 1) := by decide +kernel
theorem d_Mo_feed_1 : decode b_Mo_feed 1 = .ok (.invokestatic 138, 3) := by decide +kernel
theorem d_Mo_feed_4 : decode b_Mo_feed 4 = .ok (.ifCond .eq 16, 3) := by decide +kernel
theorem d_Mo_feed_7 : decode b_Mo_feed 7 = .ok (.iload_n 3, 1) := by decide +kernel
theorem d_Mo_feed_8 : decode b_Mo_feed 8 = .ok (.iload 4, 2) := by decide +kernel
theorem d_Mo_feed_10 : decode b_Mo_feed 10 = .ok (.invokestatic 168, 3) := by decide +kernel
theorem d_Mo_feed_13 : decode b_Mo_feed 13 = .ok (.ifCond .eq 7, 3) := by decide +kernel
theorem d_Mo_feed_16 : decode b_Mo_feed 16 = .ok (.iconst 1, 1) := by decide +kernel
theorem d_Mo_feed_17 : decode b_Mo_feed 17 = .ok (.goto 4, 3) := by decide +kernel
theorem d_Mo_feed_20 : decode b_Mo_feed 20 = .ok (.iconst 0, 1) := by decide +kernel
theorem d_Mo_feed_21 : decode b_Mo_feed 21 = .ok (.istore 5, 2) := by decide +kernel
theorem d_Mo_feed_23 : decode b_Mo_feed 23 = .ok (.aload_n 0, 1) := by decide +kernel
theorem d_Mo_feed_24 : decode b_Mo_feed 24 = .ok (.iload 5, 2) := by decide +kernel
theorem d_Mo_feed_26 : decode b_Mo_feed 26 = .ok (.ifCond .ne 7, 3) := by decide +kernel
theorem d_Mo_feed_29 : decode b_Mo_feed 29 = .ok (.iconst 1, 1) := by decide +kernel
theorem d_Mo_feed_30 : decode b_Mo_feed 30 = .ok (.goto 50, 3) := by decide +kernel
theorem d_Mo_feed_33 : decode b_Mo_feed 33 = .ok (.aload_n 0, 1) := by decide +kernel
theorem d_Mo_feed_34 : decode b_Mo_feed 34 = .ok (.getfield 13, 3) := by decide +kernel
theorem d_Mo_feed_37 : decode b_Mo_feed 37 = .ok (.iload_n 1, 1) := by decide +kernel
theorem d_Mo_feed_38 : decode b_Mo_feed 38 = .ok (.iaload, 1) := by decide +kernel
theorem d_Mo_feed_39 : decode b_Mo_feed 39 = .ok (.iconst 3, 1) := by decide +kernel
theorem d_Mo_feed_40 : decode b_Mo_feed 40 = .ok (.if_icmp .ne 13, 3) := by decide +kernel
theorem d_Mo_feed_43 : decode b_Mo_feed 43 = .ok (.aload_n 0, 1) := by decide +kernel
theorem d_Mo_feed_44 : decode b_Mo_feed 44 = .ok (.getfield 26, 3) := by decide +kernel
theorem d_Mo_feed_47 : decode b_Mo_feed 47 = .ok (.iload_n 1, 1) := by decide +kernel
theorem d_Mo_feed_48 : decode b_Mo_feed 48 = .ok (.iaload, 1) := by decide +kernel
theorem d_Mo_feed_49 : decode b_Mo_feed 49 = .ok (.iconst 5, 1) := by decide +kernel
theorem d_Mo_feed_50 : decode b_Mo_feed 50 = .ok (.if_icmp .ne 7, 3) := by decide +kernel
theorem d_Mo_feed_53 : decode b_Mo_feed 53 = .ok (.iconst 2, 1) := by decide +kernel
theorem d_Mo_feed_54 : decode b_Mo_feed 54 = .ok (.goto 26, 3) := by decide +kernel
theorem d_Mo_feed_57 : decode b_Mo_feed 57 = .ok (.aload_n 0, 1) := by decide +kernel
theorem d_Mo_feed_58 : decode b_Mo_feed 58 = .ok (.getfield 26, 3) := by decide +kernel
theorem d_Mo_feed_61 : decode b_Mo_feed 61 = .ok (.iload_n 1, 1) := by decide +kernel
theorem d_Mo_feed_62 : decode b_Mo_feed 62 = .ok (.iaload, 1) := by decide +kernel
theorem d_Mo_feed_63 : decode b_Mo_feed 63 = .ok (.iconst 2, 1) := by decide +kernel
theorem d_Mo_feed_64 : decode b_Mo_feed 64 = .ok (.if_icmp .ge 15, 3) := by decide +kernel
theorem d_Mo_feed_67 : decode b_Mo_feed 67 = .ok (.iload 4, 2) := by decide +kernel
theorem d_Mo_feed_69 : decode b_Mo_feed 69 = .ok (.bipush 8, 2) := by decide +kernel
theorem d_Mo_feed_71 : decode b_Mo_feed 71 = .ok (.irem, 1) := by decide +kernel
theorem d_Mo_feed_72 : decode b_Mo_feed 72 = .ok (.ifCond .eq 7, 3) := by decide +kernel
theorem d_Mo_feed_75 : decode b_Mo_feed 75 = .ok (.iconst 3, 1) := by decide +kernel
theorem d_Mo_feed_76 : decode b_Mo_feed 76 = .ok (.goto 4, 3) := by decide +kernel
theorem d_Mo_feed_79 : decode b_Mo_feed 79 = .ok (.iconst 0, 1) := by decide +kernel
theorem d_Mo_feed_80 : decode b_Mo_feed 80 = .ok (.invokevirtual 142, 3) := by decide +kernel
theorem d_Mo_feed_83 : decode b_Mo_feed 83 = .ok (.ifCond .eq 5, 3) := by decide +kernel
theorem d_Mo_feed_86 : decode b_Mo_feed 86 = .ok (.iconst 0, 1) := by decide +kernel
theorem d_Mo_feed_87 : decode b_Mo_feed 87 = .ok (.ireturn, 1) := by decide +kernel
theorem d_Mo_feed_88 : decode b_Mo_feed 88 = .ok (.aload_n 0, 1) := by decide +kernel
theorem d_Mo_feed_89 : decode b_Mo_feed 89 = .ok (.iload_n 1, 1) := by decide +kernel
theorem d_Mo_feed_90 : decode b_Mo_feed 90 = .ok (.invokevirtual 151, 3) := by decide +kernel
theorem d_Mo_feed_93 : decode b_Mo_feed 93 = .ok (.iconst 0, 1) := by decide +kernel
theorem d_Mo_feed_94 : decode b_Mo_feed 94 = .ok (.istore 6, 2) := by decide +kernel
theorem d_Mo_feed_96 : decode b_Mo_feed 96 = .ok (.iload 6, 2) := by decide +kernel
theorem d_Mo_feed_98 : decode b_Mo_feed 98 = .ok (.iload 4, 2) := by decide +kernel
theorem d_Mo_feed_100 : decode b_Mo_feed 100 = .ok (.if_icmp .ge 50, 3) := by decide +kernel
theorem d_Mo_feed_103 : decode b_Mo_feed 103 = .ok (.aload_n 0, 1) := by decide +kernel
theorem d_Mo_feed_104 : decode b_Mo_feed 104 = .ok (.getfield 26, 3) := by decide +kernel
theorem d_Mo_feed_107 : decode b_Mo_feed 107 = .ok (.iload_n 1, 1) := by decide +kernel
theorem d_Mo_feed_108 : decode b_Mo_feed 108 = .ok (.iaload, 1) := by decide +kernel
theorem d_Mo_feed_109 : decode b_Mo_feed 109 = .ok (.iconst 1, 1) := by decide +kernel
theorem d_Mo_feed_110 : decode b_Mo_feed 110 = .ok (.if_icmp .le 16, 3) := by decide +kernel
theorem d_Mo_feed_113 : decode b_Mo_feed 113 = .ok (.aload_n 0, 1) := by decide +kernel
theorem d_Mo_feed_114 : decode b_Mo_feed 114 = .ok (.iload_n 1, 1) := by decide +kernel
theorem d_Mo_feed_115 : decode b_Mo_feed 115 = .ok (.iload_n 2, 1) := by decide +kernel
theorem d_Mo_feed_116 : decode b_Mo_feed 116 = .ok (.iload_n 3, 1) := by decide +kernel
theorem d_Mo_feed_117 : decode b_Mo_feed 117 = .ok (.iload 6, 2) := by decide +kernel
theorem d_Mo_feed_119 : decode b_Mo_feed 119 = .ok (.iadd, 1) := by decide +kernel
theorem d_Mo_feed_120 : decode b_Mo_feed 120 = .ok (.invokevirtual 172, 3) := by decide +kernel
theorem d_Mo_feed_123 : decode b_Mo_feed 123 = .ok (.goto 21, 3) := by decide +kernel
theorem d_Mo_feed_126 : decode b_Mo_feed 126 = .ok (.iload 6, 2) := by decide +kernel
theorem d_Mo_feed_128 : decode b_Mo_feed 128 = .ok (.bipush 8, 2) := by decide +kernel
theorem d_Mo_feed_130 : decode b_Mo_feed 130 = .ok (.irem, 1) := by decide +kernel
theorem d_Mo_feed_131 : decode b_Mo_feed 131 = .ok (.ifCond .ne 13, 3) := by decide +kernel
theorem d_Mo_feed_134 : decode b_Mo_feed 134 = .ok (.aload_n 0, 1) := by decide +kernel
theorem d_Mo_feed_135 : decode b_Mo_feed 135 = .ok (.iload_n 1, 1) := by decide +kernel
theorem d_Mo_feed_136 : decode b_Mo_feed 136 = .ok (.iload_n 2, 1) := by decide +kernel
theorem d_Mo_feed_137 : decode b_Mo_feed 137 = .ok (.iload_n 3, 1) := by decide +kernel
theorem d_Mo_feed_138 : decode b_Mo_feed 138 = .ok (.iload 6, 2) := by decide +kernel
theorem d_Mo_feed_140 : decode b_Mo_feed 140 = .ok (.iadd, 1) := by decide +kernel
theorem d_Mo_feed_141 : decode b_Mo_feed 141 = .ok (.invokevirtual 176, 3) := by decide +kernel
theorem d_Mo_feed_144 : decode b_Mo_feed 144 = .ok (.iinc 6 1, 3) := by decide +kernel
theorem d_Mo_feed_147 : decode b_Mo_feed 147 = .ok (.goto (-51), 3) := by decide +kernel
theorem d_Mo_feed_150 : decode b_Mo_feed 150 = .ok (.aload_n 0, 1) := by decide +kernel
theorem d_Mo_feed_151 : decode b_Mo_feed 151 = .ok (.getfield 38, 3) := by decide +kernel
theorem d_Mo_feed_154 : decode b_Mo_feed 154 = .ok (.iload_n 1, 1) := by decide +kernel
theorem d_Mo_feed_155 : decode b_Mo_feed 155 = .ok (.aload_n 0, 1) := by decide +kernel
theorem d_Mo_feed_156 : decode b_Mo_feed 156 = .ok (.getfield 38, 3) := by decide +kernel
theorem d_Mo_feed_159 : decode b_Mo_feed 159 = .ok (.iload_n 1, 1) := by decide +kernel
theorem d_Mo_feed_160 : decode b_Mo_feed 160 = .ok (.iaload, 1) := by decide +kernel
theorem d_Mo_feed_161 : decode b_Mo_feed 161 = .ok (.iload 4, 2) := by decide +kernel
theorem d_Mo_feed_163 : decode b_Mo_feed 163 = .ok (.iadd, 1) := by decide +kernel
theorem d_Mo_feed_164 : decode b_Mo_feed 164 = .ok (.iastore, 1) := by decide +kernel
theorem d_Mo_feed_165 : decode b_Mo_feed 165 = .ok (.aload_n 0, 1) := by decide +kernel
theorem d_Mo_feed_166 : decode b_Mo_feed 166 = .ok (.getfield 38, 3) := by decide +kernel
theorem d_Mo_feed_169 : decode b_Mo_feed 169 = .ok (.iload_n 1, 1) := by decide +kernel
theorem d_Mo_feed_170 : decode b_Mo_feed 170 = .ok (.iaload, 1) := by decide +kernel
theorem d_Mo_feed_171 : decode b_Mo_feed 171 = .ok (.ireturn, 1) := by decide +kernel
theorem d_Mo_isPart_0 : decode b_Mo_isPart 0 = .ok (.iload_n 0, 1) := by decide +kernel
theorem d_Mo_isPart_1 : decode b_Mo_isPart 1 = .ok (.ifCond .lt 25, 3) := by decide +kernel
theorem d_Mo_isPart_4 : decode b_Mo_isPart 4 = .ok (.iload_n 1, 1) := by decide +kernel
theorem d_Mo_isPart_5 : decode b_Mo_isPart 5 = .ok (.ifCond .lt 21, 3) := by decide +kernel
theorem d_Mo_isPart_8 : decode b_Mo_isPart 8 = .ok (.iload_n 0, 1) := by decide +kernel
theorem d_Mo_isPart_9 : decode b_Mo_isPart 9 = .ok (.bipush 64, 2) := by decide +kernel
theorem d_Mo_isPart_11 : decode b_Mo_isPart 11 = .ok (.if_icmp .gt 15, 3) := by decide +kernel
theorem d_Mo_isPart_14 : decode b_Mo_isPart 14 = .ok (.iload_n 1, 1) := by decide +kernel
theorem d_Mo_isPart_15 : decode b_Mo_isPart 15 = .ok (.bipush 64, 2) := by decide +kernel
theorem d_Mo_isPart_17 : decode b_Mo_isPart 17 = .ok (.iload_n 0, 1) := by decide +kernel
theorem d_Mo_isPart_18 : decode b_Mo_isPart 18 = .ok (.isub, 1) := by decide +kernel
theorem d_Mo_isPart_19 : decode b_Mo_isPart 19 = .ok (.if_icmp .gt 7, 3) := by decide +kernel
theorem d_Mo_isPart_22 : decode b_Mo_isPart 22 = .ok (.iconst 1, 1) := by decide +kernel
theorem d_Mo_isPart_23 : decode b_Mo_isPart 23 = .ok (.goto 4, 3) := by decide +kernel
theorem d_Mo_isPart_26 : decode b_Mo_isPart 26 = .ok (.iconst 0, 1) := by decide +kernel
theorem d_Mo_isPart_27 : decode b_Mo_isPart 27 = .ok (.ireturn, 1) := by decide +kernel
theorem d_Mo_feedByte_0 : decode b_Mo_feedByte 0 = .ok (.aload_n 0, 1) := by decide +kernel
theorem d_Mo_feedByte_1 : decode b_Mo_feedByte 1 = .ok (.getfield 7, 3) := by decide +kernel
theorem d_Mo_feedByte_4 : decode b_Mo_feedByte 4 = .ok (.iload_n 3, 1) := by decide +kernel
theorem d_Mo_feedByte_5 : decode b_Mo_feedByte 5 = .ok (.iaload, 1) := by decide +kernel
theorem d_Mo_feedByte_6 : decode b_Mo_feedByte 6 = .ok (.istore 4, 2) := by decide +kernel
theorem d_Mo_feedByte_8 : decode b_Mo_feedByte 8 = .ok (.aload_n 0, 1) := by decide +kernel
theorem d_Mo_feedByte_9 : decode b_Mo_feedByte 9 = .ok (.getfield 26, 3) := by decide +kernel
theorem d_Mo_feedByte_12 : decode b_Mo_feedByte 12 = .ok (.iload_n 1, 1) := by decide +kernel
theorem d_Mo_feedByte_13 : decode b_Mo_feedByte 13 = .ok (.iaload, 1) := by decide +kernel
theorem d_Mo_feedByte_14 : decode b_Mo_feedByte 14 = .ok (.iconst 2, 1) := by decide +kernel
theorem d_Mo_feedByte_15 : decode b_Mo_feedByte 15 = .ok (.if_icmp .ne 59, 3) := by decide +kernel
theorem d_Mo_feedByte_18 : decode b_Mo_feedByte 18 = .ok (.iload 4, 2) := by decide +kernel
theorem d_Mo_feedByte_20 : decode b_Mo_feedByte 20 = .ok (.aload_n 0, 1) := by decide +kernel
theorem d_Mo_feedByte_21 : decode b_Mo_feedByte 21 = .ok (.aload_n 0, 1) := by decide +kernel
theorem d_Mo_feedByte_22 : decode b_Mo_feedByte 22 = .ok (.getfield 32, 3) := by decide +kernel
theorem d_Mo_feedByte_25 : decode b_Mo_feedByte 25 = .ok (.iload_n 1, 1) := by decide +kernel
theorem d_Mo_feedByte_26 : decode b_Mo_feedByte 26 = .ok (.laload, 1) := by decide +kernel
theorem d_Mo_feedByte_27 : decode b_Mo_feedByte 27 = .ok (.invokevirtual 157, 3) := by decide +kernel
theorem d_Mo_feedByte_30 : decode b_Mo_feedByte 30 = .ok (.bipush 56, 2) := by decide +kernel
theorem d_Mo_feedByte_32 : decode b_Mo_feedByte 32 = .ok (.lushr, 1) := by decide +kernel
theorem d_Mo_feedByte_33 : decode b_Mo_feedByte 33 = .ok (.l2i, 1) := by decide +kernel
theorem d_Mo_feedByte_34 : decode b_Mo_feedByte 34 = .ok (.ixor, 1) := by decide +kernel
theorem d_Mo_feedByte_35 : decode b_Mo_feedByte 35 = .ok (.istore 5, 2) := by decide +kernel
theorem d_Mo_feedByte_37 : decode b_Mo_feedByte 37 = .ok (.aload_n 0, 1) := by decide +kernel
theorem d_Mo_feedByte_38 : decode b_Mo_feedByte 38 = .ok (.getfield 32, 3) := by decide +kernel
theorem d_Mo_feedByte_41 : decode b_Mo_feedByte 41 = .ok (.iload_n 1, 1) := by decide +kernel
theorem d_Mo_feedByte_42 : decode b_Mo_feedByte 42 = .ok (.aload_n 0, 1) := by decide +kernel
theorem d_Mo_feedByte_43 : decode b_Mo_feedByte 43 = .ok (.getfield 32, 3) := by decide +kernel
theorem d_Mo_feedByte_46 : decode b_Mo_feedByte 46 = .ok (.iload_n 1, 1) := by decide +kernel
theorem d_Mo_feedByte_47 : decode b_Mo_feedByte 47 = .ok (.laload, 1) := by decide +kernel
theorem d_Mo_feedByte_48 : decode b_Mo_feedByte 48 = .ok (.bipush 8, 2) := by decide +kernel
theorem d_Mo_feedByte_50 : decode b_Mo_feedByte 50 = .ok (.lshl, 1) := by decide +kernel
theorem d_Mo_feedByte_51 : decode b_Mo_feedByte 51 = .ok (.iload_n 2, 1) := by decide +kernel
theorem d_Mo_feedByte_52 : decode b_Mo_feedByte 52 = .ok (.ifCond .eq 8, 3) := by decide +kernel
theorem d_Mo_feedByte_55 : decode b_Mo_feedByte 55 = .ok (.iload 4, 2) := by decide +kernel
theorem d_Mo_feedByte_57 : decode b_Mo_feedByte 57 = .ok (.goto 5, 3) := by decide +kernel
theorem d_Mo_feedByte_60 : decode b_Mo_feedByte 60 = .ok (.iload 5, 2) := by decide +kernel
theorem d_Mo_feedByte_62 : decode b_Mo_feedByte 62 = .ok (.i2l, 1) := by decide +kernel
theorem d_Mo_feedByte_63 : decode b_Mo_feedByte 63 = .ok (.lor, 1) := by decide +kernel
theorem d_Mo_feedByte_64 : decode b_Mo_feedByte 64 = .ok (.lastore, 1) := by decide +kernel
theorem d_Mo_feedByte_65 : decode b_Mo_feedByte 65 = .ok (.aload_n 0, 1) := by decide +kernel
theorem d_Mo_feedByte_66 : decode b_Mo_feedByte 66 = .ok (.getfield 7, 3) := by decide +kernel
theorem d_Mo_feedByte_69 : decode b_Mo_feedByte 69 = .ok (.iload_n 3, 1) := by decide +kernel
theorem d_Mo_feedByte_70 : decode b_Mo_feedByte 70 = .ok (.iload 5, 2) := by decide +kernel
theorem d_Mo_feedByte_72 : decode b_Mo_feedByte 72 = .ok (.iastore, 1) := by decide +kernel
theorem d_Mo_feedByte_73 : decode b_Mo_feedByte 73 = .ok (.return_, 1) := by decide +kernel
theorem d_Mo_feedByte_74 : decode b_Mo_feedByte 74 = .ok (.aload_n 0, 1) := by decide +kernel
theorem d_Mo_feedByte_75 : decode b_Mo_feedByte 75 = .ok (.getfield 26, 3) := by decide +kernel
theorem d_Mo_feedByte_78 : decode b_Mo_feedByte 78 = .ok (.iload_n 1, 1) := by decide +kernel
theorem d_Mo_feedByte_79 : decode b_Mo_feedByte 79 = .ok (.iaload, 1) := by decide +kernel
theorem d_Mo_feedByte_80 : decode b_Mo_feedByte 80 = .ok (.iconst 3, 1) := by decide +kernel
theorem d_Mo_feedByte_81 : decode b_Mo_feedByte 81 = .ok (.if_icmp .ne 28, 3) := by decide +kernel
theorem d_Mo_feedByte_84 : decode b_Mo_feedByte 84 = .ok (.aload_n 0, 1) := by decide +kernel
theorem d_Mo_feedByte_85 : decode b_Mo_feedByte 85 = .ok (.getfield 35, 3) := by decide +kernel
theorem d_Mo_feedByte_88 : decode b_Mo_feedByte 88 = .ok (.iload_n 1, 1) := by decide +kernel
theorem d_Mo_feedByte_89 : decode b_Mo_feedByte 89 = .ok (.iaload, 1) := by decide +kernel
theorem d_Mo_feedByte_90 : decode b_Mo_feedByte 90 = .ok (.ifCond .ne 19, 3) := by decide +kernel
theorem d_Mo_feedByte_93 : decode b_Mo_feedByte 93 = .ok (.aload_n 0, 1) := by decide +kernel
theorem d_Mo_feedByte_94 : decode b_Mo_feedByte 94 = .ok (.getfield 32, 3) := by decide +kernel
theorem d_Mo_feedByte_97 : decode b_Mo_feedByte 97 = .ok (.iload_n 1, 1) := by decide +kernel
theorem d_Mo_feedByte_98 : decode b_Mo_feedByte 98 = .ok (.aload_n 0, 1) := by decide +kernel
theorem d_Mo_feedByte_99 : decode b_Mo_feedByte 99 = .ok (.aload_n 0, 1) := by decide +kernel
theorem d_Mo_feedByte_100 : decode b_Mo_feedByte 100 = .ok (.getfield 32, 3) := by decide +kernel
theorem d_Mo_feedByte_103 : decode b_Mo_feedByte 103 = .ok (.iload_n 1, 1) := by decide +kernel
theorem d_Mo_feedByte_104 : decode b_Mo_feedByte 104 = .ok (.laload, 1) := by decide +kernel
theorem d_Mo_feedByte_105 : decode b_Mo_feedByte 105 = .ok (.invokevirtual 157, 3) := by decide +kernel
theorem d_Mo_feedByte_108 : decode b_Mo_feedByte 108 = .ok (.lastore, 1) := by decide +kernel
theorem d_Mo_feedByte_109 : decode b_Mo_feedByte 109 = .ok (.aload_n 0, 1) := by decide +kernel
theorem d_Mo_feedByte_110 : decode b_Mo_feedByte 110 = .ok (.getfield 26, 3) := by decide +kernel
theorem d_Mo_feedByte_113 : decode b_Mo_feedByte 113 = .ok (.iload_n 1, 1) := by decide +kernel
theorem d_Mo_feedByte_114 : decode b_Mo_feedByte 114 = .ok (.iaload, 1) := by decide +kernel
theorem d_Mo_feedByte_115 : decode b_Mo_feedByte 115 = .ok (.iconst 3, 1) := by decide +kernel
theorem d_Mo_feedByte_116 : decode b_Mo_feedByte 116 = .ok (.if_icmp .ne 12, 3) := by decide +kernel
theorem d_Mo_feedByte_119 : decode b_Mo_feedByte 119 = .ok (.aload_n 0, 1) := by decide +kernel
theorem d_Mo_feedByte_120 : decode b_Mo_feedByte 120 = .ok (.getfield 32, 3) := by decide +kernel
theorem d_Mo_feedByte_123 : decode b_Mo_feedByte 123 = .ok (.iload_n 1, 1) := by decide +kernel
theorem d_Mo_feedByte_124 : decode b_Mo_feedByte 124 = .ok (.laload, 1) := by decide +kernel
theorem d_Mo_feedByte_125 : decode b_Mo_feedByte 125 = .ok (.goto 13, 3) := by decide +kernel
theorem d_Mo_feedByte_128 : decode b_Mo_feedByte 128 = .ok (.aload_n 0, 1) := by decide +kernel
theorem d_Mo_feedByte_129 : decode b_Mo_feedByte 129 = .ok (.aload_n 0, 1) := by decide +kernel
theorem d_Mo_feedByte_130 : decode b_Mo_feedByte 130 = .ok (.getfield 32, 3) := by decide +kernel
theorem d_Mo_feedByte_133 : decode b_Mo_feedByte 133 = .ok (.iload_n 1, 1) := by decide +kernel
theorem d_Mo_feedByte_134 : decode b_Mo_feedByte 134 = .ok (.laload, 1) := by decide +kernel
theorem d_Mo_feedByte_135 : decode b_Mo_feedByte 135 = .ok (.invokevirtual 157, 3) := by decide +kernel
theorem d_Mo_feedByte_138 : decode b_Mo_feedByte 138 = .ok (.lstore 5, 2) := by decide +kernel
theorem d_Mo_feedByte_140 : decode b_Mo_feedByte 140 = .ok (.aload_n 0, 1) := by decide +kernel
theorem d_Mo_feedByte_141 : decode b_Mo_feedByte 141 = .ok (.getfield 7, 3) := by decide +kernel
theorem d_Mo_feedByte_144 : decode b_Mo_feedByte 144 = .ok (.iload_n 3, 1) := by decide +kernel
theorem d_Mo_feedByte_145 : decode b_Mo_feedByte 145 = .ok (.iload 4, 2) := by decide +kernel
theorem d_Mo_feedByte_147 : decode b_Mo_feedByte 147 = .ok (.lload 5, 2) := by decide +kernel
theorem d_Mo_feedByte_149 : decode b_Mo_feedByte 149 = .ok (.bipush 56, 2) := by decide +kernel
theorem d_Mo_feedByte_151 : decode b_Mo_feedByte 151 = .ok (.bipush 8, 2) := by decide +kernel
theorem d_Mo_feedByte_153 : decode b_Mo_feedByte 153 = .ok (.aload_n 0, 1) := by decide +kernel
theorem d_Mo_feedByte_154 : decode b_Mo_feedByte 154 = .ok (.getfield 35, 3) := by decide +kernel
theorem d_Mo_feedByte_157 : decode b_Mo_feedByte 157 = .ok (.iload_n 1, 1) := by decide +kernel
theorem d_Mo_feedByte_158 : decode b_Mo_feedByte 158 = .ok (.iaload, 1) := by decide +kernel
theorem d_Mo_feedByte_159 : decode b_Mo_feedByte 159 = .ok (.imul, 1) := by decide +kernel
theorem d_Mo_feedByte_160 : decode b_Mo_feedByte 160 = .ok (.isub, 1) := by decide +kernel
theorem d_Mo_feedByte_161 : decode b_Mo_feedByte 161 = .ok (.lushr, 1) := by decide +kernel
theorem d_Mo_feedByte_162 : decode b_Mo_feedByte 162 = .ok (.l2i, 1) := by decide +kernel
theorem d_Mo_feedByte_163 : decode b_Mo_feedByte 163 = .ok (.sipush 255, 3) := by decide +kernel
theorem d_Mo_feedByte_166 : decode b_Mo_feedByte 166 = .ok (.iand, 1) := by decide +kernel
theorem d_Mo_feedByte_167 : decode b_Mo_feedByte 167 = .ok (.ixor, 1) := by decide +kernel
theorem d_Mo_feedByte_168 : decode b_Mo_feedByte 168 = .ok (.iastore, 1) := by decide +kernel
theorem d_Mo_feedByte_169 : decode b_Mo_feedByte 169 = .ok (.aload_n 0, 1) := by decide +kernel
theorem d_Mo_feedByte_170 : decode b_Mo_feedByte 170 = .ok (.getfield 35, 3) := by decide +kernel
theorem d_Mo_feedByte_173 : decode b_Mo_feedByte 173 = .ok (.iload_n 1, 1) := by decide +kernel
theorem d_Mo_feedByte_174 : decode b_Mo_feedByte 174 = .ok (.aload_n 0, 1) := by decide +kernel
theorem d_Mo_feedByte_175 : decode b_Mo_feedByte 175 = .ok (.getfield 35, 3) := by decide +kernel
theorem d_Mo_feedByte_178 : decode b_Mo_feedByte 178 = .ok (.iload_n 1, 1) := by decide +kernel
theorem d_Mo_feedByte_179 : decode b_Mo_feedByte 179 = .ok (.iaload, 1) := by decide +kernel
theorem d_Mo_feedByte_180 : decode b_Mo_feedByte 180 = .ok (.iconst 1, 1) := by decide +kernel
theorem d_Mo_feedByte_181 : decode b_Mo_feedByte 181 = .ok (.iadd, 1) := by decide +kernel
theorem d_Mo_feedByte_182 : decode b_Mo_feedByte 182 = .ok (.bipush 8, 2) := by decide +kernel
theorem d_Mo_feedByte_184 : decode b_Mo_feedByte 184 = .ok (.irem, 1) := by decide +kernel
theorem d_Mo_feedByte_185 : decode b_Mo_feedByte 185 = .ok (.iastore, 1) := by decide +kernel
theorem d_Mo_feedByte_186 : decode b_Mo_feedByte 186 = .ok (.aload_n 0, 1) := by decide +kernel
theorem d_Mo_feedByte_187 : decode b_Mo_feedByte 187 = .ok (.getfield 32, 3) := by decide +kernel
theorem d_Mo_feedByte_190 : decode b_Mo_feedByte 190 = .ok (.iload_n 1, 1) := by decide +kernel
theorem d_Mo_feedByte_191 : decode b_Mo_feedByte 191 = .ok (.aload_n 0, 1) := by decide +kernel
theorem d_Mo_feedByte_192 : decode b_Mo_feedByte 192 = .ok (.getfield 26, 3) := by decide +kernel
theorem d_Mo_feedByte_195 : decode b_Mo_feedByte 195 = .ok (.iload_n 1, 1) := by decide +kernel
theorem d_Mo_feedByte_196 : decode b_Mo_feedByte 196 = .ok (.iaload, 1) := by decide +kernel
theorem d_Mo_feedByte_197 : decode b_Mo_feedByte 197 = .ok (.iconst 4, 1) := by decide +kernel
theorem d_Mo_feedByte_198 : decode b_Mo_feedByte 198 = .ok (.if_icmp .ne 23, 3) := by decide +kernel
theorem d_Mo_feedByte_201 : decode b_Mo_feedByte 201 = .ok (.aload_n 0, 1) := by decide +kernel
theorem d_Mo_feedByte_202 : decode b_Mo_feedByte 202 = .ok (.getfield 35, 3) := by decide +kernel
theorem d_Mo_feedByte_205 : decode b_Mo_feedByte 205 = .ok (.iload_n 1, 1) := by decide +kernel
theorem d_Mo_feedByte_206 : decode b_Mo_feedByte 206 = .ok (.iaload, 1) := by decide +kernel
theorem d_Mo_feedByte_207 : decode b_Mo_feedByte 207 = .ok (.ifCond .ne 14, 3) := by decide +kernel
theorem d_Mo_feedByte_210 : decode b_Mo_feedByte 210 = .ok (.aload_n 0, 1) := by decide +kernel
theorem d_Mo_feedByte_211 : decode b_Mo_feedByte 211 = .ok (.getfield 32, 3) := by decide +kernel
theorem d_Mo_feedByte_214 : decode b_Mo_feedByte 214 = .ok (.iload_n 1, 1) := by decide +kernel
theorem d_Mo_feedByte_215 : decode b_Mo_feedByte 215 = .ok (.laload, 1) := by decide +kernel
theorem d_Mo_feedByte_216 : decode b_Mo_feedByte 216 = .ok (.lconst 1, 1) := by decide +kernel
theorem d_Mo_feedByte_217 : decode b_Mo_feedByte 217 = .ok (.ladd, 1) := by decide +kernel
theorem d_Mo_feedByte_218 : decode b_Mo_feedByte 218 = .ok (.goto 9, 3) := by decide +kernel
theorem d_Mo_feedByte_221 : decode b_Mo_feedByte 221 = .ok (.aload_n 0, 1) := by decide +kernel
theorem d_Mo_feedByte_222 : decode b_Mo_feedByte 222 = .ok (.getfield 32, 3) := by decide +kernel
theorem d_Mo_feedByte_225 : decode b_Mo_feedByte 225 = .ok (.iload_n 1, 1) := by decide +kernel
theorem d_Mo_feedByte_226 : decode b_Mo_feedByte 226 = .ok (.laload, 1) := by decide +kernel
theorem d_Mo_feedByte_227 : decode b_Mo_feedByte 227 = .ok (.lastore, 1) := by decide +kernel
theorem d_Mo_feedByte_228 : decode b_Mo_feedByte 228 = .ok (.return_, 1) := by decide +kernel
theorem d_Mo_feedBlock_0 : decode b_Mo_feedBlock 0 = .ok (.aload_n 0, 1) := by decide +kernel
theorem d_Mo_feedBlock_1 : decode b_Mo_feedBlock 1 = .ok (.iload_n 3, 1) := by decide +kernel
theorem d_Mo_feedBlock_2 : decode b_Mo_feedBlock 2 = .ok (.invokevirtual 160, 3) := by decide +kernel
theorem d_Mo_feedBlock_5 : decode b_Mo_feedBlock 5 = .ok (.lstore 4, 2) := by decide +kernel
theorem d_Mo_feedBlock_7 : decode b_Mo_feedBlock 7 = .ok (.aload_n 0, 1) := by decide +kernel
theorem d_Mo_feedBlock_8 : decode b_Mo_feedBlock 8 = .ok (.getfield 26, 3) := by decide +kernel
theorem d_Mo_feedBlock_11 : decode b_Mo_feedBlock 11 = .ok (.iload_n 1, 1) := by decide +kernel
theorem d_Mo_feedBlock_12 : decode b_Mo_feedBlock 12 = .ok (.iaload, 1) := by decide +kernel
theorem d_Mo_feedBlock_13 : decode b_Mo_feedBlock 13 = .ok (.ifCond .ne 30, 3) := by decide +kernel
theorem d_Mo_feedBlock_16 : decode b_Mo_feedBlock 16 = .ok (.aload_n 0, 1) := by decide +kernel
theorem d_Mo_feedBlock_17 : decode b_Mo_feedBlock 17 = .ok (.iload_n 3, 1) := by decide +kernel
theorem d_Mo_feedBlock_18 : decode b_Mo_feedBlock 18 = .ok (.iload_n 2, 1) := by decide +kernel
theorem d_Mo_feedBlock_19 : decode b_Mo_feedBlock 19 = .ok (.ifCond .eq 12, 3) := by decide +kernel
theorem d_Mo_feedBlock_22 : decode b_Mo_feedBlock 22 = .ok (.aload_n 0, 1) := by decide +kernel
theorem d_Mo_feedBlock_23 : decode b_Mo_feedBlock 23 = .ok (.lload 4, 2) := by decide +kernel
theorem d_Mo_feedBlock_25 : decode b_Mo_feedBlock 25 = .ok (.invokevirtual 154, 3) := by decide +kernel
theorem d_Mo_feedBlock_28 : decode b_Mo_feedBlock 28 = .ok (.goto 9, 3) := by decide +kernel
theorem d_Mo_feedBlock_31 : decode b_Mo_feedBlock 31 = .ok (.aload_n 0, 1) := by decide +kernel
theorem d_Mo_feedBlock_32 : decode b_Mo_feedBlock 32 = .ok (.lload 4, 2) := by decide +kernel
theorem d_Mo_feedBlock_34 : decode b_Mo_feedBlock 34 = .ok (.invokevirtual 157, 3) := by decide +kernel
theorem d_Mo_feedBlock_37 : decode b_Mo_feedBlock 37 = .ok (.invokevirtual 164, 3) := by decide +kernel
theorem d_Mo_feedBlock_40 : decode b_Mo_feedBlock 40 = .ok (.goto 66, 3) := by decide +kernel
theorem d_Mo_feedBlock_43 : decode b_Mo_feedBlock 43 = .ok (.iload_n 2, 1) := by decide +kernel
theorem d_Mo_feedBlock_44 : decode b_Mo_feedBlock 44 = .ok (.ifCond .eq 32, 3) := by decide +kernel
theorem d_Mo_feedBlock_47 : decode b_Mo_feedBlock 47 = .ok (.aload_n 0, 1) := by decide +kernel
theorem d_Mo_feedBlock_48 : decode b_Mo_feedBlock 48 = .ok (.iload_n 3, 1) := by decide +kernel
theorem d_Mo_feedBlock_49 : decode b_Mo_feedBlock 49 = .ok (.aload_n 0, 1) := by decide +kernel
theorem d_Mo_feedBlock_50 : decode b_Mo_feedBlock 50 = .ok (.lload 4, 2) := by decide +kernel
theorem d_Mo_feedBlock_52 : decode b_Mo_feedBlock 52 = .ok (.invokevirtual 154, 3) := by decide +kernel
theorem d_Mo_feedBlock_55 : decode b_Mo_feedBlock 55 = .ok (.aload_n 0, 1) := by decide +kernel
theorem d_Mo_feedBlock_56 : decode b_Mo_feedBlock 56 = .ok (.getfield 32, 3) := by decide +kernel
theorem d_Mo_feedBlock_59 : decode b_Mo_feedBlock 59 = .ok (.iload_n 1, 1) := by decide +kernel
theorem d_Mo_feedBlock_60 : decode b_Mo_feedBlock 60 = .ok (.laload, 1) := by decide +kernel
theorem d_Mo_feedBlock_61 : decode b_Mo_feedBlock 61 = .ok (.lxor, 1) := by decide +kernel
theorem d_Mo_feedBlock_62 : decode b_Mo_feedBlock 62 = .ok (.invokevirtual 164, 3) := by decide +kernel
theorem d_Mo_feedBlock_65 : decode b_Mo_feedBlock 65 = .ok (.aload_n 0, 1) := by decide +kernel
theorem d_Mo_feedBlock_66 : decode b_Mo_feedBlock 66 = .ok (.getfield 32, 3) := by decide +kernel
theorem d_Mo_feedBlock_69 : decode b_Mo_feedBlock 69 = .ok (.iload_n 1, 1) := by decide +kernel
theorem d_Mo_feedBlock_70 : decode b_Mo_feedBlock 70 = .ok (.lload 4, 2) := by decide +kernel
theorem d_Mo_feedBlock_72 : decode b_Mo_feedBlock 72 = .ok (.lastore, 1) := by decide +kernel

theorem d_Mo_bit_1 : decode b_Mo_bit 1 = .ok (.bipush 31, 2) := by decide +kernel
theorem d_Mo_bit_3 : decode b_Mo_bit 3 = .ok (.if_icmp .ge 15, 3) := by decide +kernel
theorem d_Mo_bit_6 : decode b_Mo_bit 6 = .ok (.ldc 82, 2) := by decide +kernel
theorem d_Mo_bit_8 : decode b_Mo_bit 8 = .ok (.bipush 30, 2) := by decide +kernel
theorem d_Mo_bit_10 : decode b_Mo_bit 10 = .ok (.iload_n 0, 1) := by decide +kernel
theorem d_Mo_bit_11 : decode b_Mo_bit 11 = .ok (.isub, 1) := by decide +kernel
theorem d_Mo_bit_12 : decode b_Mo_bit 12 = .ok (.ishr, 1) := by decide +kernel
theorem d_Mo_bit_13 : decode b_Mo_bit 13 = .ok (.iconst 1, 1) := by decide +kernel
theorem d_Mo_bit_14 : decode b_Mo_bit 14 = .ok (.iand, 1) := by decide +kernel
theorem d_Mo_bit_15 : decode b_Mo_bit 15 = .ok (.goto 12, 3) := by decide +kernel
theorem d_Mo_bit_18 : decode b_Mo_bit 18 = .ok (.ldc 83, 2) := by decide +kernel
theorem d_Mo_bit_20 : decode b_Mo_bit 20 = .ok (.bipush 61, 2) := by decide +kernel
theorem d_Mo_bit_22 : decode b_Mo_bit 22 = .ok (.iload_n 0, 1) := by decide +kernel
theorem d_Mo_bit_23 : decode b_Mo_bit 23 = .ok (.isub, 1) := by decide +kernel
theorem d_Mo_bit_24 : decode b_Mo_bit 24 = .ok (.ishr, 1) := by decide +kernel
theorem d_Mo_bit_25 : decode b_Mo_bit 25 = .ok (.iconst 1, 1) := by decide +kernel
theorem d_Mo_bit_26 : decode b_Mo_bit 26 = .ok (.iand, 1) := by decide +kernel
theorem d_Mo_bit_27 : decode b_Mo_bit 27 = .ok (.ireturn, 1) := by decide +kernel
theorem d_Mo_prepareFour_0 : decode b_Mo_prepareFour 0 = .ok (.aload_n 0, 1) := by decide +kernel
theorem d_Mo_prepareFour_1 : decode b_Mo_prepareFour 1 = .ok (.getfield 19, 3) := by decide +kernel
theorem d_Mo_prepareFour_4 : decode b_Mo_prepareFour 4 = .ok (.iload_n 1, 1) := by decide +kernel
theorem d_Mo_prepareFour_5 : decode b_Mo_prepareFour 5 = .ok (.laload, 1) := by decide +kernel
theorem d_Mo_prepareFour_6 : decode b_Mo_prepareFour 6 = .ok (.lstore_n 2, 1) := by decide +kernel
theorem d_Mo_prepareFour_7 : decode b_Mo_prepareFour 7 = .ok (.aload_n 0, 1) := by decide +kernel
theorem d_Mo_prepareFour_8 : decode b_Mo_prepareFour 8 = .ok (.getfield 23, 3) := by decide +kernel
theorem d_Mo_prepareFour_11 : decode b_Mo_prepareFour 11 = .ok (.iload_n 1, 1) := by decide +kernel
theorem d_Mo_prepareFour_12 : decode b_Mo_prepareFour 12 = .ok (.laload, 1) := by decide +kernel
theorem d_Mo_prepareFour_13 : decode b_Mo_prepareFour 13 = .ok (.lstore 4, 2) := by decide +kernel
theorem d_Mo_prepareFour_15 : decode b_Mo_prepareFour 15 = .ok (.iconst 0, 1) := by decide +kernel
theorem d_Mo_prepareFour_16 : decode b_Mo_prepareFour 16 = .ok (.istore 6, 2) := by decide +kernel
theorem d_Mo_prepareFour_18 : decode b_Mo_prepareFour 18 = .ok (.iload 6, 2) := by decide +kernel
theorem d_Mo_prepareFour_20 : decode b_Mo_prepareFour 20 = .ok (.bipush 52, 2) := by decide +kernel
theorem d_Mo_prepareFour_22 : decode b_Mo_prepareFour 22 = .ok (.if_icmp .ge 90, 3) := by decide +kernel
theorem d_Mo_prepareFour_25 : decode b_Mo_prepareFour 25 = .ok (.iload 6, 2) := by decide +kernel
theorem d_Mo_prepareFour_27 : decode b_Mo_prepareFour 27 = .ok (.ifCond .le 38, 3) := by decide +kernel
theorem d_Mo_prepareFour_30 : decode b_Mo_prepareFour 30 = .ok (.iload 6, 2) := by decide +kernel
theorem d_Mo_prepareFour_32 : decode b_Mo_prepareFour 32 = .ok (.bipush 8, 2) := by decide +kernel
theorem d_Mo_prepareFour_34 : decode b_Mo_prepareFour 34 = .ok (.irem, 1) := by decide +kernel
theorem d_Mo_prepareFour_35 : decode b_Mo_prepareFour 35 = .ok (.ifCond .ne 30, 3) := by decide +kernel
theorem d_Mo_prepareFour_38 : decode b_Mo_prepareFour 38 = .ok (.lload_n 2, 1) := by decide +kernel
theorem d_Mo_prepareFour_39 : decode b_Mo_prepareFour 39 = .ok (.bipush 25, 2) := by decide +kernel
theorem d_Mo_prepareFour_41 : decode b_Mo_prepareFour 41 = .ok (.lshl, 1) := by decide +kernel
theorem d_Mo_prepareFour_42 : decode b_Mo_prepareFour 42 = .ok (.lload 4, 2) := by decide +kernel
theorem d_Mo_prepareFour_44 : decode b_Mo_prepareFour 44 = .ok (.bipush 39, 2) := by decide +kernel
theorem d_Mo_prepareFour_46 : decode b_Mo_prepareFour 46 = .ok (.lushr, 1) := by decide +kernel
theorem d_Mo_prepareFour_47 : decode b_Mo_prepareFour 47 = .ok (.lor, 1) := by decide +kernel
theorem d_Mo_prepareFour_48 : decode b_Mo_prepareFour 48 = .ok (.lstore 7, 2) := by decide +kernel
theorem d_Mo_prepareFour_50 : decode b_Mo_prepareFour 50 = .ok (.lload 4, 2) := by decide +kernel
theorem d_Mo_prepareFour_52 : decode b_Mo_prepareFour 52 = .ok (.bipush 25, 2) := by decide +kernel
theorem d_Mo_prepareFour_54 : decode b_Mo_prepareFour 54 = .ok (.lshl, 1) := by decide +kernel
theorem d_Mo_prepareFour_55 : decode b_Mo_prepareFour 55 = .ok (.lload_n 2, 1) := by decide +kernel
theorem d_Mo_prepareFour_56 : decode b_Mo_prepareFour 56 = .ok (.bipush 39, 2) := by decide +kernel
theorem d_Mo_prepareFour_58 : decode b_Mo_prepareFour 58 = .ok (.lushr, 1) := by decide +kernel
theorem d_Mo_prepareFour_59 : decode b_Mo_prepareFour 59 = .ok (.lor, 1) := by decide +kernel
theorem d_Mo_prepareFour_60 : decode b_Mo_prepareFour 60 = .ok (.lstore 4, 2) := by decide +kernel
theorem d_Mo_prepareFour_62 : decode b_Mo_prepareFour 62 = .ok (.lload 7, 2) := by decide +kernel
theorem d_Mo_prepareFour_64 : decode b_Mo_prepareFour 64 = .ok (.lstore_n 2, 1) := by decide +kernel
theorem d_Mo_prepareFour_65 : decode b_Mo_prepareFour 65 = .ok (.iload 6, 2) := by decide +kernel
theorem d_Mo_prepareFour_67 : decode b_Mo_prepareFour 67 = .ok (.bipush 8, 2) := by decide +kernel
theorem d_Mo_prepareFour_69 : decode b_Mo_prepareFour 69 = .ok (.irem, 1) := by decide +kernel
theorem d_Mo_prepareFour_70 : decode b_Mo_prepareFour 70 = .ok (.iconst 4, 1) := by decide +kernel
theorem d_Mo_prepareFour_71 : decode b_Mo_prepareFour 71 = .ok (.if_icmp .ge 7, 3) := by decide +kernel
theorem d_Mo_prepareFour_74 : decode b_Mo_prepareFour 74 = .ok (.lload_n 2, 1) := by decide +kernel
theorem d_Mo_prepareFour_75 : decode b_Mo_prepareFour 75 = .ok (.goto 5, 3) := by decide +kernel
theorem d_Mo_prepareFour_78 : decode b_Mo_prepareFour 78 = .ok (.lload 4, 2) := by decide +kernel
theorem d_Mo_prepareFour_80 : decode b_Mo_prepareFour 80 = .ok (.lstore 7, 2) := by decide +kernel
theorem d_Mo_prepareFour_82 : decode b_Mo_prepareFour 82 = .ok (.aload_n 0, 1) := by decide +kernel
theorem d_Mo_prepareFour_83 : decode b_Mo_prepareFour 83 = .ok (.getfield 53, 3) := by decide +kernel
theorem d_Mo_prepareFour_86 : decode b_Mo_prepareFour 86 = .ok (.iload 6, 2) := by decide +kernel
theorem d_Mo_prepareFour_88 : decode b_Mo_prepareFour 88 = .ok (.lload 7, 2) := by decide +kernel
theorem d_Mo_prepareFour_90 : decode b_Mo_prepareFour 90 = .ok (.bipush 48, 2) := by decide +kernel
theorem d_Mo_prepareFour_92 : decode b_Mo_prepareFour 92 = .ok (.bipush 16, 2) := by decide +kernel
theorem d_Mo_prepareFour_94 : decode b_Mo_prepareFour 94 = .ok (.iload 6, 2) := by decide +kernel
theorem d_Mo_prepareFour_96 : decode b_Mo_prepareFour 96 = .ok (.iconst 4, 1) := by decide +kernel
theorem d_Mo_prepareFour_97 : decode b_Mo_prepareFour 97 = .ok (.irem, 1) := by decide +kernel
theorem d_Mo_prepareFour_98 : decode b_Mo_prepareFour 98 = .ok (.imul, 1) := by decide +kernel
theorem d_Mo_prepareFour_99 : decode b_Mo_prepareFour 99 = .ok (.isub, 1) := by decide +kernel
theorem d_Mo_prepareFour_100 : decode b_Mo_prepareFour 100 = .ok (.lushr, 1) := by decide +kernel
theorem d_Mo_prepareFour_101 : decode b_Mo_prepareFour 101 = .ok (.l2i, 1) := by decide +kernel
theorem d_Mo_prepareFour_102 : decode b_Mo_prepareFour 102 = .ok (.ldc 74, 2) := by decide +kernel
theorem d_Mo_prepareFour_104 : decode b_Mo_prepareFour 104 = .ok (.iand, 1) := by decide +kernel
theorem d_Mo_prepareFour_105 : decode b_Mo_prepareFour 105 = .ok (.iastore, 1) := by decide +kernel
theorem d_Mo_prepareFour_106 : decode b_Mo_prepareFour 106 = .ok (.iinc 6 1, 3) := by decide +kernel
theorem d_Mo_prepareFour_109 : decode b_Mo_prepareFour 109 = .ok (.goto (-91), 3) := by decide +kernel
theorem d_Mo_prepareFour_112 : decode b_Mo_prepareFour 112 = .ok (.return_, 1) := by decide +kernel
theorem d_Mo_off_0 : decode b_Mo_off 0 = .ok (.lload_n 1, 1) := by decide +kernel
theorem d_Mo_off_1 : decode b_Mo_off 1 = .ok (.invokestatic 78, 3) := by decide +kernel
theorem d_Mo_off_4 : decode b_Mo_off 4 = .ok (.istore_n 3, 1) := by decide +kernel
theorem d_Mo_off_5 : decode b_Mo_off 5 = .ok (.lload_n 1, 1) := by decide +kernel
theorem d_Mo_off_6 : decode b_Mo_off 6 = .ok (.l2i, 1) := by decide +kernel
theorem d_Mo_off_7 : decode b_Mo_off 7 = .ok (.istore 4, 2) := by decide +kernel
theorem d_Mo_off_9 : decode b_Mo_off 9 = .ok (.ldc 120, 2) := by decide +kernel
theorem d_Mo_off_11 : decode b_Mo_off 11 = .ok (.istore 5, 2) := by decide +kernel
theorem d_Mo_off_13 : decode b_Mo_off 13 = .ok (.aload_n 0, 1) := by decide +kernel
theorem d_Mo_off_14 : decode b_Mo_off 14 = .ok (.getfield 84, 3) := by decide +kernel
theorem d_Mo_off_17 : decode b_Mo_off 17 = .ok (.tableswitch 327 0 3 #[31, 127, 215, 265], 31) := by decide +kernel
theorem d_Mo_off_48 : decode b_Mo_off 48 = .ok (.iload_n 3, 1) := by decide +kernel
theorem d_Mo_off_49 : decode b_Mo_off 49 = .ok (.invokestatic 109, 3) := by decide +kernel
theorem d_Mo_off_52 : decode b_Mo_off 52 = .ok (.istore_n 3, 1) := by decide +kernel
theorem d_Mo_off_53 : decode b_Mo_off 53 = .ok (.iload 4, 2) := by decide +kernel
theorem d_Mo_off_55 : decode b_Mo_off 55 = .ok (.invokestatic 109, 3) := by decide +kernel
theorem d_Mo_off_58 : decode b_Mo_off 58 = .ok (.istore 4, 2) := by decide +kernel
theorem d_Mo_off_60 : decode b_Mo_off 60 = .ok (.bipush 12, 2) := by decide +kernel
theorem d_Mo_off_62 : decode b_Mo_off 62 = .ok (.istore 6, 2) := by decide +kernel
theorem d_Mo_off_64 : decode b_Mo_off 64 = .ok (.iload 6, 2) := by decide +kernel
theorem d_Mo_off_66 : decode b_Mo_off 66 = .ok (.ifCond .le 51, 3) := by decide +kernel
theorem d_Mo_off_69 : decode b_Mo_off 69 = .ok (.iload 4, 2) := by decide +kernel
theorem d_Mo_off_71 : decode b_Mo_off 71 = .ok (.aload_n 0, 1) := by decide +kernel
theorem d_Mo_off_72 : decode b_Mo_off 72 = .ok (.getfield 53, 3) := by decide +kernel
theorem d_Mo_off_75 : decode b_Mo_off 75 = .ok (.iconst 2, 1) := by decide +kernel
theorem d_Mo_off_76 : decode b_Mo_off 76 = .ok (.iload 6, 2) := by decide +kernel
theorem d_Mo_off_78 : decode b_Mo_off 78 = .ok (.imul, 1) := by decide +kernel
theorem d_Mo_off_79 : decode b_Mo_off 79 = .ok (.iconst 1, 1) := by decide +kernel
theorem d_Mo_off_80 : decode b_Mo_off 80 = .ok (.iadd, 1) := by decide +kernel
theorem d_Mo_off_81 : decode b_Mo_off 81 = .ok (.iaload, 1) := by decide +kernel
theorem d_Mo_off_82 : decode b_Mo_off 82 = .ok (.isub, 1) := by decide +kernel
theorem d_Mo_off_83 : decode b_Mo_off 83 = .ok (.iload_n 3, 1) := by decide +kernel
theorem d_Mo_off_84 : decode b_Mo_off 84 = .ok (.invokestatic 97, 3) := by decide +kernel
theorem d_Mo_off_87 : decode b_Mo_off 87 = .ok (.iload_n 3, 1) := by decide +kernel
theorem d_Mo_off_88 : decode b_Mo_off 88 = .ok (.ixor, 1) := by decide +kernel
theorem d_Mo_off_89 : decode b_Mo_off 89 = .ok (.istore 4, 2) := by decide +kernel
theorem d_Mo_off_91 : decode b_Mo_off 91 = .ok (.iload_n 3, 1) := by decide +kernel
theorem d_Mo_off_92 : decode b_Mo_off 92 = .ok (.aload_n 0, 1) := by decide +kernel
theorem d_Mo_off_93 : decode b_Mo_off 93 = .ok (.getfield 53, 3) := by decide +kernel
theorem d_Mo_off_96 : decode b_Mo_off 96 = .ok (.iconst 2, 1) := by decide +kernel
theorem d_Mo_off_97 : decode b_Mo_off 97 = .ok (.iload 6, 2) := by decide +kernel
theorem d_Mo_off_99 : decode b_Mo_off 99 = .ok (.imul, 1) := by decide +kernel
theorem d_Mo_off_100 : decode b_Mo_off 100 = .ok (.iaload, 1) := by decide +kernel
theorem d_Mo_off_101 : decode b_Mo_off 101 = .ok (.isub, 1) := by decide +kernel
theorem d_Mo_off_102 : decode b_Mo_off 102 = .ok (.iload 4, 2) := by decide +kernel
theorem d_Mo_off_104 : decode b_Mo_off 104 = .ok (.invokestatic 97, 3) := by decide +kernel
theorem d_Mo_off_107 : decode b_Mo_off 107 = .ok (.iload 4, 2) := by decide +kernel
theorem d_Mo_off_109 : decode b_Mo_off 109 = .ok (.ixor, 1) := by decide +kernel
theorem d_Mo_off_110 : decode b_Mo_off 110 = .ok (.istore_n 3, 1) := by decide +kernel
theorem d_Mo_off_111 : decode b_Mo_off 111 = .ok (.iinc 6 (-1), 3) := by decide +kernel
theorem d_Mo_off_114 : decode b_Mo_off 114 = .ok (.goto (-50), 3) := by decide +kernel
theorem d_Mo_off_117 : decode b_Mo_off 117 = .ok (.iload_n 3, 1) := by decide +kernel
theorem d_Mo_off_118 : decode b_Mo_off 118 = .ok (.aload_n 0, 1) := by decide +kernel
theorem d_Mo_off_119 : decode b_Mo_off 119 = .ok (.getfield 53, 3) := by decide +kernel
theorem d_Mo_off_122 : decode b_Mo_off 122 = .ok (.iconst 0, 1) := by decide +kernel
theorem d_Mo_off_123 : decode b_Mo_off 123 = .ok (.iaload, 1) := by decide +kernel
theorem d_Mo_off_124 : decode b_Mo_off 124 = .ok (.isub, 1) := by decide +kernel
theorem d_Mo_off_125 : decode b_Mo_off 125 = .ok (.invokestatic 109, 3) := by decide +kernel
theorem d_Mo_off_128 : decode b_Mo_off 128 = .ok (.iload 4, 2) := by decide +kernel
theorem d_Mo_off_130 : decode b_Mo_off 130 = .ok (.aload_n 0, 1) := by decide +kernel
theorem d_Mo_off_131 : decode b_Mo_off 131 = .ok (.getfield 53, 3) := by decide +kernel
theorem d_Mo_off_134 : decode b_Mo_off 134 = .ok (.iconst 1, 1) := by decide +kernel
theorem d_Mo_off_135 : decode b_Mo_off 135 = .ok (.iaload, 1) := by decide +kernel
theorem d_Mo_off_136 : decode b_Mo_off 136 = .ok (.isub, 1) := by decide +kernel
theorem d_Mo_off_137 : decode b_Mo_off 137 = .ok (.invokestatic 109, 3) := by decide +kernel
theorem d_Mo_off_140 : decode b_Mo_off 140 = .ok (.invokestatic 112, 3) := by decide +kernel
theorem d_Mo_off_143 : decode b_Mo_off 143 = .ok (.lreturn, 1) := by decide +kernel
theorem d_Mo_off_144 : decode b_Mo_off 144 = .ok (.iconst 0, 1) := by decide +kernel
theorem d_Mo_off_145 : decode b_Mo_off 145 = .ok (.istore 6, 2) := by decide +kernel
theorem d_Mo_off_147 : decode b_Mo_off 147 = .ok (.iload 6, 2) := by decide +kernel
theorem d_Mo_off_149 : decode b_Mo_off 149 = .ok (.bipush 32, 2) := by decide +kernel
theorem d_Mo_off_151 : decode b_Mo_off 151 = .ok (.if_icmp .ge 74, 3) := by decide +kernel
theorem d_Mo_off_154 : decode b_Mo_off 154 = .ok (.iload 4, 2) := by decide +kernel
theorem d_Mo_off_156 : decode b_Mo_off 156 = .ok (.iload_n 3, 1) := by decide +kernel
theorem d_Mo_off_157 : decode b_Mo_off 157 = .ok (.iconst 4, 1) := by decide +kernel
theorem d_Mo_off_158 : decode b_Mo_off 158 = .ok (.ishl, 1) := by decide +kernel
theorem d_Mo_off_159 : decode b_Mo_off 159 = .ok (.iload_n 3, 1) := by decide +kernel
theorem d_Mo_off_160 : decode b_Mo_off 160 = .ok (.iconst 5, 1) := by decide +kernel
theorem d_Mo_off_161 : decode b_Mo_off 161 = .ok (.iushr, 1) := by decide +kernel
theorem d_Mo_off_162 : decode b_Mo_off 162 = .ok (.ixor, 1) := by decide +kernel
theorem d_Mo_off_163 : decode b_Mo_off 163 = .ok (.iload_n 3, 1) := by decide +kernel
theorem d_Mo_off_164 : decode b_Mo_off 164 = .ok (.iadd, 1) := by decide +kernel
theorem d_Mo_off_165 : decode b_Mo_off 165 = .ok (.iload 5, 2) := by decide +kernel
theorem d_Mo_off_167 : decode b_Mo_off 167 = .ok (.aload_n 0, 1) := by decide +kernel
theorem d_Mo_off_168 : decode b_Mo_off 168 = .ok (.getfield 53, 3) := by decide +kernel
theorem d_Mo_off_171 : decode b_Mo_off 171 = .ok (.iload 5, 2) := by decide +kernel
theorem d_Mo_off_173 : decode b_Mo_off 173 = .ok (.bipush 11, 2) := by decide +kernel
theorem d_Mo_off_175 : decode b_Mo_off 175 = .ok (.iushr, 1) := by decide +kernel
theorem d_Mo_off_176 : decode b_Mo_off 176 = .ok (.iconst 3, 1) := by decide +kernel
theorem d_Mo_off_177 : decode b_Mo_off 177 = .ok (.iand, 1) := by decide +kernel
theorem d_Mo_off_178 : decode b_Mo_off 178 = .ok (.iaload, 1) := by decide +kernel
theorem d_Mo_off_179 : decode b_Mo_off 179 = .ok (.iadd, 1) := by decide +kernel
theorem d_Mo_off_180 : decode b_Mo_off 180 = .ok (.ixor, 1) := by decide +kernel
theorem d_Mo_off_181 : decode b_Mo_off 181 = .ok (.isub, 1) := by decide +kernel
theorem d_Mo_off_182 : decode b_Mo_off 182 = .ok (.istore 4, 2) := by decide +kernel
theorem d_Mo_off_184 : decode b_Mo_off 184 = .ok (.iload 5, 2) := by decide +kernel
theorem d_Mo_off_186 : decode b_Mo_off 186 = .ok (.ldc 108, 2) := by decide +kernel
theorem d_Mo_off_188 : decode b_Mo_off 188 = .ok (.isub, 1) := by decide +kernel
theorem d_Mo_off_189 : decode b_Mo_off 189 = .ok (.istore 5, 2) := by decide +kernel
theorem d_Mo_off_191 : decode b_Mo_off 191 = .ok (.iload_n 3, 1) := by decide +kernel
theorem d_Mo_off_192 : decode b_Mo_off 192 = .ok (.iload 4, 2) := by decide +kernel
theorem d_Mo_off_194 : decode b_Mo_off 194 = .ok (.iconst 4, 1) := by decide +kernel
theorem d_Mo_off_195 : decode b_Mo_off 195 = .ok (.ishl, 1) := by decide +kernel
theorem d_Mo_off_196 : decode b_Mo_off 196 = .ok (.iload 4, 2) := by decide +kernel
theorem d_Mo_off_198 : decode b_Mo_off 198 = .ok (.iconst 5, 1) := by decide +kernel
theorem d_Mo_off_199 : decode b_Mo_off 199 = .ok (.iushr, 1) := by decide +kernel
theorem d_Mo_off_200 : decode b_Mo_off 200 = .ok (.ixor, 1) := by decide +kernel
theorem d_Mo_off_201 : decode b_Mo_off 201 = .ok (.iload 4, 2) := by decide +kernel
theorem d_Mo_off_203 : decode b_Mo_off 203 = .ok (.iadd, 1) := by decide +kernel
theorem d_Mo_off_204 : decode b_Mo_off 204 = .ok (.iload 5, 2) := by decide +kernel
theorem d_Mo_off_206 : decode b_Mo_off 206 = .ok (.aload_n 0, 1) := by decide +kernel
theorem d_Mo_off_207 : decode b_Mo_off 207 = .ok (.getfield 53, 3) := by decide +kernel
theorem d_Mo_off_210 : decode b_Mo_off 210 = .ok (.iload 5, 2) := by decide +kernel
theorem d_Mo_off_212 : decode b_Mo_off 212 = .ok (.iconst 3, 1) := by decide +kernel
theorem d_Mo_off_213 : decode b_Mo_off 213 = .ok (.iand, 1) := by decide +kernel
theorem d_Mo_off_214 : decode b_Mo_off 214 = .ok (.iaload, 1) := by decide +kernel
theorem d_Mo_off_215 : decode b_Mo_off 215 = .ok (.iadd, 1) := by decide +kernel
theorem d_Mo_off_216 : decode b_Mo_off 216 = .ok (.ixor, 1) := by decide +kernel
theorem d_Mo_off_217 : decode b_Mo_off 217 = .ok (.isub, 1) := by decide +kernel
theorem d_Mo_off_218 : decode b_Mo_off 218 = .ok (.istore_n 3, 1) := by decide +kernel
theorem d_Mo_off_219 : decode b_Mo_off 219 = .ok (.iinc 6 1, 3) := by decide +kernel
theorem d_Mo_off_222 : decode b_Mo_off 222 = .ok (.goto (-75), 3) := by decide +kernel
theorem d_Mo_off_225 : decode b_Mo_off 225 = .ok (.iload_n 3, 1) := by decide +kernel
theorem d_Mo_off_226 : decode b_Mo_off 226 = .ok (.iload 4, 2) := by decide +kernel
theorem d_Mo_off_228 : decode b_Mo_off 228 = .ok (.invokestatic 112, 3) := by decide +kernel
theorem d_Mo_off_231 : decode b_Mo_off 231 = .ok (.lreturn, 1) := by decide +kernel
theorem d_Mo_off_232 : decode b_Mo_off 232 = .ok (.bipush 26, 2) := by decide +kernel
theorem d_Mo_off_234 : decode b_Mo_off 234 = .ok (.istore 6, 2) := by decide +kernel
theorem d_Mo_off_236 : decode b_Mo_off 236 = .ok (.iload 6, 2) := by decide +kernel
theorem d_Mo_off_238 : decode b_Mo_off 238 = .ok (.ifCond .lt 37, 3) := by decide +kernel
theorem d_Mo_off_241 : decode b_Mo_off 241 = .ok (.iload 4, 2) := by decide +kernel
theorem d_Mo_off_243 : decode b_Mo_off 243 = .ok (.iload_n 3, 1) := by decide +kernel
theorem d_Mo_off_244 : decode b_Mo_off 244 = .ok (.ixor, 1) := by decide +kernel
theorem d_Mo_off_245 : decode b_Mo_off 245 = .ok (.iconst 3, 1) := by decide +kernel
theorem d_Mo_off_246 : decode b_Mo_off 246 = .ok (.invokestatic 97, 3) := by decide +kernel
theorem d_Mo_off_249 : decode b_Mo_off 249 = .ok (.istore 4, 2) := by decide +kernel
theorem d_Mo_off_251 : decode b_Mo_off 251 = .ok (.iload_n 3, 1) := by decide +kernel
theorem d_Mo_off_252 : decode b_Mo_off 252 = .ok (.aload_n 0, 1) := by decide +kernel
theorem d_Mo_off_253 : decode b_Mo_off 253 = .ok (.getfield 53, 3) := by decide +kernel
theorem d_Mo_off_256 : decode b_Mo_off 256 = .ok (.iload 6, 2) := by decide +kernel
theorem d_Mo_off_258 : decode b_Mo_off 258 = .ok (.iaload, 1) := by decide +kernel
theorem d_Mo_off_259 : decode b_Mo_off 259 = .ok (.ixor, 1) := by decide +kernel
theorem d_Mo_off_260 : decode b_Mo_off 260 = .ok (.iload 4, 2) := by decide +kernel
theorem d_Mo_off_262 : decode b_Mo_off 262 = .ok (.isub, 1) := by decide +kernel
theorem d_Mo_off_263 : decode b_Mo_off 263 = .ok (.bipush 8, 2) := by decide +kernel
theorem d_Mo_off_265 : decode b_Mo_off 265 = .ok (.invokestatic 63, 3) := by decide +kernel
theorem d_Mo_off_268 : decode b_Mo_off 268 = .ok (.istore_n 3, 1) := by decide +kernel
theorem d_Mo_off_269 : decode b_Mo_off 269 = .ok (.iinc 6 (-1), 3) := by decide +kernel
theorem d_Mo_off_272 : decode b_Mo_off 272 = .ok (.goto (-36), 3) := by decide +kernel
theorem d_Mo_off_275 : decode b_Mo_off 275 = .ok (.iload_n 3, 1) := by decide +kernel
theorem d_Mo_off_276 : decode b_Mo_off 276 = .ok (.iload 4, 2) := by decide +kernel
theorem d_Mo_off_278 : decode b_Mo_off 278 = .ok (.invokestatic 112, 3) := by decide +kernel
theorem d_Mo_off_281 : decode b_Mo_off 281 = .ok (.lreturn, 1) := by decide +kernel
theorem d_Mo_off_282 : decode b_Mo_off 282 = .ok (.bipush 43, 2) := by decide +kernel
theorem d_Mo_off_284 : decode b_Mo_off 284 = .ok (.istore 6, 2) := by decide +kernel
theorem d_Mo_off_286 : decode b_Mo_off 286 = .ok (.iload 6, 2) := by decide +kernel
theorem d_Mo_off_288 : decode b_Mo_off 288 = .ok (.ifCond .lt 49, 3) := by decide +kernel
theorem d_Mo_off_291 : decode b_Mo_off 291 = .ok (.iload 4, 2) := by decide +kernel
theorem d_Mo_off_293 : decode b_Mo_off 293 = .ok (.istore 7, 2) := by decide +kernel
theorem d_Mo_off_295 : decode b_Mo_off 295 = .ok (.iload_n 3, 1) := by decide +kernel
theorem d_Mo_off_296 : decode b_Mo_off 296 = .ok (.iload 4, 2) := by decide +kernel
theorem d_Mo_off_298 : decode b_Mo_off 298 = .ok (.iconst 1, 1) := by decide +kernel
theorem d_Mo_off_299 : decode b_Mo_off 299 = .ok (.invokestatic 63, 3) := by decide +kernel
theorem d_Mo_off_302 : decode b_Mo_off 302 = .ok (.iload 4, 2) := by decide +kernel
theorem d_Mo_off_304 : decode b_Mo_off 304 = .ok (.bipush 8, 2) := by decide +kernel
theorem d_Mo_off_306 : decode b_Mo_off 306 = .ok (.invokestatic 63, 3) := by decide +kernel
theorem d_Mo_off_309 : decode b_Mo_off 309 = .ok (.iand, 1) := by decide +kernel
theorem d_Mo_off_310 : decode b_Mo_off 310 = .ok (.ixor, 1) := by decide +kernel
theorem d_Mo_off_311 : decode b_Mo_off 311 = .ok (.iload 4, 2) := by decide +kernel
theorem d_Mo_off_313 : decode b_Mo_off 313 = .ok (.iconst 2, 1) := by decide +kernel
theorem d_Mo_off_314 : decode b_Mo_off 314 = .ok (.invokestatic 63, 3) := by decide +kernel
theorem d_Mo_off_317 : decode b_Mo_off 317 = .ok (.ixor, 1) := by decide +kernel
theorem d_Mo_off_318 : decode b_Mo_off 318 = .ok (.aload_n 0, 1) := by decide +kernel
theorem d_Mo_off_319 : decode b_Mo_off 319 = .ok (.getfield 53, 3) := by decide +kernel
theorem d_Mo_off_322 : decode b_Mo_off 322 = .ok (.iload 6, 2) := by decide +kernel
theorem d_Mo_off_324 : decode b_Mo_off 324 = .ok (.iaload, 1) := by decide +kernel
theorem d_Mo_off_325 : decode b_Mo_off 325 = .ok (.ixor, 1) := by decide +kernel
theorem d_Mo_off_326 : decode b_Mo_off 326 = .ok (.istore 4, 2) := by decide +kernel
theorem d_Mo_off_328 : decode b_Mo_off 328 = .ok (.iload 7, 2) := by decide +kernel
theorem d_Mo_off_330 : decode b_Mo_off 330 = .ok (.istore_n 3, 1) := by decide +kernel
theorem d_Mo_off_331 : decode b_Mo_off 331 = .ok (.iinc 6 (-1), 3) := by decide +kernel
theorem d_Mo_off_334 : decode b_Mo_off 334 = .ok (.goto (-48), 3) := by decide +kernel
theorem d_Mo_off_337 : decode b_Mo_off 337 = .ok (.iload_n 3, 1) := by decide +kernel
theorem d_Mo_off_338 : decode b_Mo_off 338 = .ok (.iload 4, 2) := by decide +kernel
theorem d_Mo_off_340 : decode b_Mo_off 340 = .ok (.invokestatic 112, 3) := by decide +kernel
theorem d_Mo_off_343 : decode b_Mo_off 343 = .ok (.lreturn, 1) := by decide +kernel
theorem d_Mo_off_344 : decode b_Mo_off 344 = .ok (.aload_n 0, 1) := by decide +kernel
theorem d_Mo_off_345 : decode b_Mo_off 345 = .ok (.lload_n 1, 1) := by decide +kernel
theorem d_Mo_off_346 : decode b_Mo_off 346 = .ok (.invokevirtual 121, 3) := by decide +kernel
theorem d_Mo_off_349 : decode b_Mo_off 349 = .ok (.lreturn, 1) := by decide +kernel
theorem d_Mo_joined_0 : decode b_Mo_joined 0 = .ok (.iload_n 0, 1) := by decide +kernel
theorem d_Mo_joined_1 : decode b_Mo_joined 1 = .ok (.i2l, 1) := by decide +kernel
theorem d_Mo_joined_2 : decode b_Mo_joined 2 = .ok (.bipush 32, 2) := by decide +kernel
theorem d_Mo_joined_4 : decode b_Mo_joined 4 = .ok (.lshl, 1) := by decide +kernel
theorem d_Mo_joined_5 : decode b_Mo_joined 5 = .ok (.iload_n 1, 1) := by decide +kernel
theorem d_Mo_joined_6 : decode b_Mo_joined 6 = .ok (.i2l, 1) := by decide +kernel
theorem d_Mo_joined_7 : decode b_Mo_joined 7 = .ok (.ldc2_w 68, 3) := by decide +kernel
theorem d_Mo_joined_10 : decode b_Mo_joined 10 = .ok (.land, 1) := by decide +kernel
theorem d_Mo_joined_11 : decode b_Mo_joined 11 = .ok (.lor, 1) := by decide +kernel
theorem d_Mo_joined_12 : decode b_Mo_joined 12 = .ok (.lreturn, 1) := by decide +kernel
theorem d_Mo_offFour_0 : decode b_Mo_offFour 0 = .ok (.lload_n 1, 1) := by decide +kernel
theorem d_Mo_offFour_1 : decode b_Mo_offFour 1 = .ok (.iconst 0, 1) := by decide +kernel
theorem d_Mo_offFour_2 : decode b_Mo_offFour 2 = .ok (.invokestatic 124, 3) := by decide +kernel
theorem d_Mo_offFour_5 : decode b_Mo_offFour 5 = .ok (.aload_n 0, 1) := by decide +kernel
theorem d_Mo_offFour_6 : decode b_Mo_offFour 6 = .ok (.getfield 53, 3) := by decide +kernel
theorem d_Mo_offFour_9 : decode b_Mo_offFour 9 = .ok (.bipush 48, 2) := by decide +kernel
theorem d_Mo_offFour_11 : decode b_Mo_offFour 11 = .ok (.iaload, 1) := by decide +kernel
theorem d_Mo_offFour_12 : decode b_Mo_offFour 12 = .ok (.invokestatic 135, 3) := by decide +kernel
theorem d_Mo_offFour_15 : decode b_Mo_offFour 15 = .ok (.invokestatic 75, 3) := by decide +kernel
theorem d_Mo_offFour_18 : decode b_Mo_offFour 18 = .ok (.istore_n 3, 1) := by decide +kernel
theorem d_Mo_offFour_19 : decode b_Mo_offFour 19 = .ok (.lload_n 1, 1) := by decide +kernel
theorem d_Mo_offFour_20 : decode b_Mo_offFour 20 = .ok (.iconst 2, 1) := by decide +kernel
theorem d_Mo_offFour_21 : decode b_Mo_offFour 21 = .ok (.invokestatic 124, 3) := by decide +kernel
theorem d_Mo_offFour_24 : decode b_Mo_offFour 24 = .ok (.aload_n 0, 1) := by decide +kernel
theorem d_Mo_offFour_25 : decode b_Mo_offFour 25 = .ok (.getfield 53, 3) := by decide +kernel
theorem d_Mo_offFour_28 : decode b_Mo_offFour 28 = .ok (.bipush 50, 2) := by decide +kernel
theorem d_Mo_offFour_30 : decode b_Mo_offFour 30 = .ok (.iaload, 1) := by decide +kernel
theorem d_Mo_offFour_31 : decode b_Mo_offFour 31 = .ok (.isub, 1) := by decide +kernel
theorem d_Mo_offFour_32 : decode b_Mo_offFour 32 = .ok (.ldc 74, 2) := by decide +kernel
theorem d_Mo_offFour_34 : decode b_Mo_offFour 34 = .ok (.iand, 1) := by decide +kernel
theorem d_Mo_offFour_35 : decode b_Mo_offFour 35 = .ok (.istore 4, 2) := by decide +kernel
theorem d_Mo_offFour_37 : decode b_Mo_offFour 37 = .ok (.lload_n 1, 1) := by decide +kernel
theorem d_Mo_offFour_38 : decode b_Mo_offFour 38 = .ok (.iconst 1, 1) := by decide +kernel
theorem d_Mo_offFour_39 : decode b_Mo_offFour 39 = .ok (.invokestatic 124, 3) := by decide +kernel
theorem d_Mo_offFour_42 : decode b_Mo_offFour 42 = .ok (.aload_n 0, 1) := by decide +kernel
theorem d_Mo_offFour_43 : decode b_Mo_offFour 43 = .ok (.getfield 53, 3) := by decide +kernel
theorem d_Mo_offFour_46 : decode b_Mo_offFour 46 = .ok (.bipush 49, 2) := by decide +kernel
theorem d_Mo_offFour_48 : decode b_Mo_offFour 48 = .ok (.iaload, 1) := by decide +kernel
theorem d_Mo_offFour_49 : decode b_Mo_offFour 49 = .ok (.isub, 1) := by decide +kernel
theorem d_Mo_offFour_50 : decode b_Mo_offFour 50 = .ok (.ldc 74, 2) := by decide +kernel
theorem d_Mo_offFour_52 : decode b_Mo_offFour 52 = .ok (.iand, 1) := by decide +kernel
theorem d_Mo_offFour_53 : decode b_Mo_offFour 53 = .ok (.istore 5, 2) := by decide +kernel
theorem d_Mo_offFour_55 : decode b_Mo_offFour 55 = .ok (.lload_n 1, 1) := by decide +kernel
theorem d_Mo_offFour_56 : decode b_Mo_offFour 56 = .ok (.iconst 3, 1) := by decide +kernel
theorem d_Mo_offFour_57 : decode b_Mo_offFour 57 = .ok (.invokestatic 124, 3) := by decide +kernel
theorem d_Mo_offFour_60 : decode b_Mo_offFour 60 = .ok (.aload_n 0, 1) := by decide +kernel
theorem d_Mo_offFour_61 : decode b_Mo_offFour 61 = .ok (.getfield 53, 3) := by decide +kernel
theorem d_Mo_offFour_64 : decode b_Mo_offFour 64 = .ok (.bipush 51, 2) := by decide +kernel
theorem d_Mo_offFour_66 : decode b_Mo_offFour 66 = .ok (.iaload, 1) := by decide +kernel
theorem d_Mo_offFour_67 : decode b_Mo_offFour 67 = .ok (.invokestatic 135, 3) := by decide +kernel
theorem d_Mo_offFour_70 : decode b_Mo_offFour 70 = .ok (.invokestatic 75, 3) := by decide +kernel
theorem d_Mo_offFour_73 : decode b_Mo_offFour 73 = .ok (.istore 6, 2) := by decide +kernel
theorem d_Mo_offFour_75 : decode b_Mo_offFour 75 = .ok (.bipush 42, 2) := by decide +kernel
theorem d_Mo_offFour_77 : decode b_Mo_offFour 77 = .ok (.istore 7, 2) := by decide +kernel
theorem d_Mo_offFour_79 : decode b_Mo_offFour 79 = .ok (.iload 7, 2) := by decide +kernel
theorem d_Mo_offFour_81 : decode b_Mo_offFour 81 = .ok (.ifCond .lt 146, 3) := by decide +kernel
theorem d_Mo_offFour_84 : decode b_Mo_offFour 84 = .ok (.iload_n 3, 1) := by decide +kernel
theorem d_Mo_offFour_85 : decode b_Mo_offFour 85 = .ok (.iload 4, 2) := by decide +kernel
theorem d_Mo_offFour_87 : decode b_Mo_offFour 87 = .ok (.ixor, 1) := by decide +kernel
theorem d_Mo_offFour_88 : decode b_Mo_offFour 88 = .ok (.aload_n 0, 1) := by decide +kernel
theorem d_Mo_offFour_89 : decode b_Mo_offFour 89 = .ok (.getfield 53, 3) := by decide +kernel
theorem d_Mo_offFour_92 : decode b_Mo_offFour 92 = .ok (.iload 7, 2) := by decide +kernel
theorem d_Mo_offFour_94 : decode b_Mo_offFour 94 = .ok (.iconst 4, 1) := by decide +kernel
theorem d_Mo_offFour_95 : decode b_Mo_offFour 95 = .ok (.iadd, 1) := by decide +kernel
theorem d_Mo_offFour_96 : decode b_Mo_offFour 96 = .ok (.iaload, 1) := by decide +kernel
theorem d_Mo_offFour_97 : decode b_Mo_offFour 97 = .ok (.invokestatic 75, 3) := by decide +kernel
theorem d_Mo_offFour_100 : decode b_Mo_offFour 100 = .ok (.istore 8, 2) := by decide +kernel
theorem d_Mo_offFour_102 : decode b_Mo_offFour 102 = .ok (.iload 8, 2) := by decide +kernel
theorem d_Mo_offFour_104 : decode b_Mo_offFour 104 = .ok (.iload 5, 2) := by decide +kernel
theorem d_Mo_offFour_106 : decode b_Mo_offFour 106 = .ok (.iload 6, 2) := by decide +kernel
theorem d_Mo_offFour_108 : decode b_Mo_offFour 108 = .ok (.ixor, 1) := by decide +kernel
theorem d_Mo_offFour_109 : decode b_Mo_offFour 109 = .ok (.iadd, 1) := by decide +kernel
theorem d_Mo_offFour_110 : decode b_Mo_offFour 110 = .ok (.ldc 74, 2) := by decide +kernel
theorem d_Mo_offFour_112 : decode b_Mo_offFour 112 = .ok (.iand, 1) := by decide +kernel
theorem d_Mo_offFour_113 : decode b_Mo_offFour 113 = .ok (.aload_n 0, 1) := by decide +kernel
theorem d_Mo_offFour_114 : decode b_Mo_offFour 114 = .ok (.getfield 53, 3) := by decide +kernel
theorem d_Mo_offFour_117 : decode b_Mo_offFour 117 = .ok (.iload 7, 2) := by decide +kernel
theorem d_Mo_offFour_119 : decode b_Mo_offFour 119 = .ok (.iconst 5, 1) := by decide +kernel
theorem d_Mo_offFour_120 : decode b_Mo_offFour 120 = .ok (.iadd, 1) := by decide +kernel
theorem d_Mo_offFour_121 : decode b_Mo_offFour 121 = .ok (.iaload, 1) := by decide +kernel
theorem d_Mo_offFour_122 : decode b_Mo_offFour 122 = .ok (.invokestatic 75, 3) := by decide +kernel
theorem d_Mo_offFour_125 : decode b_Mo_offFour 125 = .ok (.istore 9, 2) := by decide +kernel
theorem d_Mo_offFour_127 : decode b_Mo_offFour 127 = .ok (.iload 8, 2) := by decide +kernel
theorem d_Mo_offFour_129 : decode b_Mo_offFour 129 = .ok (.iload 9, 2) := by decide +kernel
theorem d_Mo_offFour_131 : decode b_Mo_offFour 131 = .ok (.iadd, 1) := by decide +kernel
theorem d_Mo_offFour_132 : decode b_Mo_offFour 132 = .ok (.ldc 74, 2) := by decide +kernel
theorem d_Mo_offFour_134 : decode b_Mo_offFour 134 = .ok (.iand, 1) := by decide +kernel
theorem d_Mo_offFour_135 : decode b_Mo_offFour 135 = .ok (.istore 10, 2) := by decide +kernel
theorem d_Mo_offFour_137 : decode b_Mo_offFour 137 = .ok (.iload 4, 2) := by decide +kernel
theorem d_Mo_offFour_139 : decode b_Mo_offFour 139 = .ok (.istore 11, 2) := by decide +kernel
theorem d_Mo_offFour_141 : decode b_Mo_offFour 141 = .ok (.iload_n 3, 1) := by decide +kernel
theorem d_Mo_offFour_142 : decode b_Mo_offFour 142 = .ok (.iload 9, 2) := by decide +kernel
theorem d_Mo_offFour_144 : decode b_Mo_offFour 144 = .ok (.ixor, 1) := by decide +kernel
theorem d_Mo_offFour_145 : decode b_Mo_offFour 145 = .ok (.aload_n 0, 1) := by decide +kernel
theorem d_Mo_offFour_146 : decode b_Mo_offFour 146 = .ok (.getfield 53, 3) := by decide +kernel
theorem d_Mo_offFour_149 : decode b_Mo_offFour 149 = .ok (.iload 7, 2) := by decide +kernel
theorem d_Mo_offFour_151 : decode b_Mo_offFour 151 = .ok (.iaload, 1) := by decide +kernel
theorem d_Mo_offFour_152 : decode b_Mo_offFour 152 = .ok (.invokestatic 135, 3) := by decide +kernel
theorem d_Mo_offFour_155 : decode b_Mo_offFour 155 = .ok (.invokestatic 75, 3) := by decide +kernel
theorem d_Mo_offFour_158 : decode b_Mo_offFour 158 = .ok (.istore_n 3, 1) := by decide +kernel
theorem d_Mo_offFour_159 : decode b_Mo_offFour 159 = .ok (.iload 5, 2) := by decide +kernel
theorem d_Mo_offFour_161 : decode b_Mo_offFour 161 = .ok (.iload 10, 2) := by decide +kernel
theorem d_Mo_offFour_163 : decode b_Mo_offFour 163 = .ok (.ixor, 1) := by decide +kernel
theorem d_Mo_offFour_164 : decode b_Mo_offFour 164 = .ok (.aload_n 0, 1) := by decide +kernel
theorem d_Mo_offFour_165 : decode b_Mo_offFour 165 = .ok (.getfield 53, 3) := by decide +kernel
theorem d_Mo_offFour_168 : decode b_Mo_offFour 168 = .ok (.iload 7, 2) := by decide +kernel
theorem d_Mo_offFour_170 : decode b_Mo_offFour 170 = .ok (.iconst 1, 1) := by decide +kernel
theorem d_Mo_offFour_171 : decode b_Mo_offFour 171 = .ok (.iadd, 1) := by decide +kernel
theorem d_Mo_offFour_172 : decode b_Mo_offFour 172 = .ok (.iaload, 1) := by decide +kernel
theorem d_Mo_offFour_173 : decode b_Mo_offFour 173 = .ok (.isub, 1) := by decide +kernel
theorem d_Mo_offFour_174 : decode b_Mo_offFour 174 = .ok (.ldc 74, 2) := by decide +kernel
theorem d_Mo_offFour_176 : decode b_Mo_offFour 176 = .ok (.iand, 1) := by decide +kernel
theorem d_Mo_offFour_177 : decode b_Mo_offFour 177 = .ok (.istore 4, 2) := by decide +kernel
theorem d_Mo_offFour_179 : decode b_Mo_offFour 179 = .ok (.iload 11, 2) := by decide +kernel
theorem d_Mo_offFour_181 : decode b_Mo_offFour 181 = .ok (.iload 9, 2) := by decide +kernel
theorem d_Mo_offFour_183 : decode b_Mo_offFour 183 = .ok (.ixor, 1) := by decide +kernel
theorem d_Mo_offFour_184 : decode b_Mo_offFour 184 = .ok (.aload_n 0, 1) := by decide +kernel
theorem d_Mo_offFour_185 : decode b_Mo_offFour 185 = .ok (.getfield 53, 3) := by decide +kernel
theorem d_Mo_offFour_188 : decode b_Mo_offFour 188 = .ok (.iload 7, 2) := by decide +kernel
theorem d_Mo_offFour_190 : decode b_Mo_offFour 190 = .ok (.iconst 2, 1) := by decide +kernel
theorem d_Mo_offFour_191 : decode b_Mo_offFour 191 = .ok (.iadd, 1) := by decide +kernel
theorem d_Mo_offFour_192 : decode b_Mo_offFour 192 = .ok (.iaload, 1) := by decide +kernel
theorem d_Mo_offFour_193 : decode b_Mo_offFour 193 = .ok (.isub, 1) := by decide +kernel
theorem d_Mo_offFour_194 : decode b_Mo_offFour 194 = .ok (.ldc 74, 2) := by decide +kernel
theorem d_Mo_offFour_196 : decode b_Mo_offFour 196 = .ok (.iand, 1) := by decide +kernel

theorem dL_below_0 : decode cL_below 0 = .ok (.iload_n 0, 1) := by decide +kernel
theorem dL_below_1 : decode cL_below 1 = .ok (.ldc 7, 2) := by decide +kernel
theorem dL_below_3 : decode cL_below 3 = .ok (.iand, 1) := by decide +kernel
theorem dL_below_4 : decode cL_below 4 = .ok (.iload_n 1, 1) := by decide +kernel
theorem dL_below_5 : decode cL_below 5 = .ok (.irem, 1) := by decide +kernel
theorem dL_below_6 : decode cL_below 6 = .ok (.ireturn, 1) := by decide +kernel
theorem dL_cell_0 : decode cL_cell 0 = .ok (.iload_n 1, 1) := by decide +kernel
theorem dL_cell_1 : decode cL_cell 1 = .ok (.aload_n 0, 1) := by decide +kernel
theorem dL_cell_2 : decode cL_cell 2 = .ok (.arraylength, 1) := by decide +kernel
theorem dL_cell_3 : decode cL_cell 3 = .ok (.if_icmp .ge 9, 3) := by decide +kernel
theorem dL_cell_6 : decode cL_cell 6 = .ok (.aload_n 0, 1) := by decide +kernel
theorem dL_cell_7 : decode cL_cell 7 = .ok (.iload_n 1, 1) := by decide +kernel
theorem dL_cell_8 : decode cL_cell 8 = .ok (.iaload, 1) := by decide +kernel
theorem dL_cell_9 : decode cL_cell 9 = .ok (.goto 9, 3) := by decide +kernel
theorem dL_cell_12 : decode cL_cell 12 = .ok (.ldc 8, 2) := by decide +kernel
theorem dL_cell_14 : decode cL_cell 14 = .ok (.iload_n 1, 1) := by decide +kernel
theorem dL_cell_15 : decode cL_cell 15 = .ok (.iconst 3, 1) := by decide +kernel
theorem dL_cell_16 : decode cL_cell 16 = .ok (.iadd, 1) := by decide +kernel
theorem dL_cell_17 : decode cL_cell 17 = .ok (.imul, 1) := by decide +kernel
theorem dL_cell_18 : decode cL_cell 18 = .ok (.ireturn, 1) := by decide +kernel
theorem dL_heights_0 : decode cL_heights 0 = .ok (.iconst 0, 1) := by decide +kernel
theorem dL_heights_1 : decode cL_heights 1 = .ok (.istore_n 2, 1) := by decide +kernel
theorem dL_heights_2 : decode cL_heights 2 = .ok (.iconst 0, 1) := by decide +kernel
theorem dL_heights_3 : decode cL_heights 3 = .ok (.istore_n 3, 1) := by decide +kernel
theorem dL_heights_4 : decode cL_heights 4 = .ok (.iload_n 3, 1) := by decide +kernel
theorem dL_heights_5 : decode cL_heights 5 = .ok (.iload_n 1, 1) := by decide +kernel
theorem dL_heights_6 : decode cL_heights 6 = .ok (.if_icmp .ge 50, 3) := by decide +kernel
theorem dL_heights_9 : decode cL_heights 9 = .ok (.bipush 10, 2) := by decide +kernel
theorem dL_heights_11 : decode cL_heights 11 = .ok (.iload_n 2, 1) := by decide +kernel
theorem dL_heights_12 : decode cL_heights 12 = .ok (.imul, 1) := by decide +kernel
theorem dL_heights_13 : decode cL_heights 13 = .ok (.iload_n 0, 1) := by decide +kernel
theorem dL_heights_14 : decode cL_heights 14 = .ok (.bipush 11, 2) := by decide +kernel
theorem dL_heights_16 : decode cL_heights 16 = .ok (.ishr, 1) := by decide +kernel
theorem dL_heights_17 : decode cL_heights 17 = .ok (.iconst 3, 1) := by decide +kernel
theorem dL_heights_18 : decode cL_heights 18 = .ok (.invokestatic 9, 3) := by decide +kernel
theorem dL_heights_21 : decode cL_heights 21 = .ok (.ifCond .ne 16, 3) := by decide +kernel
theorem dL_heights_24 : decode cL_heights 24 = .ok (.iload_n 0, 1) := by decide +kernel
theorem dL_heights_25 : decode cL_heights 25 = .ok (.iconst 2, 1) := by decide +kernel
theorem dL_heights_26 : decode cL_heights 26 = .ok (.iload_n 3, 1) := by decide +kernel
theorem dL_heights_27 : decode cL_heights 27 = .ok (.imul, 1) := by decide +kernel
theorem dL_heights_28 : decode cL_heights 28 = .ok (.ishr, 1) := by decide +kernel
theorem dL_heights_29 : decode cL_heights 29 = .ok (.bipush 10, 2) := by decide +kernel
theorem dL_heights_31 : decode cL_heights 31 = .ok (.invokestatic 9, 3) := by decide +kernel
theorem dL_heights_34 : decode cL_heights 34 = .ok (.goto 14, 3) := by decide +kernel
theorem dL_heights_37 : decode cL_heights 37 = .ok (.iconst 1, 1) := by decide +kernel
theorem dL_heights_38 : decode cL_heights 38 = .ok (.iload_n 0, 1) := by decide +kernel
theorem dL_heights_39 : decode cL_heights 39 = .ok (.iconst 2, 1) := by decide +kernel
theorem dL_heights_40 : decode cL_heights 40 = .ok (.iload_n 3, 1) := by decide +kernel
theorem dL_heights_41 : decode cL_heights 41 = .ok (.imul, 1) := by decide +kernel
theorem dL_heights_42 : decode cL_heights 42 = .ok (.ishr, 1) := by decide +kernel
theorem dL_heights_43 : decode cL_heights 43 = .ok (.iconst 5, 1) := by decide +kernel
theorem dL_heights_44 : decode cL_heights 44 = .ok (.invokestatic 9, 3) := by decide +kernel
theorem dL_heights_47 : decode cL_heights 47 = .ok (.iadd, 1) := by decide +kernel
theorem dL_heights_48 : decode cL_heights 48 = .ok (.iadd, 1) := by decide +kernel
theorem dL_heights_49 : decode cL_heights 49 = .ok (.istore_n 2, 1) := by decide +kernel
theorem dL_heights_50 : decode cL_heights 50 = .ok (.iinc 3 1, 3) := by decide +kernel
theorem dL_heights_53 : decode cL_heights 53 = .ok (.goto (-49), 3) := by decide +kernel
theorem dL_heights_56 : decode cL_heights 56 = .ok (.iload_n 2, 1) := by decide +kernel
theorem dL_heights_57 : decode cL_heights 57 = .ok (.ireturn, 1) := by decide +kernel
theorem dL_ring_0 : decode cL_ring 0 = .ok (.new 15, 3) := by decide +kernel
theorem dL_ring_3 : decode cL_ring 3 = .ok (.dup, 1) := by decide +kernel
theorem dL_ring_4 : decode cL_ring 4 = .ok (.invokespecial 17, 3) := by decide +kernel
theorem dL_ring_7 : decode cL_ring 7 = .ok (.astore_n 1, 1) := by decide +kernel
theorem dL_ring_8 : decode cL_ring 8 = .ok (.iconst 1, 1) := by decide +kernel
theorem dL_ring_9 : decode cL_ring 9 = .ok (.aload_n 0, 1) := by decide +kernel
theorem dL_ring_10 : decode cL_ring 10 = .ok (.iconst 0, 1) := by decide +kernel
theorem dL_ring_11 : decode cL_ring 11 = .ok (.invokestatic 18, 3) := by decide +kernel
theorem dL_ring_14 : decode cL_ring 14 = .ok (.iconst 4, 1) := by decide +kernel
theorem dL_ring_15 : decode cL_ring 15 = .ok (.invokestatic 9, 3) := by decide +kernel
theorem dL_ring_18 : decode cL_ring 18 = .ok (.iadd, 1) := by decide +kernel
theorem dL_ring_19 : decode cL_ring 19 = .ok (.istore_n 2, 1) := by decide +kernel
theorem dL_ring_20 : decode cL_ring 20 = .ok (.iconst 0, 1) := by decide +kernel
theorem dL_ring_21 : decode cL_ring 21 = .ok (.istore_n 3, 1) := by decide +kernel
theorem dL_ring_22 : decode cL_ring 22 = .ok (.iload_n 3, 1) := by decide +kernel
theorem dL_ring_23 : decode cL_ring 23 = .ok (.iload_n 2, 1) := by decide +kernel
theorem dL_ring_24 : decode cL_ring 24 = .ok (.if_icmp .ge 30, 3) := by decide +kernel
theorem dL_ring_27 : decode cL_ring 27 = .ok (.aload_n 1, 1) := by decide +kernel
theorem dL_ring_28 : decode cL_ring 28 = .ok (.iconst 1, 1) := by decide +kernel
theorem dL_ring_29 : decode cL_ring 29 = .ok (.aload_n 0, 1) := by decide +kernel
theorem dL_ring_30 : decode cL_ring 30 = .ok (.iconst 1, 1) := by decide +kernel
theorem dL_ring_31 : decode cL_ring 31 = .ok (.invokestatic 18, 3) := by decide +kernel
theorem dL_ring_34 : decode cL_ring 34 = .ok (.iconst 3, 1) := by decide +kernel
theorem dL_ring_35 : decode cL_ring 35 = .ok (.iload_n 3, 1) := by decide +kernel
theorem dL_ring_36 : decode cL_ring 36 = .ok (.imul, 1) := by decide +kernel
theorem dL_ring_37 : decode cL_ring 37 = .ok (.ishr, 1) := by decide +kernel
theorem dL_ring_38 : decode cL_ring 38 = .ok (.bipush 9, 2) := by decide +kernel
theorem dL_ring_40 : decode cL_ring 40 = .ok (.invokestatic 9, 3) := by decide +kernel
theorem dL_ring_43 : decode cL_ring 43 = .ok (.iadd, 1) := by decide +kernel
theorem dL_ring_44 : decode cL_ring 44 = .ok (.invokevirtual 22, 3) := by decide +kernel
theorem dL_ring_47 : decode cL_ring 47 = .ok (.pop, 1) := by decide +kernel
theorem dL_ring_48 : decode cL_ring 48 = .ok (.iinc 3 1, 3) := by decide +kernel
theorem dL_ring_51 : decode cL_ring 51 = .ok (.goto (-29), 3) := by decide +kernel
theorem dL_ring_54 : decode cL_ring 54 = .ok (.iconst 0, 1) := by decide +kernel
theorem dL_ring_55 : decode cL_ring 55 = .ok (.istore_n 3, 1) := by decide +kernel
theorem dL_ring_56 : decode cL_ring 56 = .ok (.iload_n 3, 1) := by decide +kernel
theorem dL_ring_57 : decode cL_ring 57 = .ok (.iload_n 2, 1) := by decide +kernel
theorem dL_ring_58 : decode cL_ring 58 = .ok (.if_icmp .ge 96, 3) := by decide +kernel
theorem dL_ring_61 : decode cL_ring 61 = .ok (.aload_n 0, 1) := by decide +kernel
theorem dL_ring_62 : decode cL_ring 62 = .ok (.iconst 2, 1) := by decide +kernel
theorem dL_ring_63 : decode cL_ring 63 = .ok (.iload_n 3, 1) := by decide +kernel
theorem dL_ring_64 : decode cL_ring 64 = .ok (.iadd, 1) := by decide +kernel
theorem dL_ring_65 : decode cL_ring 65 = .ok (.invokestatic 18, 3) := by decide +kernel
theorem dL_ring_68 : decode cL_ring 68 = .ok (.istore 4, 2) := by decide +kernel
theorem dL_ring_70 : decode cL_ring 70 = .ok (.iconst 1, 1) := by decide +kernel
theorem dL_ring_71 : decode cL_ring 71 = .ok (.iload 4, 2) := by decide +kernel
theorem dL_ring_73 : decode cL_ring 73 = .ok (.bipush 8, 2) := by decide +kernel
theorem dL_ring_75 : decode cL_ring 75 = .ok (.invokestatic 9, 3) := by decide +kernel
theorem dL_ring_78 : decode cL_ring 78 = .ok (.iadd, 1) := by decide +kernel
theorem dL_ring_79 : decode cL_ring 79 = .ok (.istore 5, 2) := by decide +kernel
theorem dL_ring_81 : decode cL_ring 81 = .ok (.aload_n 1, 1) := by decide +kernel
theorem dL_ring_82 : decode cL_ring 82 = .ok (.iload_n 3, 1) := by decide +kernel
theorem dL_ring_83 : decode cL_ring 83 = .ok (.iload 5, 2) := by decide +kernel
theorem dL_ring_85 : decode cL_ring 85 = .ok (.iload 4, 2) := by decide +kernel
theorem dL_ring_87 : decode cL_ring 87 = .ok (.iconst 3, 1) := by decide +kernel
theorem dL_ring_88 : decode cL_ring 88 = .ok (.ishr, 1) := by decide +kernel
theorem dL_ring_89 : decode cL_ring 89 = .ok (.iload 5, 2) := by decide +kernel
theorem dL_ring_91 : decode cL_ring 91 = .ok (.invokestatic 26, 3) := by decide +kernel
theorem dL_ring_94 : decode cL_ring 94 = .ok (.invokevirtual 29, 3) := by decide +kernel
theorem dL_ring_97 : decode cL_ring 97 = .ok (.pop, 1) := by decide +kernel
theorem dL_ring_98 : decode cL_ring 98 = .ok (.iconst 0, 1) := by decide +kernel
theorem dL_ring_99 : decode cL_ring 99 = .ok (.istore 6, 2) := by decide +kernel
theorem dL_ring_101 : decode cL_ring 101 = .ok (.iload 6, 2) := by decide +kernel
theorem dL_ring_103 : decode cL_ring 103 = .ok (.iload 5, 2) := by decide +kernel
theorem dL_ring_105 : decode cL_ring 105 = .ok (.if_icmp .ge 43, 3) := by decide +kernel
theorem dL_ring_108 : decode cL_ring 108 = .ok (.iload 4, 2) := by decide +kernel
theorem dL_ring_110 : decode cL_ring 110 = .ok (.iconst 5, 1) := by decide +kernel
theorem dL_ring_111 : decode cL_ring 111 = .ok (.iload 6, 2) := by decide +kernel
theorem dL_ring_113 : decode cL_ring 113 = .ok (.iadd, 1) := by decide +kernel
theorem dL_ring_114 : decode cL_ring 114 = .ok (.ishr, 1) := by decide +kernel
theorem dL_ring_115 : decode cL_ring 115 = .ok (.iconst 4, 1) := by decide +kernel
theorem dL_ring_116 : decode cL_ring 116 = .ok (.invokestatic 9, 3) := by decide +kernel
theorem dL_ring_119 : decode cL_ring 119 = .ok (.ifCond .ne 23, 3) := by decide +kernel
theorem dL_ring_122 : decode cL_ring 122 = .ok (.aload_n 1, 1) := by decide +kernel
theorem dL_ring_123 : decode cL_ring 123 = .ok (.iload_n 3, 1) := by decide +kernel
theorem dL_ring_124 : decode cL_ring 124 = .ok (.iload 6, 2) := by decide +kernel
theorem dL_ring_126 : decode cL_ring 126 = .ok (.iload 4, 2) := by decide +kernel
theorem dL_ring_128 : decode cL_ring 128 = .ok (.bipush 7, 2) := by decide +kernel
theorem dL_ring_130 : decode cL_ring 130 = .ok (.iload 6, 2) := by decide +kernel
theorem dL_ring_132 : decode cL_ring 132 = .ok (.iadd, 1) := by decide +kernel
theorem dL_ring_133 : decode cL_ring 133 = .ok (.ishr, 1) := by decide +kernel
theorem dL_ring_134 : decode cL_ring 134 = .ok (.iload_n 2, 1) := by decide +kernel
theorem dL_ring_135 : decode cL_ring 135 = .ok (.invokestatic 9, 3) := by decide +kernel
theorem dL_ring_138 : decode cL_ring 138 = .ok (.invokevirtual 33, 3) := by decide +kernel
theorem dL_ring_141 : decode cL_ring 141 = .ok (.pop, 1) := by decide +kernel
theorem dL_ring_142 : decode cL_ring 142 = .ok (.iinc 6 1, 3) := by decide +kernel
theorem dL_ring_145 : decode cL_ring 145 = .ok (.goto (-44), 3) := by decide +kernel
theorem dL_ring_148 : decode cL_ring 148 = .ok (.iinc 3 1, 3) := by decide +kernel
theorem dL_ring_151 : decode cL_ring 151 = .ok (.goto (-95), 3) := by decide +kernel
theorem dL_ring_154 : decode cL_ring 154 = .ok (.aload_n 0, 1) := by decide +kernel
theorem dL_ring_155 : decode cL_ring 155 = .ok (.bipush 6, 2) := by decide +kernel
theorem dL_ring_157 : decode cL_ring 157 = .ok (.invokestatic 18, 3) := by decide +kernel
theorem dL_ring_160 : decode cL_ring 160 = .ok (.bipush 13, 2) := by decide +kernel
theorem dL_ring_162 : decode cL_ring 162 = .ok (.invokestatic 9, 3) := by decide +kernel
theorem dL_ring_165 : decode cL_ring 165 = .ok (.istore_n 3, 1) := by decide +kernel
theorem dL_ring_166 : decode cL_ring 166 = .ok (.iconst 0, 1) := by decide +kernel
theorem dL_ring_167 : decode cL_ring 167 = .ok (.istore 4, 2) := by decide +kernel
theorem dL_ring_169 : decode cL_ring 169 = .ok (.iload 4, 2) := by decide +kernel
theorem dL_ring_171 : decode cL_ring 171 = .ok (.iload_n 3, 1) := by decide +kernel
theorem dL_ring_172 : decode cL_ring 172 = .ok (.if_icmp .ge 105, 3) := by decide +kernel
theorem dL_ring_175 : decode cL_ring 175 = .ok (.aload_n 0, 1) := by decide +kernel
theorem dL_ring_176 : decode cL_ring 176 = .ok (.bipush 7, 2) := by decide +kernel
theorem dL_ring_178 : decode cL_ring 178 = .ok (.iload 4, 2) := by decide +kernel
theorem dL_ring_180 : decode cL_ring 180 = .ok (.iconst 4, 1) := by decide +kernel
theorem dL_ring_181 : decode cL_ring 181 = .ok (.irem, 1) := by decide +kernel
theorem dL_ring_182 : decode cL_ring 182 = .ok (.iadd, 1) := by decide +kernel
theorem dL_ring_183 : decode cL_ring 183 = .ok (.invokestatic 18, 3) := by decide +kernel
theorem dL_ring_186 : decode cL_ring 186 = .ok (.iload 4, 2) := by decide +kernel
theorem dL_ring_188 : decode cL_ring 188 = .ok (.iconst 4, 1) := by decide +kernel
theorem dL_ring_189 : decode cL_ring 189 = .ok (.idiv, 1) := by decide +kernel
theorem dL_ring_190 : decode cL_ring 190 = .ok (.iconst 5, 1) := by decide +kernel
theorem dL_ring_191 : decode cL_ring 191 = .ok (.imul, 1) := by decide +kernel
theorem dL_ring_192 : decode cL_ring 192 = .ok (.ishr, 1) := by decide +kernel
theorem dL_ring_193 : decode cL_ring 193 = .ok (.istore 5, 2) := by decide +kernel
theorem dL_ring_195 : decode cL_ring 195 = .ok (.aload_n 1, 1) := by decide +kernel
theorem dL_ring_196 : decode cL_ring 196 = .ok (.iload 5, 2) := by decide +kernel
theorem dL_ring_198 : decode cL_ring 198 = .ok (.iconst 2, 1) := by decide +kernel
theorem dL_ring_199 : decode cL_ring 199 = .ok (.invokestatic 9, 3) := by decide +kernel
theorem dL_ring_202 : decode cL_ring 202 = .ok (.ifCond .ne 7, 3) := by decide +kernel
theorem dL_ring_205 : decode cL_ring 205 = .ok (.iconst 0, 1) := by decide +kernel
theorem dL_ring_206 : decode cL_ring 206 = .ok (.goto 11, 3) := by decide +kernel
theorem dL_ring_209 : decode cL_ring 209 = .ok (.iload 5, 2) := by decide +kernel
theorem dL_ring_211 : decode cL_ring 211 = .ok (.iconst 1, 1) := by decide +kernel
theorem dL_ring_212 : decode cL_ring 212 = .ok (.ishr, 1) := by decide +kernel
theorem dL_ring_213 : decode cL_ring 213 = .ok (.iconst 3, 1) := by decide +kernel
theorem dL_ring_214 : decode cL_ring 214 = .ok (.invokestatic 9, 3) := by decide +kernel
theorem dL_ring_217 : decode cL_ring 217 = .ok (.invokevirtual 36, 3) := by decide +kernel
theorem dL_ring_220 : decode cL_ring 220 = .ok (.pop, 1) := by decide +kernel
theorem dL_ring_221 : decode cL_ring 221 = .ok (.aload_n 1, 1) := by decide +kernel
theorem dL_ring_222 : decode cL_ring 222 = .ok (.iload 4, 2) := by decide +kernel
theorem dL_ring_224 : decode cL_ring 224 = .ok (.iload 5, 2) := by decide +kernel
theorem dL_ring_226 : decode cL_ring 226 = .ok (.iconst 2, 1) := by decide +kernel
theorem dL_ring_227 : decode cL_ring 227 = .ok (.ishr, 1) := by decide +kernel
theorem dL_ring_228 : decode cL_ring 228 = .ok (.iload_n 2, 1) := by decide +kernel
theorem dL_ring_229 : decode cL_ring 229 = .ok (.invokestatic 9, 3) := by decide +kernel
theorem dL_ring_232 : decode cL_ring 232 = .ok (.iload 5, 2) := by decide +kernel
theorem dL_ring_234 : decode cL_ring 234 = .ok (.iconst 4, 1) := by decide +kernel
theorem dL_ring_235 : decode cL_ring 235 = .ok (.ishr, 1) := by decide +kernel
theorem dL_ring_236 : decode cL_ring 236 = .ok (.iconst 2, 1) := by decide +kernel
theorem dL_ring_237 : decode cL_ring 237 = .ok (.invokestatic 9, 3) := by decide +kernel
theorem dL_ring_240 : decode cL_ring 240 = .ok (.invokestatic 39, 3) := by decide +kernel
theorem dL_ring_243 : decode cL_ring 243 = .ok (.pop, 1) := by decide +kernel
theorem dL_ring_244 : decode cL_ring 244 = .ok (.iload 5, 2) := by decide +kernel
theorem dL_ring_246 : decode cL_ring 246 = .ok (.iconst 3, 1) := by decide +kernel
theorem dL_ring_247 : decode cL_ring 247 = .ok (.ishr, 1) := by decide +kernel
theorem dL_ring_248 : decode cL_ring 248 = .ok (.iconst 5, 1) := by decide +kernel
theorem dL_ring_249 : decode cL_ring 249 = .ok (.invokestatic 9, 3) := by decide +kernel
theorem dL_ring_252 : decode cL_ring 252 = .ok (.ifCond .ne 19, 3) := by decide +kernel
theorem dL_ring_255 : decode cL_ring 255 = .ok (.aload_n 1, 1) := by decide +kernel
theorem dL_ring_256 : decode cL_ring 256 = .ok (.iconst 1, 1) := by decide +kernel
theorem dL_ring_257 : decode cL_ring 257 = .ok (.iload 5, 2) := by decide +kernel
theorem dL_ring_259 : decode cL_ring 259 = .ok (.bipush 6, 2) := by decide +kernel
theorem dL_ring_261 : decode cL_ring 261 = .ok (.ishr, 1) := by decide +kernel
theorem dL_ring_262 : decode cL_ring 262 = .ok (.iconst 3, 1) := by decide +kernel
theorem dL_ring_263 : decode cL_ring 263 = .ok (.invokestatic 9, 3) := by decide +kernel
theorem dL_ring_266 : decode cL_ring 266 = .ok (.iadd, 1) := by decide +kernel
theorem dL_ring_267 : decode cL_ring 267 = .ok (.invokevirtual 43, 3) := by decide +kernel
theorem dL_ring_270 : decode cL_ring 270 = .ok (.pop, 1) := by decide +kernel
theorem dL_ring_271 : decode cL_ring 271 = .ok (.iinc 4 1, 3) := by decide +kernel
theorem dL_ring_274 : decode cL_ring 274 = .ok (.goto (-105), 3) := by decide +kernel
theorem dL_ring_277 : decode cL_ring 277 = .ok (.aload_n 1, 1) := by decide +kernel
theorem dL_ring_278 : decode cL_ring 278 = .ok (.areturn, 1) := by decide +kernel
theorem dL_give_0 : decode cL_give 0 = .ok (.aload_n 0, 1) := by decide +kernel
theorem dL_give_1 : decode cL_give 1 = .ok (.iload_n 1, 1) := by decide +kernel
theorem dL_give_2 : decode cL_give 2 = .ok (.iload_n 2, 1) := by decide +kernel
theorem dL_give_3 : decode cL_give 3 = .ok (.iload_n 3, 1) := by decide +kernel
theorem dL_give_4 : decode cL_give 4 = .ok (.invokevirtual 46, 3) := by decide +kernel
theorem dL_give_7 : decode cL_give 7 = .ok (.ireturn, 1) := by decide +kernel
theorem dL_give_8 : decode cL_give 8 = .ok (.astore 4, 2) := by decide +kernel
theorem dL_give_10 : decode cL_give 10 = .ok (.iconst (-1), 1) := by decide +kernel
theorem dL_give_11 : decode cL_give 11 = .ok (.ireturn, 1) := by decide +kernel

theorem dX10_copyRange_259 : decode cX10_copyRange 259 = .ok (.iand, 1) := by decide +kernel
theorem dX10_copyRange_260 : decode cX10_copyRange 260 = .ok (.iconst 4, 1) := by decide +kernel
theorem dX10_copyRange_261 : decode cX10_copyRange 261 = .ok (.imul, 1) := by decide +kernel
theorem dX10_copyRange_262 : decode cX10_copyRange 262 = .ok (.iload 4, 2) := by decide +kernel
theorem dX10_copyRange_264 : decode cX10_copyRange 264 = .ok (.bipush 8, 2) := by decide +kernel
theorem dX10_copyRange_266 : decode cX10_copyRange 266 = .ok (.iand, 1) := by decide +kernel
theorem dX10_copyRange_267 : decode cX10_copyRange 267 = .ok (.iconst 4, 1) := by decide +kernel
theorem dX10_copyRange_268 : decode cX10_copyRange 268 = .ok (.idiv, 1) := by decide +kernel
theorem dX10_copyRange_269 : decode cX10_copyRange 269 = .ok (.iadd, 1) := by decide +kernel
theorem dX10_copyRange_270 : decode cX10_copyRange 270 = .ok (.istore 13, 2) := by decide +kernel
theorem dX10_copyRange_272 : decode cX10_copyRange 272 = .ok (.aload_n 0, 1) := by decide +kernel
theorem dX10_copyRange_273 : decode cX10_copyRange 273 = .ok (.iload_n 1, 1) := by decide +kernel
theorem dX10_copyRange_274 : decode cX10_copyRange 274 = .ok (.iload 11, 2) := by decide +kernel
theorem dX10_copyRange_276 : decode cX10_copyRange 276 = .ok (.iload 12, 2) := by decide +kernel
theorem dX10_copyRange_278 : decode cX10_copyRange 278 = .ok (.iadd, 1) := by decide +kernel
theorem dX10_copyRange_279 : decode cX10_copyRange 279 = .ok (.iload 13, 2) := by decide +kernel
theorem dX10_copyRange_281 : decode cX10_copyRange 281 = .ok (.iadd, 1) := by decide +kernel
theorem dX10_copyRange_282 : decode cX10_copyRange 282 = .ok (.aload_n 0, 1) := by decide +kernel
theorem dX10_copyRange_283 : decode cX10_copyRange 283 = .ok (.getfield 7, 3) := by decide +kernel
theorem dX10_copyRange_286 : decode cX10_copyRange 286 = .ok (.iload_n 1, 1) := by decide +kernel
theorem dX10_copyRange_287 : decode cX10_copyRange 287 = .ok (.iconst 1, 1) := by decide +kernel
theorem dX10_copyRange_288 : decode cX10_copyRange 288 = .ok (.iadd, 1) := by decide +kernel
theorem dX10_copyRange_289 : decode cX10_copyRange 289 = .ok (.iaload, 1) := by decide +kernel
theorem dX10_copyRange_290 : decode cX10_copyRange 290 = .ok (.iload 8, 2) := by decide +kernel
theorem dX10_copyRange_292 : decode cX10_copyRange 292 = .ok (.iload 7, 2) := by decide +kernel
theorem dX10_copyRange_294 : decode cX10_copyRange 294 = .ok (.if_icmp .ge 8, 3) := by decide +kernel
theorem dX10_copyRange_297 : decode cX10_copyRange 297 = .ok (.iload 8, 2) := by decide +kernel
theorem dX10_copyRange_299 : decode cX10_copyRange 299 = .ok (.goto 5, 3) := by decide +kernel
theorem dX10_copyRange_302 : decode cX10_copyRange 302 = .ok (.iload 7, 2) := by decide +kernel
theorem dX10_copyRange_304 : decode cX10_copyRange 304 = .ok (.iload 10, 2) := by decide +kernel
theorem dX10_copyRange_306 : decode cX10_copyRange 306 = .ok (.iload 9, 2) := by decide +kernel
theorem dX10_copyRange_308 : decode cX10_copyRange 308 = .ok (.if_icmp .ge 8, 3) := by decide +kernel
theorem dX10_copyRange_311 : decode cX10_copyRange 311 = .ok (.iload 10, 2) := by decide +kernel
theorem dX10_copyRange_313 : decode cX10_copyRange 313 = .ok (.goto 5, 3) := by decide +kernel
theorem dX10_copyRange_316 : decode cX10_copyRange 316 = .ok (.iload 9, 2) := by decide +kernel
theorem dX10_copyRange_318 : decode cX10_copyRange 318 = .ok (.iload 8, 2) := by decide +kernel
theorem dX10_copyRange_320 : decode cX10_copyRange 320 = .ok (.iload 7, 2) := by decide +kernel
theorem dX10_copyRange_322 : decode cX10_copyRange 322 = .ok (.if_icmp .ge 8, 3) := by decide +kernel
theorem dX10_copyRange_325 : decode cX10_copyRange 325 = .ok (.iload 7, 2) := by decide +kernel
theorem dX10_copyRange_327 : decode cX10_copyRange 327 = .ok (.goto 5, 3) := by decide +kernel
theorem dX10_copyRange_330 : decode cX10_copyRange 330 = .ok (.iload 8, 2) := by decide +kernel
theorem dX10_copyRange_332 : decode cX10_copyRange 332 = .ok (.iload 10, 2) := by decide +kernel
theorem dX10_copyRange_334 : decode cX10_copyRange 334 = .ok (.iload 9, 2) := by decide +kernel
theorem dX10_copyRange_336 : decode cX10_copyRange 336 = .ok (.if_icmp .ge 8, 3) := by decide +kernel
theorem dX10_copyRange_339 : decode cX10_copyRange 339 = .ok (.iload 9, 2) := by decide +kernel
theorem dX10_copyRange_341 : decode cX10_copyRange 341 = .ok (.goto 5, 3) := by decide +kernel
theorem dX10_copyRange_344 : decode cX10_copyRange 344 = .ok (.iload 10, 2) := by decide +kernel
theorem dX10_copyRange_346 : decode cX10_copyRange 346 = .ok (.invokevirtual 64, 3) := by decide +kernel
theorem dX10_copyRange_349 : decode cX10_copyRange 349 = .ok (.return_, 1) := by decide +kernel
theorem dX10_copy_0 : decode cX10_copy 0 = .ok (.aload_n 0, 1) := by decide +kernel
theorem dX10_copy_1 : decode cX10_copy 1 = .ok (.iload_n 1, 1) := by decide +kernel
theorem dX10_copy_2 : decode cX10_copy 2 = .ok (.ldc 68, 2) := by decide +kernel
theorem dX10_copy_4 : decode cX10_copy 4 = .ok (.ldc 69, 2) := by decide +kernel
theorem dX10_copy_6 : decode cX10_copy 6 = .ok (.invokestatic 40, 3) := by decide +kernel
theorem dX10_copy_9 : decode cX10_copy 9 = .ok (.ifCond .eq 20, 3) := by decide +kernel
theorem dX10_copy_12 : decode cX10_copy 12 = .ok (.iload_n 2, 1) := by decide +kernel
theorem dX10_copy_13 : decode cX10_copy 13 = .ok (.sipush (-16383), 3) := by decide +kernel
theorem dX10_copy_16 : decode cX10_copy 16 = .ok (.sipush 16383, 3) := by decide +kernel
theorem dX10_copy_19 : decode cX10_copy 19 = .ok (.invokestatic 40, 3) := by decide +kernel
theorem dX10_copy_22 : decode cX10_copy 22 = .ok (.ifCond .eq 7, 3) := by decide +kernel
theorem dX10_copy_25 : decode cX10_copy 25 = .ok (.iconst 0, 1) := by decide +kernel
theorem dX10_copy_26 : decode cX10_copy 26 = .ok (.goto 4, 3) := by decide +kernel
theorem dX10_copy_29 : decode cX10_copy 29 = .ok (.iconst 1, 1) := by decide +kernel
theorem dX10_copy_30 : decode cX10_copy 30 = .ok (.putfield 29, 3) := by decide +kernel
theorem dX10_copy_33 : decode cX10_copy 33 = .ok (.aload_n 0, 1) := by decide +kernel
theorem dX10_copy_34 : decode cX10_copy 34 = .ok (.getfield 29, 3) := by decide +kernel
theorem dX10_copy_37 : decode cX10_copy 37 = .ok (.ifCond .eq 5, 3) := by decide +kernel
theorem dX10_copy_40 : decode cX10_copy 40 = .ok (.iconst 0, 1) := by decide +kernel
theorem dX10_copy_41 : decode cX10_copy 41 = .ok (.ireturn, 1) := by decide +kernel
theorem dX10_copy_42 : decode cX10_copy 42 = .ok (.aload_n 0, 1) := by decide +kernel
theorem dX10_copy_43 : decode cX10_copy 43 = .ok (.invokevirtual 70, 3) := by decide +kernel
theorem dX10_copy_46 : decode cX10_copy 46 = .ok (.iconst 0, 1) := by decide +kernel
theorem dX10_copy_47 : decode cX10_copy 47 = .ok (.istore_n 3, 1) := by decide +kernel
theorem dX10_copy_48 : decode cX10_copy 48 = .ok (.iload_n 3, 1) := by decide +kernel
theorem dX10_copy_49 : decode cX10_copy 49 = .ok (.aload_n 0, 1) := by decide +kernel
theorem dX10_copy_50 : decode cX10_copy 50 = .ok (.getfield 32, 3) := by decide +kernel
theorem dX10_copy_53 : decode cX10_copy 53 = .ok (.if_icmp .ge 182, 3) := by decide +kernel
theorem dX10_copy_56 : decode cX10_copy 56 = .ok (.aload_n 0, 1) := by decide +kernel
theorem dX10_copy_57 : decode cX10_copy 57 = .ok (.iload_n 3, 1) := by decide +kernel
theorem dX10_copy_58 : decode cX10_copy 58 = .ok (.invokevirtual 73, 3) := by decide +kernel
theorem dX10_copy_61 : decode cX10_copy 61 = .ok (.istore 4, 2) := by decide +kernel
theorem dX10_copy_63 : decode cX10_copy 63 = .ok (.iload 4, 2) := by decide +kernel
theorem dX10_copy_65 : decode cX10_copy 65 = .ok (.iconst 4, 1) := by decide +kernel
theorem dX10_copy_66 : decode cX10_copy 66 = .ok (.if_icmp .ne 39, 3) := by decide +kernel
theorem dX10_copy_69 : decode cX10_copy 69 = .ok (.aload_n 0, 1) := by decide +kernel
theorem dX10_copy_70 : decode cX10_copy 70 = .ok (.getfield 7, 3) := by decide +kernel
theorem dX10_copy_73 : decode cX10_copy 73 = .ok (.iload_n 3, 1) := by decide +kernel
theorem dX10_copy_74 : decode cX10_copy 74 = .ok (.iconst 2, 1) := by decide +kernel
theorem dX10_copy_75 : decode cX10_copy 75 = .ok (.iadd, 1) := by decide +kernel
theorem dX10_copy_76 : decode cX10_copy 76 = .ok (.iaload, 1) := by decide +kernel
theorem dX10_copy_77 : decode cX10_copy 77 = .ok (.aload_n 0, 1) := by decide +kernel
theorem dX10_copy_78 : decode cX10_copy 78 = .ok (.getfield 7, 3) := by decide +kernel
theorem dX10_copy_81 : decode cX10_copy 81 = .ok (.iload_n 3, 1) := by decide +kernel
theorem dX10_copy_82 : decode cX10_copy 82 = .ok (.iaload, 1) := by decide +kernel
theorem dX10_copy_83 : decode cX10_copy 83 = .ok (.bipush 16, 2) := by decide +kernel
theorem dX10_copy_85 : decode cX10_copy 85 = .ok (.idiv, 1) := by decide +kernel
theorem dX10_copy_86 : decode cX10_copy 86 = .ok (.iconst 2, 1) := by decide +kernel
theorem dX10_copy_87 : decode cX10_copy 87 = .ok (.iand, 1) := by decide +kernel
theorem dX10_copy_88 : decode cX10_copy 88 = .ok (.ifCond .le 7, 3) := by decide +kernel
theorem dX10_copy_91 : decode cX10_copy 91 = .ok (.iconst 1, 1) := by decide +kernel
theorem dX10_copy_92 : decode cX10_copy 92 = .ok (.goto 4, 3) := by decide +kernel
theorem dX10_copy_95 : decode cX10_copy 95 = .ok (.iconst 0, 1) := by decide +kernel
theorem dX10_copy_96 : decode cX10_copy 96 = .ok (.iload_n 1, 1) := by decide +kernel
theorem dX10_copy_97 : decode cX10_copy 97 = .ok (.ldc 39, 2) := by decide +kernel
theorem dX10_copy_99 : decode cX10_copy 99 = .ok (.invokestatic 57, 3) := by decide +kernel
theorem dX10_copy_102 : decode cX10_copy 102 = .ok (.goto 4, 3) := by decide +kernel
theorem dX10_copy_105 : decode cX10_copy 105 = .ok (.iconst 0, 1) := by decide +kernel
theorem dX10_copy_106 : decode cX10_copy 106 = .ok (.istore 5, 2) := by decide +kernel
theorem dX10_copy_108 : decode cX10_copy 108 = .ok (.iload 4, 2) := by decide +kernel
theorem dX10_copy_110 : decode cX10_copy 110 = .ok (.iconst 4, 1) := by decide +kernel
theorem dX10_copy_111 : decode cX10_copy 111 = .ok (.if_icmp .ne 40, 3) := by decide +kernel
theorem dX10_copy_114 : decode cX10_copy 114 = .ok (.aload_n 0, 1) := by decide +kernel
theorem dX10_copy_115 : decode cX10_copy 115 = .ok (.getfield 7, 3) := by decide +kernel
theorem dX10_copy_118 : decode cX10_copy 118 = .ok (.iload_n 3, 1) := by decide +kernel
theorem dX10_copy_119 : decode cX10_copy 119 = .ok (.iconst 3, 1) := by decide +kernel
theorem dX10_copy_120 : decode cX10_copy 120 = .ok (.iadd, 1) := by decide +kernel
theorem dX10_copy_121 : decode cX10_copy 121 = .ok (.iaload, 1) := by decide +kernel
theorem dX10_copy_122 : decode cX10_copy 122 = .ok (.aload_n 0, 1) := by decide +kernel
theorem dX10_copy_123 : decode cX10_copy 123 = .ok (.getfield 7, 3) := by decide +kernel
theorem dX10_copy_126 : decode cX10_copy 126 = .ok (.iload_n 3, 1) := by decide +kernel
theorem dX10_copy_127 : decode cX10_copy 127 = .ok (.iaload, 1) := by decide +kernel
theorem dX10_copy_128 : decode cX10_copy 128 = .ok (.bipush 16, 2) := by decide +kernel
theorem dX10_copy_130 : decode cX10_copy 130 = .ok (.idiv, 1) := by decide +kernel
theorem dX10_copy_131 : decode cX10_copy 131 = .ok (.iconst 1, 1) := by decide +kernel
theorem dX10_copy_132 : decode cX10_copy 132 = .ok (.iand, 1) := by decide +kernel
theorem dX10_copy_133 : decode cX10_copy 133 = .ok (.ifCond .le 7, 3) := by decide +kernel
theorem dX10_copy_136 : decode cX10_copy 136 = .ok (.iconst 1, 1) := by decide +kernel
theorem dX10_copy_137 : decode cX10_copy 137 = .ok (.goto 4, 3) := by decide +kernel
theorem dX10_copy_140 : decode cX10_copy 140 = .ok (.iconst 0, 1) := by decide +kernel
theorem dX10_copy_141 : decode cX10_copy 141 = .ok (.iload_n 2, 1) := by decide +kernel
theorem dX10_copy_142 : decode cX10_copy 142 = .ok (.sipush 16384, 3) := by decide +kernel
theorem dX10_copy_145 : decode cX10_copy 145 = .ok (.invokestatic 57, 3) := by decide +kernel
theorem dX10_copy_148 : decode cX10_copy 148 = .ok (.goto 4, 3) := by decide +kernel
theorem dX10_copy_151 : decode cX10_copy 151 = .ok (.iconst 0, 1) := by decide +kernel
theorem dX10_copy_152 : decode cX10_copy 152 = .ok (.istore 6, 2) := by decide +kernel
theorem dX10_copy_154 : decode cX10_copy 154 = .ok (.iload 4, 2) := by decide +kernel
theorem dX10_copy_156 : decode cX10_copy 156 = .ok (.iconst 1, 1) := by decide +kernel
theorem dX10_copy_157 : decode cX10_copy 157 = .ok (.if_icmp .ne 16, 3) := by decide +kernel
theorem dX10_copy_160 : decode cX10_copy 160 = .ok (.aload_n 0, 1) := by decide +kernel
theorem dX10_copy_161 : decode cX10_copy 161 = .ok (.aload_n 0, 1) := by decide +kernel
theorem dX10_copy_162 : decode cX10_copy 162 = .ok (.getfield 7, 3) := by decide +kernel
theorem dX10_copy_165 : decode cX10_copy 165 = .ok (.iload_n 3, 1) := by decide +kernel
theorem dX10_copy_166 : decode cX10_copy 166 = .ok (.iaload, 1) := by decide +kernel
theorem dX10_copy_167 : decode cX10_copy 167 = .ok (.invokevirtual 51, 3) := by decide +kernel
theorem dX10_copy_170 : decode cX10_copy 170 = .ok (.goto 54, 3) := by decide +kernel
theorem dX10_copy_173 : decode cX10_copy 173 = .ok (.iload 4, 2) := by decide +kernel
theorem dX10_copy_175 : decode cX10_copy 175 = .ok (.bipush 6, 2) := by decide +kernel
theorem dX10_copy_177 : decode cX10_copy 177 = .ok (.if_icmp .ne 13, 3) := by decide +kernel
theorem dX10_copy_180 : decode cX10_copy 180 = .ok (.aload_n 0, 1) := by decide +kernel
theorem dX10_copy_181 : decode cX10_copy 181 = .ok (.iload_n 3, 1) := by decide +kernel
theorem dX10_copy_182 : decode cX10_copy 182 = .ok (.iload_n 1, 1) := by decide +kernel
theorem dX10_copy_183 : decode cX10_copy 183 = .ok (.iload_n 2, 1) := by decide +kernel
theorem dX10_copy_184 : decode cX10_copy 184 = .ok (.invokevirtual 77, 3) := by decide +kernel
theorem dX10_copy_187 : decode cX10_copy 187 = .ok (.goto 37, 3) := by decide +kernel
theorem dX10_copy_190 : decode cX10_copy 190 = .ok (.iload 5, 2) := by decide +kernel
theorem dX10_copy_192 : decode cX10_copy 192 = .ok (.ifCond .eq 8, 3) := by decide +kernel
theorem dX10_copy_195 : decode cX10_copy 195 = .ok (.iload 6, 2) := by decide +kernel
theorem dX10_copy_197 : decode cX10_copy 197 = .ok (.ifCond .ne 10, 3) := by decide +kernel
theorem dX10_copy_200 : decode cX10_copy 200 = .ok (.aload_n 0, 1) := by decide +kernel
theorem dX10_copy_201 : decode cX10_copy 201 = .ok (.invokevirtual 61, 3) := by decide +kernel
theorem dX10_copy_204 : decode cX10_copy 204 = .ok (.goto 20, 3) := by decide +kernel
theorem dX10_copy_207 : decode cX10_copy 207 = .ok (.aload_n 0, 1) := by decide +kernel
theorem dX10_copy_208 : decode cX10_copy 208 = .ok (.iload_n 3, 1) := by decide +kernel
theorem dX10_copy_209 : decode cX10_copy 209 = .ok (.aload_n 0, 1) := by decide +kernel
theorem dX10_copy_210 : decode cX10_copy 210 = .ok (.getfield 7, 3) := by decide +kernel
theorem dX10_copy_213 : decode cX10_copy 213 = .ok (.iload_n 3, 1) := by decide +kernel
theorem dX10_copy_214 : decode cX10_copy 214 = .ok (.iconst 1, 1) := by decide +kernel
theorem dX10_copy_215 : decode cX10_copy 215 = .ok (.iadd, 1) := by decide +kernel
theorem dX10_copy_216 : decode cX10_copy 216 = .ok (.iaload, 1) := by decide +kernel
theorem dX10_copy_217 : decode cX10_copy 217 = .ok (.iload 5, 2) := by decide +kernel
theorem dX10_copy_219 : decode cX10_copy 219 = .ok (.iload 6, 2) := by decide +kernel
theorem dX10_copy_221 : decode cX10_copy 221 = .ok (.invokevirtual 81, 3) := by decide +kernel
theorem dX10_copy_224 : decode cX10_copy 224 = .ok (.iload_n 3, 1) := by decide +kernel
theorem dX10_copy_225 : decode cX10_copy 225 = .ok (.aload_n 0, 1) := by decide +kernel
theorem dX10_copy_226 : decode cX10_copy 226 = .ok (.iload_n 3, 1) := by decide +kernel
theorem dX10_copy_227 : decode cX10_copy 227 = .ok (.invokevirtual 73, 3) := by decide +kernel
theorem dX10_copy_230 : decode cX10_copy 230 = .ok (.iadd, 1) := by decide +kernel
theorem dX10_copy_231 : decode cX10_copy 231 = .ok (.istore_n 3, 1) := by decide +kernel
theorem dX10_copy_232 : decode cX10_copy 232 = .ok (.goto (-184), 3) := by decide +kernel
theorem dX10_copy_235 : decode cX10_copy 235 = .ok (.aload_n 0, 1) := by decide +kernel
theorem dX10_copy_236 : decode cX10_copy 236 = .ok (.invokevirtual 85, 3) := by decide +kernel
theorem dX10_copy_239 : decode cX10_copy 239 = .ok (.ireturn, 1) := by decide +kernel
theorem dX10_lines_0 : decode cX10_lines 0 = .ok (.iload_n 0, 1) := by decide +kernel
theorem dX10_lines_1 : decode cX10_lines 1 = .ok (.ifCond .eq 9, 3) := by decide +kernel
theorem dX10_lines_4 : decode cX10_lines 4 = .ok (.sipush 16384, 3) := by decide +kernel
theorem dX10_lines_7 : decode cX10_lines 7 = .ok (.goto 5, 3) := by decide +kernel
theorem dX10_lines_10 : decode cX10_lines 10 = .ok (.ldc 39, 2) := by decide +kernel
theorem dX10_lines_12 : decode cX10_lines 12 = .ok (.ireturn, 1) := by decide +kernel
theorem dX10_shifted_0 : decode cX10_shifted 0 = .ok (.iload_n 0, 1) := by decide +kernel
theorem dX10_shifted_1 : decode cX10_shifted 1 = .ok (.iload_n 2, 1) := by decide +kernel
theorem dX10_shifted_2 : decode cX10_shifted 2 = .ok (.if_icmp .ge 5, 3) := by decide +kernel
theorem dX10_shifted_5 : decode cX10_shifted 5 = .ok (.iload_n 0, 1) := by decide +kernel
theorem dX10_shifted_6 : decode cX10_shifted 6 = .ok (.ireturn, 1) := by decide +kernel
theorem dX10_shifted_7 : decode cX10_shifted 7 = .ok (.iload_n 3, 1) := by decide +kernel
theorem dX10_shifted_8 : decode cX10_shifted 8 = .ok (.ifCond .ge 12, 3) := by decide +kernel
theorem dX10_shifted_11 : decode cX10_shifted 11 = .ok (.iload_n 0, 1) := by decide +kernel
theorem dX10_shifted_12 : decode cX10_shifted 12 = .ok (.iload_n 2, 1) := by decide +kernel
theorem dX10_shifted_13 : decode cX10_shifted 13 = .ok (.iload_n 3, 1) := by decide +kernel
theorem dX10_shifted_14 : decode cX10_shifted 14 = .ok (.isub, 1) := by decide +kernel
theorem dX10_shifted_15 : decode cX10_shifted 15 = .ok (.if_icmp .ge 5, 3) := by decide +kernel
theorem dX10_shifted_18 : decode cX10_shifted 18 = .ok (.iconst 0, 1) := by decide +kernel
theorem dX10_shifted_19 : decode cX10_shifted 19 = .ok (.ireturn, 1) := by decide +kernel
theorem dX10_shifted_20 : decode cX10_shifted 20 = .ok (.iload_n 0, 1) := by decide +kernel
theorem dX10_shifted_21 : decode cX10_shifted 21 = .ok (.iload_n 3, 1) := by decide +kernel
theorem dX10_shifted_22 : decode cX10_shifted 22 = .ok (.iadd, 1) := by decide +kernel
theorem dX10_shifted_23 : decode cX10_shifted 23 = .ok (.iload_n 1, 1) := by decide +kernel
theorem dX10_shifted_24 : decode cX10_shifted 24 = .ok (.invokestatic 89, 3) := by decide +kernel
theorem dX10_shifted_27 : decode cX10_shifted 27 = .ok (.if_icmp .le 7, 3) := by decide +kernel
theorem dX10_shifted_30 : decode cX10_shifted 30 = .ok (.iconst 0, 1) := by decide +kernel
theorem dX10_shifted_31 : decode cX10_shifted 31 = .ok (.goto 6, 3) := by decide +kernel
theorem dX10_shifted_34 : decode cX10_shifted 34 = .ok (.iload_n 0, 1) := by decide +kernel
theorem dX10_shifted_35 : decode cX10_shifted 35 = .ok (.iload_n 3, 1) := by decide +kernel
theorem dX10_shifted_36 : decode cX10_shifted 36 = .ok (.iadd, 1) := by decide +kernel
theorem dX10_shifted_37 : decode cX10_shifted 37 = .ok (.ireturn, 1) := by decide +kernel
theorem dX10_firstLeft_0 : decode cX10_firstLeft 0 = .ok (.iload_n 0, 1) := by decide +kernel
theorem dX10_firstLeft_1 : decode cX10_firstLeft 1 = .ok (.iload_n 2, 1) := by decide +kernel
theorem dX10_firstLeft_2 : decode cX10_firstLeft 2 = .ok (.iload_n 3, 1) := by decide +kernel
theorem dX10_firstLeft_3 : decode cX10_firstLeft 3 = .ok (.iload 4, 2) := by decide +kernel
theorem dX10_firstLeft_5 : decode cX10_firstLeft 5 = .ok (.invokestatic 93, 3) := by decide +kernel
theorem dX10_firstLeft_8 : decode cX10_firstLeft 8 = .ok (.istore 5, 2) := by decide +kernel
theorem dX10_firstLeft_10 : decode cX10_firstLeft 10 = .ok (.iload 5, 2) := by decide +kernel
theorem dX10_firstLeft_12 : decode cX10_firstLeft 12 = .ok (.ifCond .gt 8, 3) := by decide +kernel
theorem dX10_firstLeft_15 : decode cX10_firstLeft 15 = .ok (.iload 4, 2) := by decide +kernel
theorem dX10_firstLeft_17 : decode cX10_firstLeft 17 = .ok (.ifCond .le 6, 3) := by decide +kernel
theorem dX10_firstLeft_20 : decode cX10_firstLeft 20 = .ok (.iload 5, 2) := by decide +kernel
theorem dX10_firstLeft_22 : decode cX10_firstLeft 22 = .ok (.ireturn, 1) := by decide +kernel
theorem dX10_firstLeft_23 : decode cX10_firstLeft 23 = .ok (.iload_n 3, 1) := by decide +kernel
theorem dX10_firstLeft_24 : decode cX10_firstLeft 24 = .ok (.iload 4, 2) := by decide +kernel
theorem dX10_firstLeft_26 : decode cX10_firstLeft 26 = .ok (.isub, 1) := by decide +kernel
theorem dX10_firstLeft_27 : decode cX10_firstLeft 27 = .ok (.iload_n 1, 1) := by decide +kernel
theorem dX10_firstLeft_28 : decode cX10_firstLeft 28 = .ok (.if_icmp .gt 7, 3) := by decide +kernel
theorem dX10_firstLeft_31 : decode cX10_firstLeft 31 = .ok (.iload_n 3, 1) := by decide +kernel
theorem dX10_firstLeft_32 : decode cX10_firstLeft 32 = .ok (.goto 4, 3) := by decide +kernel
theorem dX10_firstLeft_35 : decode cX10_firstLeft 35 = .ok (.iconst 0, 1) := by decide +kernel
theorem dX10_firstLeft_36 : decode cX10_firstLeft 36 = .ok (.ireturn, 1) := by decide +kernel
theorem dX10_lastLeft_0 : decode cX10_lastLeft 0 = .ok (.iload_n 1, 1) := by decide +kernel
theorem dX10_lastLeft_1 : decode cX10_lastLeft 1 = .ok (.iload_n 2, 1) := by decide +kernel
theorem dX10_lastLeft_2 : decode cX10_lastLeft 2 = .ok (.iload_n 3, 1) := by decide +kernel
theorem dX10_lastLeft_3 : decode cX10_lastLeft 3 = .ok (.iload 4, 2) := by decide +kernel
theorem dX10_lastLeft_5 : decode cX10_lastLeft 5 = .ok (.invokestatic 93, 3) := by decide +kernel
theorem dX10_lastLeft_8 : decode cX10_lastLeft 8 = .ok (.istore 5, 2) := by decide +kernel
theorem dX10_lastLeft_10 : decode cX10_lastLeft 10 = .ok (.iload 5, 2) := by decide +kernel
theorem dX10_lastLeft_12 : decode cX10_lastLeft 12 = .ok (.ifCond .le 6, 3) := by decide +kernel
theorem dX10_lastLeft_15 : decode cX10_lastLeft 15 = .ok (.iload 5, 2) := by decide +kernel
theorem dX10_lastLeft_17 : decode cX10_lastLeft 17 = .ok (.ireturn, 1) := by decide +kernel
theorem dX10_lastLeft_18 : decode cX10_lastLeft 18 = .ok (.iload 4, 2) := by decide +kernel
theorem dX10_lastLeft_20 : decode cX10_lastLeft 20 = .ok (.ifCond .le 8, 3) := by decide +kernel
theorem dX10_lastLeft_23 : decode cX10_lastLeft 23 = .ok (.iload_n 2, 1) := by decide +kernel
theorem dX10_lastLeft_24 : decode cX10_lastLeft 24 = .ok (.invokestatic 89, 3) := by decide +kernel
theorem dX10_lastLeft_27 : decode cX10_lastLeft 27 = .ok (.ireturn, 1) := by decide +kernel
theorem dX10_lastLeft_28 : decode cX10_lastLeft 28 = .ok (.iload_n 3, 1) := by decide +kernel
theorem dX10_lastLeft_29 : decode cX10_lastLeft 29 = .ok (.iload_n 0, 1) := by decide +kernel
theorem dX10_lastLeft_30 : decode cX10_lastLeft 30 = .ok (.if_icmp .le 9, 3) := by decide +kernel
theorem dX10_lastLeft_33 : decode cX10_lastLeft 33 = .ok (.iload_n 3, 1) := by decide +kernel
theorem dX10_lastLeft_34 : decode cX10_lastLeft 34 = .ok (.iconst 1, 1) := by decide +kernel
theorem dX10_lastLeft_35 : decode cX10_lastLeft 35 = .ok (.isub, 1) := by decide +kernel
theorem dX10_lastLeft_36 : decode cX10_lastLeft 36 = .ok (.goto 4, 3) := by decide +kernel
theorem dX10_lastLeft_39 : decode cX10_lastLeft 39 = .ok (.iconst 0, 1) := by decide +kernel
theorem dX10_lastLeft_40 : decode cX10_lastLeft 40 = .ok (.ireturn, 1) := by decide +kernel
theorem dX10_shiftRange_0 : decode cX10_shiftRange 0 = .ok (.iload_n 2, 1) := by decide +kernel
theorem dX10_shiftRange_1 : decode cX10_shiftRange 1 = .ok (.ifCond .eq 14, 3) := by decide +kernel
theorem dX10_shiftRange_4 : decode cX10_shiftRange 4 = .ok (.aload_n 0, 1) := by decide +kernel
theorem dX10_shiftRange_5 : decode cX10_shiftRange 5 = .ok (.getfield 7, 3) := by decide +kernel
theorem dX10_shiftRange_8 : decode cX10_shiftRange 8 = .ok (.iload_n 1, 1) := by decide +kernel
theorem dX10_shiftRange_9 : decode cX10_shiftRange 9 = .ok (.iconst 3, 1) := by decide +kernel
theorem dX10_shiftRange_10 : decode cX10_shiftRange 10 = .ok (.iadd, 1) := by decide +kernel
theorem dX10_shiftRange_11 : decode cX10_shiftRange 11 = .ok (.iaload, 1) := by decide +kernel
theorem dX10_shiftRange_12 : decode cX10_shiftRange 12 = .ok (.goto 11, 3) := by decide +kernel
theorem dX10_shiftRange_15 : decode cX10_shiftRange 15 = .ok (.aload_n 0, 1) := by decide +kernel
theorem dX10_shiftRange_16 : decode cX10_shiftRange 16 = .ok (.getfield 7, 3) := by decide +kernel
theorem dX10_shiftRange_19 : decode cX10_shiftRange 19 = .ok (.iload_n 1, 1) := by decide +kernel
theorem dX10_shiftRange_20 : decode cX10_shiftRange 20 = .ok (.iconst 2, 1) := by decide +kernel
theorem dX10_shiftRange_21 : decode cX10_shiftRange 21 = .ok (.iadd, 1) := by decide +kernel
theorem dX10_shiftRange_22 : decode cX10_shiftRange 22 = .ok (.iaload, 1) := by decide +kernel
theorem dX10_shiftRange_23 : decode cX10_shiftRange 23 = .ok (.istore 5, 2) := by decide +kernel
theorem dX10_shiftRange_25 : decode cX10_shiftRange 25 = .ok (.iload_n 2, 1) := by decide +kernel
theorem dX10_shiftRange_26 : decode cX10_shiftRange 26 = .ok (.ifCond .eq 14, 3) := by decide +kernel
theorem dX10_shiftRange_29 : decode cX10_shiftRange 29 = .ok (.aload_n 0, 1) := by decide +kernel
theorem dX10_shiftRange_30 : decode cX10_shiftRange 30 = .ok (.getfield 7, 3) := by decide +kernel
theorem dX10_shiftRange_33 : decode cX10_shiftRange 33 = .ok (.iload_n 1, 1) := by decide +kernel
theorem dX10_shiftRange_34 : decode cX10_shiftRange 34 = .ok (.iconst 5, 1) := by decide +kernel
theorem dX10_shiftRange_35 : decode cX10_shiftRange 35 = .ok (.iadd, 1) := by decide +kernel
theorem dX10_shiftRange_36 : decode cX10_shiftRange 36 = .ok (.iaload, 1) := by decide +kernel
theorem dX10_shiftRange_37 : decode cX10_shiftRange 37 = .ok (.goto 11, 3) := by decide +kernel
theorem dX10_shiftRange_40 : decode cX10_shiftRange 40 = .ok (.aload_n 0, 1) := by decide +kernel
theorem dX10_shiftRange_41 : decode cX10_shiftRange 41 = .ok (.getfield 7, 3) := by decide +kernel
theorem dX10_shiftRange_44 : decode cX10_shiftRange 44 = .ok (.iload_n 1, 1) := by decide +kernel
theorem dX10_shiftRange_45 : decode cX10_shiftRange 45 = .ok (.iconst 4, 1) := by decide +kernel
theorem dX10_shiftRange_46 : decode cX10_shiftRange 46 = .ok (.iadd, 1) := by decide +kernel
theorem dX10_shiftRange_47 : decode cX10_shiftRange 47 = .ok (.iaload, 1) := by decide +kernel
theorem dX10_shiftRange_48 : decode cX10_shiftRange 48 = .ok (.istore 6, 2) := by decide +kernel
theorem dX10_shiftRange_50 : decode cX10_shiftRange 50 = .ok (.iload 5, 2) := by decide +kernel
theorem dX10_shiftRange_52 : decode cX10_shiftRange 52 = .ok (.iconst 1, 1) := by decide +kernel
theorem dX10_shiftRange_53 : decode cX10_shiftRange 53 = .ok (.if_icmp .ne 16, 3) := by decide +kernel
theorem dX10_shiftRange_56 : decode cX10_shiftRange 56 = .ok (.iload 6, 2) := by decide +kernel
theorem dX10_shiftRange_58 : decode cX10_shiftRange 58 = .ok (.iload_n 2, 1) := by decide +kernel
theorem dX10_shiftRange_59 : decode cX10_shiftRange 59 = .ok (.invokestatic 89, 3) := by decide +kernel
theorem dX10_shiftRange_62 : decode cX10_shiftRange 62 = .ok (.if_icmp .ne 7, 3) := by decide +kernel
theorem dX10_shiftRange_65 : decode cX10_shiftRange 65 = .ok (.iconst 1, 1) := by decide +kernel
theorem dX10_shiftRange_66 : decode cX10_shiftRange 66 = .ok (.goto 4, 3) := by decide +kernel
theorem dX10_shiftRange_69 : decode cX10_shiftRange 69 = .ok (.iconst 0, 1) := by decide +kernel
theorem dX10_shiftRange_70 : decode cX10_shiftRange 70 = .ok (.istore 7, 2) := by decide +kernel
theorem dX10_shiftRange_72 : decode cX10_shiftRange 72 = .ok (.iload 7, 2) := by decide +kernel
theorem dX10_shiftRange_74 : decode cX10_shiftRange 74 = .ok (.ifCond .eq 8, 3) := by decide +kernel
theorem dX10_shiftRange_77 : decode cX10_shiftRange 77 = .ok (.iload 5, 2) := by decide +kernel
theorem dX10_shiftRange_79 : decode cX10_shiftRange 79 = .ok (.goto 14, 3) := by decide +kernel
theorem dX10_shiftRange_82 : decode cX10_shiftRange 82 = .ok (.iload 5, 2) := by decide +kernel
theorem dX10_shiftRange_84 : decode cX10_shiftRange 84 = .ok (.iload 6, 2) := by decide +kernel
theorem dX10_shiftRange_86 : decode cX10_shiftRange 86 = .ok (.iload_n 2, 1) := by decide +kernel
theorem dX10_shiftRange_87 : decode cX10_shiftRange 87 = .ok (.iload_n 3, 1) := by decide +kernel
theorem dX10_shiftRange_88 : decode cX10_shiftRange 88 = .ok (.iload 4, 2) := by decide +kernel
theorem dX10_shiftRange_90 : decode cX10_shiftRange 90 = .ok (.invokestatic 96, 3) := by decide +kernel
theorem dX10_shiftRange_93 : decode cX10_shiftRange 93 = .ok (.istore 8, 2) := by decide +kernel
theorem dX10_shiftRange_95 : decode cX10_shiftRange 95 = .ok (.iload 7, 2) := by decide +kernel
theorem dX10_shiftRange_97 : decode cX10_shiftRange 97 = .ok (.ifCond .eq 8, 3) := by decide +kernel
theorem dX10_shiftRange_100 : decode cX10_shiftRange 100 = .ok (.iload 6, 2) := by decide +kernel
theorem dX10_shiftRange_102 : decode cX10_shiftRange 102 = .ok (.goto 14, 3) := by decide +kernel
theorem dX10_shiftRange_105 : decode cX10_shiftRange 105 = .ok (.iload 5, 2) := by decide +kernel
theorem dX10_shiftRange_107 : decode cX10_shiftRange 107 = .ok (.iload 6, 2) := by decide +kernel
theorem dX10_shiftRange_109 : decode cX10_shiftRange 109 = .ok (.iload_n 2, 1) := by decide +kernel
theorem dX10_shiftRange_110 : decode cX10_shiftRange 110 = .ok (.iload_n 3, 1) := by decide +kernel
theorem dX10_shiftRange_111 : decode cX10_shiftRange 111 = .ok (.iload 4, 2) := by decide +kernel
theorem dX10_shiftRange_113 : decode cX10_shiftRange 113 = .ok (.invokestatic 100, 3) := by decide +kernel
theorem dX10_shiftRange_116 : decode cX10_shiftRange 116 = .ok (.istore 9, 2) := by decide +kernel
theorem dX10_shiftRange_118 : decode cX10_shiftRange 118 = .ok (.iload 8, 2) := by decide +kernel
theorem dX10_shiftRange_120 : decode cX10_shiftRange 120 = .ok (.ifCond .eq 8, 3) := by decide +kernel
theorem dX10_shiftRange_123 : decode cX10_shiftRange 123 = .ok (.iload 9, 2) := by decide +kernel
theorem dX10_shiftRange_125 : decode cX10_shiftRange 125 = .ok (.ifCond .ne 10, 3) := by decide +kernel
theorem dX10_shiftRange_128 : decode cX10_shiftRange 128 = .ok (.aload_n 0, 1) := by decide +kernel
theorem dX10_shiftRange_129 : decode cX10_shiftRange 129 = .ok (.invokevirtual 61, 3) := by decide +kernel
theorem dX10_shiftRange_132 : decode cX10_shiftRange 132 = .ok (.goto 94, 3) := by decide +kernel
theorem dX10_shiftRange_135 : decode cX10_shiftRange 135 = .ok (.iload_n 2, 1) := by decide +kernel
theorem dX10_shiftRange_136 : decode cX10_shiftRange 136 = .ok (.ifCond .eq 48, 3) := by decide +kernel
theorem dX10_shiftRange_139 : decode cX10_shiftRange 139 = .ok (.aload_n 0, 1) := by decide +kernel
theorem dX10_shiftRange_140 : decode cX10_shiftRange 140 = .ok (.iload_n 1, 1) := by decide +kernel
theorem dX10_shiftRange_141 : decode cX10_shiftRange 141 = .ok (.aload_n 0, 1) := by decide +kernel
theorem dX10_shiftRange_142 : decode cX10_shiftRange 142 = .ok (.getfield 7, 3) := by decide +kernel
theorem dX10_shiftRange_145 : decode cX10_shiftRange 145 = .ok (.iload_n 1, 1) := by decide +kernel
theorem dX10_shiftRange_146 : decode cX10_shiftRange 146 = .ok (.iaload, 1) := by decide +kernel
theorem dX10_shiftRange_147 : decode cX10_shiftRange 147 = .ok (.bipush 16, 2) := by decide +kernel
theorem dX10_shiftRange_149 : decode cX10_shiftRange 149 = .ok (.idiv, 1) := by decide +kernel
theorem dX10_shiftRange_150 : decode cX10_shiftRange 150 = .ok (.aload_n 0, 1) := by decide +kernel
theorem dX10_shiftRange_151 : decode cX10_shiftRange 151 = .ok (.getfield 7, 3) := by decide +kernel
theorem dX10_shiftRange_154 : decode cX10_shiftRange 154 = .ok (.iload_n 1, 1) := by decide +kernel
theorem dX10_shiftRange_155 : decode cX10_shiftRange 155 = .ok (.iconst 1, 1) := by decide +kernel
theorem dX10_shiftRange_156 : decode cX10_shiftRange 156 = .ok (.iadd, 1) := by decide +kernel
theorem dX10_shiftRange_157 : decode cX10_shiftRange 157 = .ok (.iaload, 1) := by decide +kernel
theorem dX10_shiftRange_158 : decode cX10_shiftRange 158 = .ok (.aload_n 0, 1) := by decide +kernel
theorem dX10_shiftRange_159 : decode cX10_shiftRange 159 = .ok (.getfield 7, 3) := by decide +kernel
theorem dX10_shiftRange_162 : decode cX10_shiftRange 162 = .ok (.iload_n 1, 1) := by decide +kernel
theorem dX10_shiftRange_163 : decode cX10_shiftRange 163 = .ok (.iconst 2, 1) := by decide +kernel
theorem dX10_shiftRange_164 : decode cX10_shiftRange 164 = .ok (.iadd, 1) := by decide +kernel
theorem dX10_shiftRange_165 : decode cX10_shiftRange 165 = .ok (.iaload, 1) := by decide +kernel
theorem dX10_shiftRange_166 : decode cX10_shiftRange 166 = .ok (.iload 8, 2) := by decide +kernel
theorem dX10_shiftRange_168 : decode cX10_shiftRange 168 = .ok (.aload_n 0, 1) := by decide +kernel
theorem dX10_shiftRange_169 : decode cX10_shiftRange 169 = .ok (.getfield 7, 3) := by decide +kernel
theorem dX10_shiftRange_172 : decode cX10_shiftRange 172 = .ok (.iload_n 1, 1) := by decide +kernel
theorem dX10_shiftRange_173 : decode cX10_shiftRange 173 = .ok (.iconst 4, 1) := by decide +kernel
theorem dX10_shiftRange_174 : decode cX10_shiftRange 174 = .ok (.iadd, 1) := by decide +kernel
theorem dX10_shiftRange_175 : decode cX10_shiftRange 175 = .ok (.iaload, 1) := by decide +kernel
theorem dX10_shiftRange_176 : decode cX10_shiftRange 176 = .ok (.iload 9, 2) := by decide +kernel
theorem dX10_shiftRange_178 : decode cX10_shiftRange 178 = .ok (.invokevirtual 64, 3) := by decide +kernel
theorem dX10_shiftRange_181 : decode cX10_shiftRange 181 = .ok (.goto 45, 3) := by decide +kernel
theorem dX10_shiftRange_184 : decode cX10_shiftRange 184 = .ok (.aload_n 0, 1) := by decide +kernel
theorem dX10_shiftRange_185 : decode cX10_shiftRange 185 = .ok (.iload_n 1, 1) := by decide +kernel
theorem dX10_shiftRange_186 : decode cX10_shiftRange 186 = .ok (.aload_n 0, 1) := by decide +kernel
theorem dX10_shiftRange_187 : decode cX10_shiftRange 187 = .ok (.getfield 7, 3) := by decide +kernel
theorem dX10_shiftRange_190 : decode cX10_shiftRange 190 = .ok (.iload_n 1, 1) := by decide +kernel
theorem dX10_shiftRange_191 : decode cX10_shiftRange 191 = .ok (.iaload, 1) := by decide +kernel
theorem dX10_shiftRange_192 : decode cX10_shiftRange 192 = .ok (.bipush 16, 2) := by decide +kernel
theorem dX10_shiftRange_194 : decode cX10_shiftRange 194 = .ok (.idiv, 1) := by decide +kernel
theorem dX10_shiftRange_195 : decode cX10_shiftRange 195 = .ok (.aload_n 0, 1) := by decide +kernel
theorem dX10_shiftRange_196 : decode cX10_shiftRange 196 = .ok (.getfield 7, 3) := by decide +kernel
theorem dX10_shiftRange_199 : decode cX10_shiftRange 199 = .ok (.iload_n 1, 1) := by decide +kernel
theorem dX10_shiftRange_200 : decode cX10_shiftRange 200 = .ok (.iconst 1, 1) := by decide +kernel
theorem dX10_shiftRange_201 : decode cX10_shiftRange 201 = .ok (.iadd, 1) := by decide +kernel
theorem dX10_shiftRange_202 : decode cX10_shiftRange 202 = .ok (.iaload, 1) := by decide +kernel
theorem dX10_shiftRange_203 : decode cX10_shiftRange 203 = .ok (.iload 8, 2) := by decide +kernel
theorem dX10_shiftRange_205 : decode cX10_shiftRange 205 = .ok (.aload_n 0, 1) := by decide +kernel
theorem dX10_shiftRange_206 : decode cX10_shiftRange 206 = .ok (.getfield 7, 3) := by decide +kernel
theorem dX10_shiftRange_209 : decode cX10_shiftRange 209 = .ok (.iload_n 1, 1) := by decide +kernel
theorem dX10_shiftRange_210 : decode cX10_shiftRange 210 = .ok (.iconst 3, 1) := by decide +kernel
theorem dX10_shiftRange_211 : decode cX10_shiftRange 211 = .ok (.iadd, 1) := by decide +kernel
theorem dX10_shiftRange_212 : decode cX10_shiftRange 212 = .ok (.iaload, 1) := by decide +kernel
theorem dX10_shiftRange_213 : decode cX10_shiftRange 213 = .ok (.iload 9, 2) := by decide +kernel
theorem dX10_shiftRange_215 : decode cX10_shiftRange 215 = .ok (.aload_n 0, 1) := by decide +kernel
theorem dX10_shiftRange_216 : decode cX10_shiftRange 216 = .ok (.getfield 7, 3) := by decide +kernel
theorem dX10_shiftRange_219 : decode cX10_shiftRange 219 = .ok (.iload_n 1, 1) := by decide +kernel
theorem dX10_shiftRange_220 : decode cX10_shiftRange 220 = .ok (.iconst 5, 1) := by decide +kernel
theorem dX10_shiftRange_221 : decode cX10_shiftRange 221 = .ok (.iadd, 1) := by decide +kernel
theorem dX10_shiftRange_222 : decode cX10_shiftRange 222 = .ok (.iaload, 1) := by decide +kernel
theorem dX10_shiftRange_223 : decode cX10_shiftRange 223 = .ok (.invokevirtual 64, 3) := by decide +kernel
theorem dX10_shiftRange_226 : decode cX10_shiftRange 226 = .ok (.return_, 1) := by decide +kernel
theorem dX10_shift_0 : decode cX10_shift 0 = .ok (.aload_n 0, 1) := by decide +kernel
theorem dX10_shift_1 : decode cX10_shift 1 = .ok (.invokevirtual 70, 3) := by decide +kernel
theorem dX10_shift_4 : decode cX10_shift 4 = .ok (.iconst 0, 1) := by decide +kernel
theorem dX10_shift_5 : decode cX10_shift 5 = .ok (.istore 6, 2) := by decide +kernel
theorem dX10_shift_7 : decode cX10_shift 7 = .ok (.iload 6, 2) := by decide +kernel
theorem dX10_shift_9 : decode cX10_shift 9 = .ok (.aload_n 0, 1) := by decide +kernel
theorem dX10_shift_10 : decode cX10_shift 10 = .ok (.getfield 32, 3) := by decide +kernel
theorem dX10_shift_13 : decode cX10_shift 13 = .ok (.if_icmp .ge 232, 3) := by decide +kernel
theorem dX10_shift_16 : decode cX10_shift 16 = .ok (.aload_n 0, 1) := by decide +kernel
theorem dX10_shift_17 : decode cX10_shift 17 = .ok (.iload 6, 2) := by decide +kernel
theorem dX10_shift_19 : decode cX10_shift 19 = .ok (.invokevirtual 73, 3) := by decide +kernel
theorem dX10_shift_22 : decode cX10_shift 22 = .ok (.istore 7, 2) := by decide +kernel
theorem dX10_shift_24 : decode cX10_shift 24 = .ok (.iload 7, 2) := by decide +kernel
theorem dX10_shift_26 : decode cX10_shift 26 = .ok (.iconst 1, 1) := by decide +kernel
theorem dX10_shift_27 : decode cX10_shift 27 = .ok (.if_icmp .le 36, 3) := by decide +kernel
theorem dX10_shift_30 : decode cX10_shift 30 = .ok (.aload_n 0, 1) := by decide +kernel
theorem dX10_shift_31 : decode cX10_shift 31 = .ok (.getfield 7, 3) := by decide +kernel
theorem dX10_shift_34 : decode cX10_shift 34 = .ok (.iload 6, 2) := by decide +kernel
theorem dX10_shift_36 : decode cX10_shift 36 = .ok (.iconst 1, 1) := by decide +kernel
theorem dX10_shift_37 : decode cX10_shift 37 = .ok (.iadd, 1) := by decide +kernel
theorem dX10_shift_38 : decode cX10_shift 38 = .ok (.iaload, 1) := by decide +kernel
theorem dX10_shift_39 : decode cX10_shift 39 = .ok (.ifCond .ge 7, 3) := by decide +kernel
theorem dX10_shift_42 : decode cX10_shift 42 = .ok (.iload_n 1, 1) := by decide +kernel
theorem dX10_shift_43 : decode cX10_shift 43 = .ok (.goto 12, 3) := by decide +kernel
theorem dX10_shift_46 : decode cX10_shift 46 = .ok (.aload_n 0, 1) := by decide +kernel
theorem dX10_shift_47 : decode cX10_shift 47 = .ok (.getfield 7, 3) := by decide +kernel
theorem dX10_shift_50 : decode cX10_shift 50 = .ok (.iload 6, 2) := by decide +kernel
theorem dX10_shift_52 : decode cX10_shift 52 = .ok (.iconst 1, 1) := by decide +kernel
theorem dX10_shift_53 : decode cX10_shift 53 = .ok (.iadd, 1) := by decide +kernel
theorem dX10_shift_54 : decode cX10_shift 54 = .ok (.iaload, 1) := by decide +kernel
theorem dX10_shift_55 : decode cX10_shift 55 = .ok (.iload_n 2, 1) := by decide +kernel
theorem dX10_shift_56 : decode cX10_shift 56 = .ok (.if_icmp .ne 7, 3) := by decide +kernel
theorem dX10_shift_59 : decode cX10_shift 59 = .ok (.iconst 1, 1) := by decide +kernel
theorem dX10_shift_60 : decode cX10_shift 60 = .ok (.goto 4, 3) := by decide +kernel
theorem dX10_shift_63 : decode cX10_shift 63 = .ok (.iconst 0, 1) := by decide +kernel
theorem dX10_shift_64 : decode cX10_shift 64 = .ok (.istore 8, 2) := by decide +kernel
theorem dX10_shift_66 : decode cX10_shift 66 = .ok (.iload 8, 2) := by decide +kernel
theorem dX10_shift_68 : decode cX10_shift 68 = .ok (.ifCond .ne 36, 3) := by decide +kernel
theorem dX10_shift_71 : decode cX10_shift 71 = .ok (.iconst 0, 1) := by decide +kernel
theorem dX10_shift_72 : decode cX10_shift 72 = .ok (.istore 9, 2) := by decide +kernel
theorem dX10_shift_74 : decode cX10_shift 74 = .ok (.iload 9, 2) := by decide +kernel
theorem dX10_shift_76 : decode cX10_shift 76 = .ok (.iload 7, 2) := by decide +kernel
theorem dX10_shift_78 : decode cX10_shift 78 = .ok (.if_icmp .ge 23, 3) := by decide +kernel
theorem dX10_shift_81 : decode cX10_shift 81 = .ok (.aload_n 0, 1) := by decide +kernel
theorem dX10_shift_82 : decode cX10_shift 82 = .ok (.aload_n 0, 1) := by decide +kernel
theorem dX10_shift_83 : decode cX10_shift 83 = .ok (.getfield 7, 3) := by decide +kernel
theorem dX10_shift_86 : decode cX10_shift 86 = .ok (.iload 6, 2) := by decide +kernel
theorem dX10_shift_88 : decode cX10_shift 88 = .ok (.iload 9, 2) := by decide +kernel
theorem dX10_shift_90 : decode cX10_shift 90 = .ok (.iadd, 1) := by decide +kernel
theorem dX10_shift_91 : decode cX10_shift 91 = .ok (.iaload, 1) := by decide +kernel
theorem dX10_shift_92 : decode cX10_shift 92 = .ok (.invokevirtual 51, 3) := by decide +kernel
theorem dX10_shift_95 : decode cX10_shift 95 = .ok (.iinc 9 1, 3) := by decide +kernel
theorem dX10_shift_98 : decode cX10_shift 98 = .ok (.goto (-24), 3) := by decide +kernel
theorem dX10_shift_101 : decode cX10_shift 101 = .ok (.goto 130, 3) := by decide +kernel
theorem dX10_shift_104 : decode cX10_shift 104 = .ok (.iload 7, 2) := by decide +kernel
theorem dX10_shift_106 : decode cX10_shift 106 = .ok (.bipush 6, 2) := by decide +kernel
theorem dX10_shift_108 : decode cX10_shift 108 = .ok (.if_icmp .ne 17, 3) := by decide +kernel
theorem dX10_shift_111 : decode cX10_shift 111 = .ok (.aload_n 0, 1) := by decide +kernel
theorem dX10_shift_112 : decode cX10_shift 112 = .ok (.iload 6, 2) := by decide +kernel
theorem dX10_shift_114 : decode cX10_shift 114 = .ok (.iload_n 3, 1) := by decide +kernel
theorem dX10_shift_115 : decode cX10_shift 115 = .ok (.iload 4, 2) := by decide +kernel
theorem dX10_shift_117 : decode cX10_shift 117 = .ok (.iload 5, 2) := by decide +kernel
theorem dX10_shift_119 : decode cX10_shift 119 = .ok (.invokevirtual 103, 3) := by decide +kernel
theorem dX10_shift_122 : decode cX10_shift 122 = .ok (.goto 109, 3) := by decide +kernel
theorem dX10_shift_125 : decode cX10_shift 125 = .ok (.iload_n 3, 1) := by decide +kernel
theorem dX10_shift_126 : decode cX10_shift 126 = .ok (.ifCond .eq 15, 3) := by decide +kernel
theorem dX10_shift_129 : decode cX10_shift 129 = .ok (.aload_n 0, 1) := by decide +kernel
theorem dX10_shift_130 : decode cX10_shift 130 = .ok (.getfield 7, 3) := by decide +kernel
theorem dX10_shift_133 : decode cX10_shift 133 = .ok (.iload 6, 2) := by decide +kernel
theorem dX10_shift_135 : decode cX10_shift 135 = .ok (.iconst 2, 1) := by decide +kernel
theorem dX10_shift_136 : decode cX10_shift 136 = .ok (.iadd, 1) := by decide +kernel
theorem dX10_shift_137 : decode cX10_shift 137 = .ok (.iaload, 1) := by decide +kernel
theorem dX10_shift_138 : decode cX10_shift 138 = .ok (.goto 20, 3) := by decide +kernel
theorem dX10_shift_141 : decode cX10_shift 141 = .ok (.aload_n 0, 1) := by decide +kernel
theorem dX10_shift_142 : decode cX10_shift 142 = .ok (.getfield 7, 3) := by decide +kernel
theorem dX10_shift_145 : decode cX10_shift 145 = .ok (.iload 6, 2) := by decide +kernel
theorem dX10_shift_147 : decode cX10_shift 147 = .ok (.iconst 2, 1) := by decide +kernel
theorem dX10_shift_148 : decode cX10_shift 148 = .ok (.iadd, 1) := by decide +kernel
theorem dX10_shift_149 : decode cX10_shift 149 = .ok (.iaload, 1) := by decide +kernel
theorem dX10_shift_150 : decode cX10_shift 150 = .ok (.iconst 0, 1) := by decide +kernel
theorem dX10_shift_151 : decode cX10_shift 151 = .ok (.iload 4, 2) := by decide +kernel
theorem dX10_shift_153 : decode cX10_shift 153 = .ok (.iload 5, 2) := by decide +kernel
theorem dX10_shift_155 : decode cX10_shift 155 = .ok (.invokestatic 93, 3) := by decide +kernel
theorem dX10_shift_158 : decode cX10_shift 158 = .ok (.istore 9, 2) := by decide +kernel
theorem dX10_shift_160 : decode cX10_shift 160 = .ok (.iload_n 3, 1) := by decide +kernel
theorem dX10_shift_161 : decode cX10_shift 161 = .ok (.ifCond .eq 23, 3) := by decide +kernel
theorem dX10_shift_164 : decode cX10_shift 164 = .ok (.aload_n 0, 1) := by decide +kernel
theorem dX10_shift_165 : decode cX10_shift 165 = .ok (.getfield 7, 3) := by decide +kernel
theorem dX10_shift_168 : decode cX10_shift 168 = .ok (.iload 6, 2) := by decide +kernel
theorem dX10_shift_170 : decode cX10_shift 170 = .ok (.iconst 3, 1) := by decide +kernel
theorem dX10_shift_171 : decode cX10_shift 171 = .ok (.iadd, 1) := by decide +kernel
theorem dX10_shift_172 : decode cX10_shift 172 = .ok (.iaload, 1) := by decide +kernel
theorem dX10_shift_173 : decode cX10_shift 173 = .ok (.iconst 1, 1) := by decide +kernel
theorem dX10_shift_174 : decode cX10_shift 174 = .ok (.iload 4, 2) := by decide +kernel
theorem dX10_shift_176 : decode cX10_shift 176 = .ok (.iload 5, 2) := by decide +kernel
theorem dX10_shift_178 : decode cX10_shift 178 = .ok (.invokestatic 93, 3) := by decide +kernel
theorem dX10_shift_181 : decode cX10_shift 181 = .ok (.goto 12, 3) := by decide +kernel
theorem dX10_shift_184 : decode cX10_shift 184 = .ok (.aload_n 0, 1) := by decide +kernel
theorem dX10_shift_185 : decode cX10_shift 185 = .ok (.getfield 7, 3) := by decide +kernel
theorem dX10_shift_188 : decode cX10_shift 188 = .ok (.iload 6, 2) := by decide +kernel
theorem dX10_shift_190 : decode cX10_shift 190 = .ok (.iconst 3, 1) := by decide +kernel
theorem dX10_shift_191 : decode cX10_shift 191 = .ok (.iadd, 1) := by decide +kernel
theorem dX10_shift_192 : decode cX10_shift 192 = .ok (.iaload, 1) := by decide +kernel
theorem dX10_shift_193 : decode cX10_shift 193 = .ok (.istore 10, 2) := by decide +kernel
theorem dX10_shift_195 : decode cX10_shift 195 = .ok (.iload 9, 2) := by decide +kernel
theorem dX10_shift_197 : decode cX10_shift 197 = .ok (.ifCond .eq 8, 3) := by decide +kernel
theorem dX10_shift_200 : decode cX10_shift 200 = .ok (.iload 10, 2) := by decide +kernel
theorem dX10_shift_202 : decode cX10_shift 202 = .ok (.ifCond .ne 10, 3) := by decide +kernel
theorem dX10_shift_205 : decode cX10_shift 205 = .ok (.aload_n 0, 1) := by decide +kernel
theorem dX10_shift_206 : decode cX10_shift 206 = .ok (.invokevirtual 61, 3) := by decide +kernel
theorem dX10_shift_209 : decode cX10_shift 209 = .ok (.goto 22, 3) := by decide +kernel
theorem dX10_shift_212 : decode cX10_shift 212 = .ok (.aload_n 0, 1) := by decide +kernel
theorem dX10_shift_213 : decode cX10_shift 213 = .ok (.iload 6, 2) := by decide +kernel
theorem dX10_shift_215 : decode cX10_shift 215 = .ok (.aload_n 0, 1) := by decide +kernel
theorem dX10_shift_216 : decode cX10_shift 216 = .ok (.getfield 7, 3) := by decide +kernel
theorem dX10_shift_219 : decode cX10_shift 219 = .ok (.iload 6, 2) := by decide +kernel
theorem dX10_shift_221 : decode cX10_shift 221 = .ok (.iconst 1, 1) := by decide +kernel
theorem dX10_shift_222 : decode cX10_shift 222 = .ok (.iadd, 1) := by decide +kernel
theorem dX10_shift_223 : decode cX10_shift 223 = .ok (.iaload, 1) := by decide +kernel
theorem dX10_shift_224 : decode cX10_shift 224 = .ok (.iload 9, 2) := by decide +kernel
theorem dX10_shift_226 : decode cX10_shift 226 = .ok (.iload 10, 2) := by decide +kernel
theorem dX10_shift_228 : decode cX10_shift 228 = .ok (.invokevirtual 81, 3) := by decide +kernel
theorem dX10_shift_231 : decode cX10_shift 231 = .ok (.iload 6, 2) := by decide +kernel
theorem dX10_shift_233 : decode cX10_shift 233 = .ok (.aload_n 0, 1) := by decide +kernel
theorem dX10_shift_234 : decode cX10_shift 234 = .ok (.iload 6, 2) := by decide +kernel
theorem dX10_shift_236 : decode cX10_shift 236 = .ok (.invokevirtual 73, 3) := by decide +kernel
theorem dX10_shift_239 : decode cX10_shift 239 = .ok (.iadd, 1) := by decide +kernel
theorem dX10_shift_240 : decode cX10_shift 240 = .ok (.istore 6, 2) := by decide +kernel
theorem dX10_shift_242 : decode cX10_shift 242 = .ok (.goto (-235), 3) := by decide +kernel
theorem dX10_shift_245 : decode cX10_shift 245 = .ok (.aload_n 0, 1) := by decide +kernel
theorem dX10_shift_246 : decode cX10_shift 246 = .ok (.invokevirtual 85, 3) := by decide +kernel
theorem dX10_shift_249 : decode cX10_shift 249 = .ok (.ireturn, 1) := by decide +kernel
theorem dX10_isLine_0 : decode cX10_isLine 0 = .ok (.iload_n 0, 1) := by decide +kernel
theorem dX10_isLine_1 : decode cX10_isLine 1 = .ok (.iconst 0, 1) := by decide +kernel
theorem dX10_isLine_2 : decode cX10_isLine 2 = .ok (.bipush 7, 2) := by decide +kernel
theorem dX10_isLine_4 : decode cX10_isLine 4 = .ok (.invokestatic 40, 3) := by decide +kernel
theorem dX10_isLine_7 : decode cX10_isLine 7 = .ok (.ifCond .eq 41, 3) := by decide +kernel
theorem dX10_isLine_10 : decode cX10_isLine 10 = .ok (.iload_n 1, 1) := by decide +kernel
theorem dX10_isLine_11 : decode cX10_isLine 11 = .ok (.iconst 0, 1) := by decide +kernel
theorem dX10_isLine_12 : decode cX10_isLine 12 = .ok (.bipush 7, 2) := by decide +kernel
theorem dX10_isLine_14 : decode cX10_isLine 14 = .ok (.invokestatic 40, 3) := by decide +kernel
theorem dX10_isLine_17 : decode cX10_isLine 17 = .ok (.ifCond .eq 31, 3) := by decide +kernel
theorem dX10_isLine_20 : decode cX10_isLine 20 = .ok (.iload_n 3, 1) := by decide +kernel
theorem dX10_isLine_21 : decode cX10_isLine 21 = .ok (.iconst 1, 1) := by decide +kernel
theorem dX10_isLine_22 : decode cX10_isLine 22 = .ok (.iload_n 2, 1) := by decide +kernel
theorem dX10_isLine_23 : decode cX10_isLine 23 = .ok (.invokestatic 89, 3) := by decide +kernel
theorem dX10_isLine_26 : decode cX10_isLine 26 = .ok (.invokestatic 40, 3) := by decide +kernel
theorem dX10_isLine_29 : decode cX10_isLine 29 = .ok (.ifCond .eq 19, 3) := by decide +kernel
theorem dX10_isLine_32 : decode cX10_isLine 32 = .ok (.iload 4, 2) := by decide +kernel
theorem dX10_isLine_34 : decode cX10_isLine 34 = .ok (.iconst 1, 1) := by decide +kernel
theorem dX10_isLine_35 : decode cX10_isLine 35 = .ok (.sipush 16384, 3) := by decide +kernel
theorem dX10_isLine_38 : decode cX10_isLine 38 = .ok (.invokestatic 40, 3) := by decide +kernel
theorem dX10_isLine_41 : decode cX10_isLine 41 = .ok (.ifCond .eq 7, 3) := by decide +kernel
theorem dX10_isLine_44 : decode cX10_isLine 44 = .ok (.iconst 1, 1) := by decide +kernel
theorem dX10_isLine_45 : decode cX10_isLine 45 = .ok (.goto 4, 3) := by decide +kernel
theorem dX10_isLine_48 : decode cX10_isLine 48 = .ok (.iconst 0, 1) := by decide +kernel
theorem dX10_isLine_49 : decode cX10_isLine 49 = .ok (.ireturn, 1) := by decide +kernel
theorem dX10_insert_0 : decode cX10_insert 0 = .ok (.aload_n 0, 1) := by decide +kernel
theorem dX10_insert_1 : decode cX10_insert 1 = .ok (.iload_n 1, 1) := by decide +kernel
theorem dX10_insert_2 : decode cX10_insert 2 = .ok (.iload_n 2, 1) := by decide +kernel
theorem dX10_insert_3 : decode cX10_insert 3 = .ok (.iload_n 3, 1) := by decide +kernel
theorem dX10_insert_4 : decode cX10_insert 4 = .ok (.iload 4, 2) := by decide +kernel
theorem dX10_insert_6 : decode cX10_insert 6 = .ok (.iload 5, 2) := by decide +kernel
theorem dX10_insert_8 : decode cX10_insert 8 = .ok (.invokestatic 107, 3) := by decide +kernel
theorem dX10_insert_11 : decode cX10_insert 11 = .ok (.ifCond .eq 7, 3) := by decide +kernel
theorem dX10_insert_14 : decode cX10_insert 14 = .ok (.iconst 0, 1) := by decide +kernel
theorem dX10_insert_15 : decode cX10_insert 15 = .ok (.goto 4, 3) := by decide +kernel
theorem dX10_insert_18 : decode cX10_insert 18 = .ok (.iconst 1, 1) := by decide +kernel
theorem dX10_insert_19 : decode cX10_insert 19 = .ok (.putfield 29, 3) := by decide +kernel
theorem dX10_insert_22 : decode cX10_insert 22 = .ok (.aload_n 0, 1) := by decide +kernel
theorem dX10_insert_23 : decode cX10_insert 23 = .ok (.getfield 29, 3) := by decide +kernel
theorem dX10_insert_26 : decode cX10_insert 26 = .ok (.ifCond .ne 17, 3) := by decide +kernel
theorem dX10_insert_29 : decode cX10_insert 29 = .ok (.aload_n 0, 1) := by decide +kernel
theorem dX10_insert_30 : decode cX10_insert 30 = .ok (.iload_n 1, 1) := by decide +kernel
theorem dX10_insert_31 : decode cX10_insert 31 = .ok (.iload_n 2, 1) := by decide +kernel
theorem dX10_insert_32 : decode cX10_insert 32 = .ok (.iload_n 3, 1) := by decide +kernel
theorem dX10_insert_33 : decode cX10_insert 33 = .ok (.iload 4, 2) := by decide +kernel
theorem dX10_insert_35 : decode cX10_insert 35 = .ok (.iload 5, 2) := by decide +kernel
theorem dX10_insert_37 : decode cX10_insert 37 = .ok (.invokevirtual 111, 3) := by decide +kernel
theorem dX10_insert_40 : decode cX10_insert 40 = .ok (.goto 4, 3) := by decide +kernel
theorem dX10_insert_43 : decode cX10_insert 43 = .ok (.iconst 0, 1) := by decide +kernel
theorem dX10_insert_44 : decode cX10_insert 44 = .ok (.ireturn, 1) := by decide +kernel
theorem dX10_delete_0 : decode cX10_delete 0 = .ok (.aload_n 0, 1) := by decide +kernel
theorem dX10_delete_1 : decode cX10_delete 1 = .ok (.iload_n 1, 1) := by decide +kernel
theorem dX10_delete_2 : decode cX10_delete 2 = .ok (.iload_n 2, 1) := by decide +kernel
theorem dX10_delete_3 : decode cX10_delete 3 = .ok (.iload_n 3, 1) := by decide +kernel
theorem dX10_delete_4 : decode cX10_delete 4 = .ok (.iload 4, 2) := by decide +kernel
theorem dX10_delete_6 : decode cX10_delete 6 = .ok (.iload 5, 2) := by decide +kernel
theorem dX10_delete_8 : decode cX10_delete 8 = .ok (.invokestatic 107, 3) := by decide +kernel
theorem dX10_delete_11 : decode cX10_delete 11 = .ok (.ifCond .eq 7, 3) := by decide +kernel
theorem dX10_delete_14 : decode cX10_delete 14 = .ok (.iconst 0, 1) := by decide +kernel
theorem dX10_delete_15 : decode cX10_delete 15 = .ok (.goto 4, 3) := by decide +kernel
theorem dX10_delete_18 : decode cX10_delete 18 = .ok (.iconst 1, 1) := by decide +kernel
theorem dX10_delete_19 : decode cX10_delete 19 = .ok (.putfield 29, 3) := by decide +kernel
theorem dX10_delete_22 : decode cX10_delete 22 = .ok (.aload_n 0, 1) := by decide +kernel
theorem dX10_delete_23 : decode cX10_delete 23 = .ok (.getfield 29, 3) := by decide +kernel
theorem dX10_delete_26 : decode cX10_delete 26 = .ok (.ifCond .ne 18, 3) := by decide +kernel
theorem dX10_delete_29 : decode cX10_delete 29 = .ok (.aload_n 0, 1) := by decide +kernel
theorem dX10_delete_30 : decode cX10_delete 30 = .ok (.iload_n 1, 1) := by decide +kernel
theorem dX10_delete_31 : decode cX10_delete 31 = .ok (.iload_n 2, 1) := by decide +kernel
theorem dX10_delete_32 : decode cX10_delete 32 = .ok (.iload_n 3, 1) := by decide +kernel
theorem dX10_delete_33 : decode cX10_delete 33 = .ok (.iload 4, 2) := by decide +kernel
theorem dX10_delete_35 : decode cX10_delete 35 = .ok (.iload 5, 2) := by decide +kernel
theorem dX10_delete_37 : decode cX10_delete 37 = .ok (.ineg, 1) := by decide +kernel
theorem dX10_delete_38 : decode cX10_delete 38 = .ok (.invokevirtual 111, 3) := by decide +kernel
theorem dX10_delete_41 : decode cX10_delete 41 = .ok (.goto 4, 3) := by decide +kernel
theorem dX10_delete_44 : decode cX10_delete 44 = .ok (.iconst 0, 1) := by decide +kernel
theorem dX10_delete_45 : decode cX10_delete 45 = .ok (.ireturn, 1) := by decide +kernel
theorem dX10_rectangle_0 : decode cX10_rectangle 0 = .ok (.aload_n 0, 1) := by decide +kernel
theorem dX10_rectangle_1 : decode cX10_rectangle 1 = .ok (.iconst 0, 1) := by decide +kernel
theorem dX10_rectangle_2 : decode cX10_rectangle 2 = .ok (.putfield 29, 3) := by decide +kernel
theorem dX10_rectangle_5 : decode cX10_rectangle 5 = .ok (.iload_n 1, 1) := by decide +kernel
theorem dX10_rectangle_6 : decode cX10_rectangle 6 = .ok (.iconst 0, 1) := by decide +kernel
theorem dX10_rectangle_7 : decode cX10_rectangle 7 = .ok (.bipush 7, 2) := by decide +kernel
theorem dX10_rectangle_9 : decode cX10_rectangle 9 = .ok (.invokestatic 40, 3) := by decide +kernel
theorem dX10_rectangle_12 : decode cX10_rectangle 12 = .ok (.ifCond .eq 33, 3) := by decide +kernel
theorem dX10_rectangle_15 : decode cX10_rectangle 15 = .ok (.iload_n 2, 1) := by decide +kernel
theorem dX10_rectangle_16 : decode cX10_rectangle 16 = .ok (.iload_n 3, 1) := by decide +kernel
theorem dX10_rectangle_17 : decode cX10_rectangle 17 = .ok (.invokestatic 44, 3) := by decide +kernel
theorem dX10_rectangle_20 : decode cX10_rectangle 20 = .ok (.ifCond .eq 25, 3) := by decide +kernel
theorem dX10_rectangle_23 : decode cX10_rectangle 23 = .ok (.iload 4, 2) := by decide +kernel
theorem dX10_rectangle_25 : decode cX10_rectangle 25 = .ok (.iload 5, 2) := by decide +kernel
theorem dX10_rectangle_27 : decode cX10_rectangle 27 = .ok (.invokestatic 44, 3) := by decide +kernel
theorem dX10_rectangle_30 : decode cX10_rectangle 30 = .ok (.ifCond .eq 15, 3) := by decide +kernel
theorem dX10_rectangle_33 : decode cX10_rectangle 33 = .ok (.iload 4, 2) := by decide +kernel
theorem dX10_rectangle_35 : decode cX10_rectangle 35 = .ok (.iload_n 2, 1) := by decide +kernel
theorem dX10_rectangle_36 : decode cX10_rectangle 36 = .ok (.if_icmp .lt 9, 3) := by decide +kernel
theorem dX10_rectangle_39 : decode cX10_rectangle 39 = .ok (.iload 5, 2) := by decide +kernel
theorem dX10_rectangle_41 : decode cX10_rectangle 41 = .ok (.iload_n 3, 1) := by decide +kernel
theorem dX10_rectangle_42 : decode cX10_rectangle 42 = .ok (.if_icmp .ge 5, 3) := by decide +kernel
theorem dX10_rectangle_45 : decode cX10_rectangle 45 = .ok (.iconst 0, 1) := by decide +kernel
theorem dX10_rectangle_46 : decode cX10_rectangle 46 = .ok (.ireturn, 1) := by decide +kernel
theorem dX10_rectangle_47 : decode cX10_rectangle 47 = .ok (.aload_n 0, 1) := by decide +kernel
theorem dX10_rectangle_48 : decode cX10_rectangle 48 = .ok (.iload_n 1, 1) := by decide +kernel
theorem dX10_rectangle_49 : decode cX10_rectangle 49 = .ok (.putfield 114, 3) := by decide +kernel
theorem dX10_rectangle_52 : decode cX10_rectangle 52 = .ok (.aload_n 0, 1) := by decide +kernel
theorem dX10_rectangle_53 : decode cX10_rectangle 53 = .ok (.iload_n 2, 1) := by decide +kernel
theorem dX10_rectangle_54 : decode cX10_rectangle 54 = .ok (.putfield 16, 3) := by decide +kernel
theorem dX10_rectangle_57 : decode cX10_rectangle 57 = .ok (.aload_n 0, 1) := by decide +kernel
theorem dX10_rectangle_58 : decode cX10_rectangle 58 = .ok (.iload_n 3, 1) := by decide +kernel
theorem dX10_rectangle_59 : decode cX10_rectangle 59 = .ok (.putfield 20, 3) := by decide +kernel
theorem dX10_rectangle_62 : decode cX10_rectangle 62 = .ok (.aload_n 0, 1) := by decide +kernel
theorem dX10_rectangle_63 : decode cX10_rectangle 63 = .ok (.iload 4, 2) := by decide +kernel
theorem dX10_rectangle_65 : decode cX10_rectangle 65 = .ok (.putfield 23, 3) := by decide +kernel
theorem dX10_rectangle_68 : decode cX10_rectangle 68 = .ok (.aload_n 0, 1) := by decide +kernel
theorem dX10_rectangle_69 : decode cX10_rectangle 69 = .ok (.iload 5, 2) := by decide +kernel
theorem dX10_rectangle_71 : decode cX10_rectangle 71 = .ok (.putfield 26, 3) := by decide +kernel
theorem dX10_rectangle_74 : decode cX10_rectangle 74 = .ok (.iconst 1, 1) := by decide +kernel
theorem dX10_rectangle_75 : decode cX10_rectangle 75 = .ok (.ireturn, 1) := by decide +kernel
theorem dX10_moveItem_0 : decode cX10_moveItem 0 = .ok (.aload_n 0, 1) := by decide +kernel
theorem dX10_moveItem_1 : decode cX10_moveItem 1 = .ok (.iload_n 1, 1) := by decide +kernel
theorem dX10_moveItem_2 : decode cX10_moveItem 2 = .ok (.invokevirtual 73, 3) := by decide +kernel
theorem dX10_moveItem_5 : decode cX10_moveItem 5 = .ok (.iconst 4, 1) := by decide +kernel
theorem dX10_moveItem_6 : decode cX10_moveItem 6 = .ok (.if_icmp .ne 7, 3) := by decide +kernel
theorem dX10_moveItem_9 : decode cX10_moveItem 9 = .ok (.iconst 1, 1) := by decide +kernel
theorem dX10_moveItem_10 : decode cX10_moveItem 10 = .ok (.goto 4, 3) := by decide +kernel
theorem dX10_moveItem_13 : decode cX10_moveItem 13 = .ok (.iconst 0, 1) := by decide +kernel
theorem dX10_moveItem_14 : decode cX10_moveItem 14 = .ok (.istore 7, 2) := by decide +kernel
theorem dX10_moveItem_16 : decode cX10_moveItem 16 = .ok (.aload_n 0, 1) := by decide +kernel
theorem dX10_moveItem_17 : decode cX10_moveItem 17 = .ok (.getfield 7, 3) := by decide +kernel
theorem dX10_moveItem_20 : decode cX10_moveItem 20 = .ok (.iload_n 1, 1) := by decide +kernel
theorem dX10_moveItem_21 : decode cX10_moveItem 21 = .ok (.iconst 1, 1) := by decide +kernel
theorem dX10_moveItem_22 : decode cX10_moveItem 22 = .ok (.iadd, 1) := by decide +kernel
theorem dX10_moveItem_23 : decode cX10_moveItem 23 = .ok (.iaload, 1) := by decide +kernel
theorem dX10_moveItem_24 : decode cX10_moveItem 24 = .ok (.ifCond .ge 7, 3) := by decide +kernel
theorem dX10_moveItem_27 : decode cX10_moveItem 27 = .ok (.iload_n 2, 1) := by decide +kernel
theorem dX10_moveItem_28 : decode cX10_moveItem 28 = .ok (.goto 11, 3) := by decide +kernel
theorem dX10_moveItem_31 : decode cX10_moveItem 31 = .ok (.aload_n 0, 1) := by decide +kernel
theorem dX10_moveItem_32 : decode cX10_moveItem 32 = .ok (.getfield 7, 3) := by decide +kernel
theorem dX10_moveItem_35 : decode cX10_moveItem 35 = .ok (.iload_n 1, 1) := by decide +kernel
theorem dX10_moveItem_36 : decode cX10_moveItem 36 = .ok (.iconst 1, 1) := by decide +kernel
theorem dX10_moveItem_37 : decode cX10_moveItem 37 = .ok (.iadd, 1) := by decide +kernel
theorem dX10_moveItem_38 : decode cX10_moveItem 38 = .ok (.iaload, 1) := by decide +kernel
theorem dX10_moveItem_39 : decode cX10_moveItem 39 = .ok (.istore 8, 2) := by decide +kernel
theorem dX10_moveItem_41 : decode cX10_moveItem 41 = .ok (.aload_n 0, 1) := by decide +kernel
theorem dX10_moveItem_42 : decode cX10_moveItem 42 = .ok (.getfield 7, 3) := by decide +kernel
theorem dX10_moveItem_45 : decode cX10_moveItem 45 = .ok (.iload_n 1, 1) := by decide +kernel
theorem dX10_moveItem_46 : decode cX10_moveItem 46 = .ok (.iconst 2, 1) := by decide +kernel
theorem dX10_moveItem_47 : decode cX10_moveItem 47 = .ok (.iadd, 1) := by decide +kernel
theorem dX10_moveItem_48 : decode cX10_moveItem 48 = .ok (.iaload, 1) := by decide +kernel
theorem dX10_moveItem_49 : decode cX10_moveItem 49 = .ok (.istore 9, 2) := by decide +kernel
theorem dX10_moveItem_51 : decode cX10_moveItem 51 = .ok (.aload_n 0, 1) := by decide +kernel
theorem dX10_moveItem_52 : decode cX10_moveItem 52 = .ok (.getfield 7, 3) := by decide +kernel
theorem dX10_moveItem_55 : decode cX10_moveItem 55 = .ok (.iload_n 1, 1) := by decide +kernel
theorem dX10_moveItem_56 : decode cX10_moveItem 56 = .ok (.iconst 3, 1) := by decide +kernel
theorem dX10_moveItem_57 : decode cX10_moveItem 57 = .ok (.iadd, 1) := by decide +kernel
theorem dX10_moveItem_58 : decode cX10_moveItem 58 = .ok (.iaload, 1) := by decide +kernel
theorem dX10_moveItem_59 : decode cX10_moveItem 59 = .ok (.istore 10, 2) := by decide +kernel
theorem dX10_moveItem_61 : decode cX10_moveItem 61 = .ok (.iload 7, 2) := by decide +kernel
theorem dX10_moveItem_63 : decode cX10_moveItem 63 = .ok (.ifCond .eq 8, 3) := by decide +kernel
theorem dX10_moveItem_66 : decode cX10_moveItem 66 = .ok (.iload 9, 2) := by decide +kernel
theorem dX10_moveItem_68 : decode cX10_moveItem 68 = .ok (.goto 11, 3) := by decide +kernel
theorem dX10_moveItem_71 : decode cX10_moveItem 71 = .ok (.aload_n 0, 1) := by decide +kernel
theorem dX10_moveItem_72 : decode cX10_moveItem 72 = .ok (.getfield 7, 3) := by decide +kernel
theorem dX10_moveItem_75 : decode cX10_moveItem 75 = .ok (.iload_n 1, 1) := by decide +kernel
theorem dX10_moveItem_76 : decode cX10_moveItem 76 = .ok (.iconst 4, 1) := by decide +kernel
theorem dX10_moveItem_77 : decode cX10_moveItem 77 = .ok (.iadd, 1) := by decide +kernel
theorem dX10_moveItem_78 : decode cX10_moveItem 78 = .ok (.iaload, 1) := by decide +kernel
theorem dX10_moveItem_79 : decode cX10_moveItem 79 = .ok (.istore 11, 2) := by decide +kernel
theorem dX10_moveItem_81 : decode cX10_moveItem 81 = .ok (.iload 7, 2) := by decide +kernel
theorem dX10_moveItem_83 : decode cX10_moveItem 83 = .ok (.ifCond .eq 8, 3) := by decide +kernel
theorem dX10_moveItem_86 : decode cX10_moveItem 86 = .ok (.iload 10, 2) := by decide +kernel
theorem dX10_moveItem_88 : decode cX10_moveItem 88 = .ok (.goto 11, 3) := by decide +kernel
theorem dX10_moveItem_91 : decode cX10_moveItem 91 = .ok (.aload_n 0, 1) := by decide +kernel
theorem dX10_moveItem_92 : decode cX10_moveItem 92 = .ok (.getfield 7, 3) := by decide +kernel
theorem dX10_moveItem_95 : decode cX10_moveItem 95 = .ok (.iload_n 1, 1) := by decide +kernel
theorem dX10_moveItem_96 : decode cX10_moveItem 96 = .ok (.iconst 5, 1) := by decide +kernel
theorem dX10_moveItem_97 : decode cX10_moveItem 97 = .ok (.iadd, 1) := by decide +kernel
theorem dX10_moveItem_98 : decode cX10_moveItem 98 = .ok (.iaload, 1) := by decide +kernel
theorem dX10_moveItem_99 : decode cX10_moveItem 99 = .ok (.istore 12, 2) := by decide +kernel
theorem dX10_moveItem_101 : decode cX10_moveItem 101 = .ok (.iload 5, 2) := by decide +kernel
theorem dX10_moveItem_103 : decode cX10_moveItem 103 = .ok (.aload_n 0, 1) := by decide +kernel
theorem dX10_moveItem_104 : decode cX10_moveItem 104 = .ok (.getfield 16, 3) := by decide +kernel
theorem dX10_moveItem_107 : decode cX10_moveItem 107 = .ok (.isub, 1) := by decide +kernel
theorem dX10_moveItem_108 : decode cX10_moveItem 108 = .ok (.istore 13, 2) := by decide +kernel
theorem dX10_moveItem_110 : decode cX10_moveItem 110 = .ok (.iload 6, 2) := by decide +kernel
theorem dX10_moveItem_112 : decode cX10_moveItem 112 = .ok (.aload_n 0, 1) := by decide +kernel
theorem dX10_moveItem_113 : decode cX10_moveItem 113 = .ok (.getfield 20, 3) := by decide +kernel
theorem dX10_moveItem_116 : decode cX10_moveItem 116 = .ok (.isub, 1) := by decide +kernel
theorem dX10_moveItem_117 : decode cX10_moveItem 117 = .ok (.istore 14, 2) := by decide +kernel
theorem dX10_moveItem_119 : decode cX10_moveItem 119 = .ok (.iload 8, 2) := by decide +kernel
theorem dX10_moveItem_121 : decode cX10_moveItem 121 = .ok (.aload_n 0, 1) := by decide +kernel
theorem dX10_moveItem_122 : decode cX10_moveItem 122 = .ok (.getfield 114, 3) := by decide +kernel
theorem dX10_moveItem_125 : decode cX10_moveItem 125 = .ok (.if_icmp .ne 43, 3) := by decide +kernel
theorem dX10_moveItem_128 : decode cX10_moveItem 128 = .ok (.iload 9, 2) := by decide +kernel
theorem dX10_moveItem_130 : decode cX10_moveItem 130 = .ok (.aload_n 0, 1) := by decide +kernel
theorem dX10_moveItem_131 : decode cX10_moveItem 131 = .ok (.getfield 16, 3) := by decide +kernel
theorem dX10_moveItem_134 : decode cX10_moveItem 134 = .ok (.if_icmp .lt 34, 3) := by decide +kernel
theorem dX10_moveItem_137 : decode cX10_moveItem 137 = .ok (.iload 11, 2) := by decide +kernel
theorem dX10_moveItem_139 : decode cX10_moveItem 139 = .ok (.aload_n 0, 1) := by decide +kernel
theorem dX10_moveItem_140 : decode cX10_moveItem 140 = .ok (.getfield 23, 3) := by decide +kernel
theorem dX10_moveItem_143 : decode cX10_moveItem 143 = .ok (.if_icmp .gt 25, 3) := by decide +kernel
theorem dX10_moveItem_146 : decode cX10_moveItem 146 = .ok (.iload 10, 2) := by decide +kernel
theorem dX10_moveItem_148 : decode cX10_moveItem 148 = .ok (.aload_n 0, 1) := by decide +kernel
theorem dX10_moveItem_149 : decode cX10_moveItem 149 = .ok (.getfield 20, 3) := by decide +kernel
theorem dX10_moveItem_152 : decode cX10_moveItem 152 = .ok (.if_icmp .lt 16, 3) := by decide +kernel
theorem dX10_moveItem_155 : decode cX10_moveItem 155 = .ok (.iload 12, 2) := by decide +kernel
theorem dX10_moveItem_157 : decode cX10_moveItem 157 = .ok (.aload_n 0, 1) := by decide +kernel
theorem dX10_moveItem_158 : decode cX10_moveItem 158 = .ok (.getfield 26, 3) := by decide +kernel
theorem dX10_moveItem_161 : decode cX10_moveItem 161 = .ok (.if_icmp .gt 7, 3) := by decide +kernel
theorem dX10_moveItem_164 : decode cX10_moveItem 164 = .ok (.iconst 1, 1) := by decide +kernel
theorem dX10_moveItem_165 : decode cX10_moveItem 165 = .ok (.goto 4, 3) := by decide +kernel
theorem dX10_moveItem_168 : decode cX10_moveItem 168 = .ok (.iconst 0, 1) := by decide +kernel
theorem dX10_moveItem_169 : decode cX10_moveItem 169 = .ok (.istore 15, 2) := by decide +kernel
theorem dX10_moveItem_171 : decode cX10_moveItem 171 = .ok (.iload 8, 2) := by decide +kernel
theorem dX10_moveItem_173 : decode cX10_moveItem 173 = .ok (.iload 4, 2) := by decide +kernel
theorem dX10_moveItem_175 : decode cX10_moveItem 175 = .ok (.if_icmp .ne 45, 3) := by decide +kernel
theorem dX10_moveItem_178 : decode cX10_moveItem 178 = .ok (.iload 9, 2) := by decide +kernel
theorem dX10_moveItem_180 : decode cX10_moveItem 180 = .ok (.iload 5, 2) := by decide +kernel
theorem dX10_moveItem_182 : decode cX10_moveItem 182 = .ok (.if_icmp .lt 38, 3) := by decide +kernel
theorem dX10_moveItem_185 : decode cX10_moveItem 185 = .ok (.iload 11, 2) := by decide +kernel
theorem dX10_moveItem_187 : decode cX10_moveItem 187 = .ok (.aload_n 0, 1) := by decide +kernel
theorem dX10_moveItem_188 : decode cX10_moveItem 188 = .ok (.getfield 23, 3) := by decide +kernel
theorem dX10_moveItem_191 : decode cX10_moveItem 191 = .ok (.iload 13, 2) := by decide +kernel
theorem dX10_moveItem_193 : decode cX10_moveItem 193 = .ok (.iadd, 1) := by decide +kernel
theorem dX10_moveItem_194 : decode cX10_moveItem 194 = .ok (.if_icmp .gt 26, 3) := by decide +kernel
theorem dX10_moveItem_197 : decode cX10_moveItem 197 = .ok (.iload 10, 2) := by decide +kernel
theorem dX10_moveItem_199 : decode cX10_moveItem 199 = .ok (.iload 6, 2) := by decide +kernel
theorem dX10_moveItem_201 : decode cX10_moveItem 201 = .ok (.if_icmp .lt 19, 3) := by decide +kernel
theorem dX10_moveItem_204 : decode cX10_moveItem 204 = .ok (.iload 12, 2) := by decide +kernel
theorem dX10_moveItem_206 : decode cX10_moveItem 206 = .ok (.aload_n 0, 1) := by decide +kernel
theorem dX10_moveItem_207 : decode cX10_moveItem 207 = .ok (.getfield 26, 3) := by decide +kernel
theorem dX10_moveItem_210 : decode cX10_moveItem 210 = .ok (.iload 14, 2) := by decide +kernel
theorem dX10_moveItem_212 : decode cX10_moveItem 212 = .ok (.iadd, 1) := by decide +kernel
theorem dX10_moveItem_213 : decode cX10_moveItem 213 = .ok (.if_icmp .gt 7, 3) := by decide +kernel
theorem dX10_moveItem_216 : decode cX10_moveItem 216 = .ok (.iconst 1, 1) := by decide +kernel
theorem dX10_moveItem_217 : decode cX10_moveItem 217 = .ok (.goto 4, 3) := by decide +kernel
theorem dX10_moveItem_220 : decode cX10_moveItem 220 = .ok (.iconst 0, 1) := by decide +kernel
theorem dX10_moveItem_221 : decode cX10_moveItem 221 = .ok (.istore 16, 2) := by decide +kernel
theorem dX10_moveItem_223 : decode cX10_moveItem 223 = .ok (.iload 15, 2) := by decide +kernel
theorem dX10_moveItem_225 : decode cX10_moveItem 225 = .ok (.ifCond .ne 13, 3) := by decide +kernel
theorem dX10_moveItem_228 : decode cX10_moveItem 228 = .ok (.iload 16, 2) := by decide +kernel
theorem dX10_moveItem_230 : decode cX10_moveItem 230 = .ok (.ifCond .eq 8, 3) := by decide +kernel
theorem dX10_moveItem_233 : decode cX10_moveItem 233 = .ok (.aload_n 0, 1) := by decide +kernel
theorem dX10_moveItem_234 : decode cX10_moveItem 234 = .ok (.invokevirtual 61, 3) := by decide +kernel
theorem dX10_moveItem_237 : decode cX10_moveItem 237 = .ok (.return_, 1) := by decide +kernel
theorem dX10_moveItem_238 : decode cX10_moveItem 238 = .ok (.iload 15, 2) := by decide +kernel
theorem dX10_moveItem_240 : decode cX10_moveItem 240 = .ok (.ifCond .eq 8, 3) := by decide +kernel
theorem dX10_moveItem_243 : decode cX10_moveItem 243 = .ok (.iload 4, 2) := by decide +kernel
theorem dX10_moveItem_245 : decode cX10_moveItem 245 = .ok (.goto 5, 3) := by decide +kernel
theorem dX10_moveItem_248 : decode cX10_moveItem 248 = .ok (.iload 8, 2) := by decide +kernel
theorem dX10_moveItem_250 : decode cX10_moveItem 250 = .ok (.istore 17, 2) := by decide +kernel
theorem dX10_moveItem_252 : decode cX10_moveItem 252 = .ok (.aload_n 0, 1) := by decide +kernel
theorem dX10_moveItem_253 : decode cX10_moveItem 253 = .ok (.getfield 7, 3) := by decide +kernel
theorem dX10_moveItem_256 : decode cX10_moveItem 256 = .ok (.iload_n 1, 1) := by decide +kernel
theorem dX10_moveItem_257 : decode cX10_moveItem 257 = .ok (.iconst 1, 1) := by decide +kernel
theorem dX10_moveItem_258 : decode cX10_moveItem 258 = .ok (.iadd, 1) := by decide +kernel
theorem dX10_moveItem_259 : decode cX10_moveItem 259 = .ok (.iaload, 1) := by decide +kernel
theorem dX10_moveItem_260 : decode cX10_moveItem 260 = .ok (.ifCond .ge 13, 3) := by decide +kernel
theorem dX10_moveItem_263 : decode cX10_moveItem 263 = .ok (.iload 17, 2) := by decide +kernel
theorem dX10_moveItem_265 : decode cX10_moveItem 265 = .ok (.iload_n 3, 1) := by decide +kernel
theorem dX10_moveItem_266 : decode cX10_moveItem 266 = .ok (.if_icmp .ne 7, 3) := by decide +kernel
theorem dX10_moveItem_269 : decode cX10_moveItem 269 = .ok (.iconst (-1), 1) := by decide +kernel
theorem dX10_moveItem_270 : decode cX10_moveItem 270 = .ok (.goto 5, 3) := by decide +kernel
theorem dX10_moveItem_273 : decode cX10_moveItem 273 = .ok (.iload 17, 2) := by decide +kernel
theorem dX10_moveItem_275 : decode cX10_moveItem 275 = .ok (.istore 18, 2) := by decide +kernel
theorem dX10_moveItem_277 : decode cX10_moveItem 277 = .ok (.iload 15, 2) := by decide +kernel
theorem dX10_moveItem_279 : decode cX10_moveItem 279 = .ok (.ifCond .ne 9, 3) := by decide +kernel
theorem dX10_moveItem_282 : decode cX10_moveItem 282 = .ok (.iconst 0, 1) := by decide +kernel
theorem dX10_moveItem_283 : decode cX10_moveItem 283 = .ok (.istore 13, 2) := by decide +kernel
theorem dX10_moveItem_285 : decode cX10_moveItem 285 = .ok (.iconst 0, 1) := by decide +kernel
theorem dX10_moveItem_286 : decode cX10_moveItem 286 = .ok (.istore 14, 2) := by decide +kernel
theorem dX10_moveItem_288 : decode cX10_moveItem 288 = .ok (.iload 7, 2) := by decide +kernel
theorem dX10_moveItem_290 : decode cX10_moveItem 290 = .ok (.ifCond .eq 23, 3) := by decide +kernel
theorem dX10_moveItem_293 : decode cX10_moveItem 293 = .ok (.aload_n 0, 1) := by decide +kernel
theorem dX10_moveItem_294 : decode cX10_moveItem 294 = .ok (.iload_n 1, 1) := by decide +kernel
theorem dX10_moveItem_295 : decode cX10_moveItem 295 = .ok (.iload 18, 2) := by decide +kernel
theorem dX10_moveItem_297 : decode cX10_moveItem 297 = .ok (.iload 9, 2) := by decide +kernel
theorem dX10_moveItem_299 : decode cX10_moveItem 299 = .ok (.iload 13, 2) := by decide +kernel
theorem dX10_moveItem_301 : decode cX10_moveItem 301 = .ok (.iadd, 1) := by decide +kernel
theorem dX10_moveItem_302 : decode cX10_moveItem 302 = .ok (.iload 10, 2) := by decide +kernel
theorem dX10_moveItem_304 : decode cX10_moveItem 304 = .ok (.iload 14, 2) := by decide +kernel
theorem dX10_moveItem_306 : decode cX10_moveItem 306 = .ok (.iadd, 1) := by decide +kernel
theorem dX10_moveItem_307 : decode cX10_moveItem 307 = .ok (.invokevirtual 81, 3) := by decide +kernel
theorem dX10_moveItem_310 : decode cX10_moveItem 310 = .ok (.goto 39, 3) := by decide +kernel
theorem dX10_moveItem_313 : decode cX10_moveItem 313 = .ok (.aload_n 0, 1) := by decide +kernel
theorem dX10_moveItem_314 : decode cX10_moveItem 314 = .ok (.iload_n 1, 1) := by decide +kernel
theorem dX10_moveItem_315 : decode cX10_moveItem 315 = .ok (.aload_n 0, 1) := by decide +kernel
theorem dX10_moveItem_316 : decode cX10_moveItem 316 = .ok (.getfield 7, 3) := by decide +kernel
theorem dX10_moveItem_319 : decode cX10_moveItem 319 = .ok (.iload_n 1, 1) := by decide +kernel
theorem dX10_moveItem_320 : decode cX10_moveItem 320 = .ok (.iaload, 1) := by decide +kernel
theorem dX10_moveItem_321 : decode cX10_moveItem 321 = .ok (.bipush 16, 2) := by decide +kernel
theorem dX10_moveItem_323 : decode cX10_moveItem 323 = .ok (.idiv, 1) := by decide +kernel
theorem dX10_moveItem_324 : decode cX10_moveItem 324 = .ok (.iload 18, 2) := by decide +kernel
theorem dX10_moveItem_326 : decode cX10_moveItem 326 = .ok (.iload 9, 2) := by decide +kernel
theorem dX10_moveItem_328 : decode cX10_moveItem 328 = .ok (.iload 13, 2) := by decide +kernel
theorem dX10_moveItem_330 : decode cX10_moveItem 330 = .ok (.iadd, 1) := by decide +kernel
theorem dX10_moveItem_331 : decode cX10_moveItem 331 = .ok (.iload 10, 2) := by decide +kernel
theorem dX10_moveItem_333 : decode cX10_moveItem 333 = .ok (.iload 14, 2) := by decide +kernel
theorem dX10_moveItem_335 : decode cX10_moveItem 335 = .ok (.iadd, 1) := by decide +kernel
theorem dX10_moveItem_336 : decode cX10_moveItem 336 = .ok (.iload 11, 2) := by decide +kernel
theorem dX10_moveItem_338 : decode cX10_moveItem 338 = .ok (.iload 13, 2) := by decide +kernel
theorem dX10_moveItem_340 : decode cX10_moveItem 340 = .ok (.iadd, 1) := by decide +kernel
theorem dX10_moveItem_341 : decode cX10_moveItem 341 = .ok (.iload 12, 2) := by decide +kernel
theorem dX10_moveItem_343 : decode cX10_moveItem 343 = .ok (.iload 14, 2) := by decide +kernel
theorem dX10_moveItem_345 : decode cX10_moveItem 345 = .ok (.iadd, 1) := by decide +kernel
theorem dX10_moveItem_346 : decode cX10_moveItem 346 = .ok (.invokevirtual 64, 3) := by decide +kernel
theorem dX10_moveItem_349 : decode cX10_moveItem 349 = .ok (.return_, 1) := by decide +kernel
theorem dX10_move_0 : decode cX10_move 0 = .ok (.iload_n 1, 1) := by decide +kernel
theorem dX10_move_1 : decode cX10_move 1 = .ok (.iconst 0, 1) := by decide +kernel
theorem dX10_move_2 : decode cX10_move 2 = .ok (.bipush 7, 2) := by decide +kernel
theorem dX10_move_4 : decode cX10_move 4 = .ok (.invokestatic 40, 3) := by decide +kernel
theorem dX10_move_7 : decode cX10_move 7 = .ok (.ifCond .eq 72, 3) := by decide +kernel
theorem dX10_move_10 : decode cX10_move 10 = .ok (.iload_n 2, 1) := by decide +kernel
theorem dX10_move_11 : decode cX10_move 11 = .ok (.iconst 0, 1) := by decide +kernel
theorem dX10_move_12 : decode cX10_move 12 = .ok (.bipush 7, 2) := by decide +kernel
theorem dX10_move_14 : decode cX10_move 14 = .ok (.invokestatic 40, 3) := by decide +kernel
theorem dX10_move_17 : decode cX10_move 17 = .ok (.ifCond .eq 62, 3) := by decide +kernel
theorem dX10_move_20 : decode cX10_move 20 = .ok (.iload_n 3, 1) := by decide +kernel
theorem dX10_move_21 : decode cX10_move 21 = .ok (.iconst 0, 1) := by decide +kernel
theorem dX10_move_22 : decode cX10_move 22 = .ok (.bipush 7, 2) := by decide +kernel
theorem dX10_move_24 : decode cX10_move 24 = .ok (.invokestatic 40, 3) := by decide +kernel
theorem dX10_move_27 : decode cX10_move 27 = .ok (.ifCond .eq 52, 3) := by decide +kernel
theorem dX10_move_30 : decode cX10_move 30 = .ok (.iload 4, 2) := by decide +kernel
theorem dX10_move_32 : decode cX10_move 32 = .ok (.iload 5, 2) := by decide +kernel
theorem dX10_move_34 : decode cX10_move 34 = .ok (.invokestatic 44, 3) := by decide +kernel
theorem dX10_move_37 : decode cX10_move 37 = .ok (.ifCond .eq 42, 3) := by decide +kernel
theorem dX10_move_40 : decode cX10_move 40 = .ok (.iload 4, 2) := by decide +kernel
theorem dX10_move_42 : decode cX10_move 42 = .ok (.aload_n 0, 1) := by decide +kernel
theorem dX10_move_43 : decode cX10_move 43 = .ok (.getfield 23, 3) := by decide +kernel
theorem dX10_move_46 : decode cX10_move 46 = .ok (.iadd, 1) := by decide +kernel
theorem dX10_move_47 : decode cX10_move 47 = .ok (.aload_n 0, 1) := by decide +kernel
theorem dX10_move_48 : decode cX10_move 48 = .ok (.getfield 16, 3) := by decide +kernel
theorem dX10_move_51 : decode cX10_move 51 = .ok (.isub, 1) := by decide +kernel
theorem dX10_move_52 : decode cX10_move 52 = .ok (.ldc 39, 2) := by decide +kernel
theorem dX10_move_54 : decode cX10_move 54 = .ok (.if_icmp .gt 25, 3) := by decide +kernel
theorem dX10_move_57 : decode cX10_move 57 = .ok (.iload 5, 2) := by decide +kernel
theorem dX10_move_59 : decode cX10_move 59 = .ok (.aload_n 0, 1) := by decide +kernel
theorem dX10_move_60 : decode cX10_move 60 = .ok (.getfield 26, 3) := by decide +kernel
theorem dX10_move_63 : decode cX10_move 63 = .ok (.iadd, 1) := by decide +kernel
theorem dX10_move_64 : decode cX10_move 64 = .ok (.aload_n 0, 1) := by decide +kernel
theorem dX10_move_65 : decode cX10_move 65 = .ok (.getfield 20, 3) := by decide +kernel
theorem dX10_move_68 : decode cX10_move 68 = .ok (.isub, 1) := by decide +kernel
theorem dX10_move_69 : decode cX10_move 69 = .ok (.sipush 16384, 3) := by decide +kernel
theorem dX10_move_72 : decode cX10_move 72 = .ok (.if_icmp .gt 7, 3) := by decide +kernel
theorem dX10_move_75 : decode cX10_move 75 = .ok (.iconst 1, 1) := by decide +kernel
theorem dX10_move_76 : decode cX10_move 76 = .ok (.goto 4, 3) := by decide +kernel
theorem dX10_move_79 : decode cX10_move 79 = .ok (.iconst 0, 1) := by decide +kernel
theorem dX10_move_80 : decode cX10_move 80 = .ok (.istore 6, 2) := by decide +kernel
theorem dX10_move_82 : decode cX10_move 82 = .ok (.aload_n 0, 1) := by decide +kernel
theorem dX10_move_83 : decode cX10_move 83 = .ok (.iload 6, 2) := by decide +kernel
theorem dX10_move_85 : decode cX10_move 85 = .ok (.ifCond .eq 7, 3) := by decide +kernel
theorem dX10_move_88 : decode cX10_move 88 = .ok (.iconst 0, 1) := by decide +kernel
theorem dX10_move_89 : decode cX10_move 89 = .ok (.goto 4, 3) := by decide +kernel
theorem dX10_move_92 : decode cX10_move 92 = .ok (.iconst 1, 1) := by decide +kernel
theorem dX10_move_93 : decode cX10_move 93 = .ok (.putfield 29, 3) := by decide +kernel
theorem dX10_move_96 : decode cX10_move 96 = .ok (.aload_n 0, 1) := by decide +kernel
theorem dX10_move_97 : decode cX10_move 97 = .ok (.getfield 29, 3) := by decide +kernel
theorem dX10_move_100 : decode cX10_move 100 = .ok (.ifCond .eq 5, 3) := by decide +kernel
theorem dX10_move_103 : decode cX10_move 103 = .ok (.iconst 0, 1) := by decide +kernel
theorem dX10_move_104 : decode cX10_move 104 = .ok (.ireturn, 1) := by decide +kernel
theorem dX10_move_105 : decode cX10_move 105 = .ok (.aload_n 0, 1) := by decide +kernel
theorem dX10_move_106 : decode cX10_move 106 = .ok (.invokevirtual 70, 3) := by decide +kernel
theorem dX10_move_109 : decode cX10_move 109 = .ok (.iconst 0, 1) := by decide +kernel
theorem dX10_move_110 : decode cX10_move 110 = .ok (.istore 7, 2) := by decide +kernel
theorem dX10_move_112 : decode cX10_move 112 = .ok (.iload 7, 2) := by decide +kernel
theorem dX10_move_114 : decode cX10_move 114 = .ok (.aload_n 0, 1) := by decide +kernel
theorem dX10_move_115 : decode cX10_move 115 = .ok (.getfield 32, 3) := by decide +kernel
theorem dX10_move_118 : decode cX10_move 118 = .ok (.if_icmp .ge 54, 3) := by decide +kernel
theorem dX10_move_121 : decode cX10_move 121 = .ok (.aload_n 0, 1) := by decide +kernel
theorem dX10_move_122 : decode cX10_move 122 = .ok (.iload 7, 2) := by decide +kernel
theorem dX10_move_124 : decode cX10_move 124 = .ok (.invokevirtual 73, 3) := by decide +kernel
theorem dX10_move_127 : decode cX10_move 127 = .ok (.iconst 1, 1) := by decide +kernel
theorem dX10_move_128 : decode cX10_move 128 = .ok (.if_icmp .ne 17, 3) := by decide +kernel
theorem dX10_move_131 : decode cX10_move 131 = .ok (.aload_n 0, 1) := by decide +kernel
theorem dX10_move_132 : decode cX10_move 132 = .ok (.aload_n 0, 1) := by decide +kernel
theorem dX10_move_133 : decode cX10_move 133 = .ok (.getfield 7, 3) := by decide +kernel
theorem dX10_move_136 : decode cX10_move 136 = .ok (.iload 7, 2) := by decide +kernel
theorem dX10_move_138 : decode cX10_move 138 = .ok (.iaload, 1) := by decide +kernel
theorem dX10_move_139 : decode cX10_move 139 = .ok (.invokevirtual 51, 3) := by decide +kernel
theorem dX10_move_142 : decode cX10_move 142 = .ok (.goto 16, 3) := by decide +kernel
theorem dX10_move_145 : decode cX10_move 145 = .ok (.aload_n 0, 1) := by decide +kernel
theorem dX10_move_146 : decode cX10_move 146 = .ok (.iload 7, 2) := by decide +kernel
theorem dX10_move_148 : decode cX10_move 148 = .ok (.iload_n 1, 1) := by decide +kernel
theorem dX10_move_149 : decode cX10_move 149 = .ok (.iload_n 2, 1) := by decide +kernel
theorem dX10_move_150 : decode cX10_move 150 = .ok (.iload_n 3, 1) := by decide +kernel
theorem dX10_move_151 : decode cX10_move 151 = .ok (.iload 4, 2) := by decide +kernel
theorem dX10_move_153 : decode cX10_move 153 = .ok (.iload 5, 2) := by decide +kernel
theorem dX10_move_155 : decode cX10_move 155 = .ok (.invokevirtual 117, 3) := by decide +kernel
theorem dX10_move_158 : decode cX10_move 158 = .ok (.iload 7, 2) := by decide +kernel
theorem dX10_move_160 : decode cX10_move 160 = .ok (.aload_n 0, 1) := by decide +kernel
theorem dX10_move_161 : decode cX10_move 161 = .ok (.iload 7, 2) := by decide +kernel
theorem dX10_move_163 : decode cX10_move 163 = .ok (.invokevirtual 73, 3) := by decide +kernel
theorem dX10_move_166 : decode cX10_move 166 = .ok (.iadd, 1) := by decide +kernel
theorem dX10_move_167 : decode cX10_move 167 = .ok (.istore 7, 2) := by decide +kernel
theorem dX10_move_169 : decode cX10_move 169 = .ok (.goto (-57), 3) := by decide +kernel
theorem dX10_move_172 : decode cX10_move 172 = .ok (.aload_n 0, 1) := by decide +kernel
theorem dX10_move_173 : decode cX10_move 173 = .ok (.invokevirtual 85, 3) := by decide +kernel
theorem dX10_move_176 : decode cX10_move 176 = .ok (.ireturn, 1) := by decide +kernel

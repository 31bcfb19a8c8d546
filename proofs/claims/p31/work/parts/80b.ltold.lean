/-! names of the law's calls and rows: 15f.ltold -/
theorem dL_isTold_0 : decode cL_isTold 0 = .ok (.iconst 0, 1) := by decide +kernel
theorem dL_isTold_1 : decode cL_isTold 1 = .ok (.istore 13, 2) := by decide +kernel
theorem dL_isTold_3 : decode cL_isTold 3 = .ok (.iload 13, 2) := by decide +kernel
theorem dL_isTold_5 : decode cL_isTold 5 = .ok (.iconst 4, 1) := by decide +kernel
theorem dL_isTold_6 : decode cL_isTold 6 = .ok (.if_icmp .ge 317, 3) := by decide +kernel
theorem dL_isTold_9 : decode cL_isTold 9 = .ok (.aload_n 3, 1) := by decide +kernel
theorem dL_isTold_10 : decode cL_isTold 10 = .ok (.iload 13, 2) := by decide +kernel
theorem dL_isTold_12 : decode cL_isTold 12 = .ok (.iaload, 1) := by decide +kernel
theorem dL_isTold_13 : decode cL_isTold 13 = .ok (.ifCond .ge 6, 3) := by decide +kernel
theorem dL_isTold_16 : decode cL_isTold 16 = .ok (.goto 301, 3) := by decide +kernel
theorem dL_isTold_19 : decode cL_isTold 19 = .ok (.iconst 0, 1) := by decide +kernel
theorem dL_isTold_20 : decode cL_isTold 20 = .ok (.istore 14, 2) := by decide +kernel
theorem dL_isTold_22 : decode cL_isTold 22 = .ok (.iconst 0, 1) := by decide +kernel
theorem dL_isTold_23 : decode cL_isTold 23 = .ok (.istore 15, 2) := by decide +kernel
theorem dL_isTold_25 : decode cL_isTold 25 = .ok (.iload 15, 2) := by decide +kernel
theorem dL_isTold_27 : decode cL_isTold 27 = .ok (.iconst 5, 1) := by decide +kernel
theorem dL_isTold_28 : decode cL_isTold 28 = .ok (.if_icmp .ge 114, 3) := by decide +kernel
theorem dL_isTold_31 : decode cL_isTold 31 = .ok (.aload_n 2, 1) := by decide +kernel
theorem dL_isTold_32 : decode cL_isTold 32 = .ok (.aload 4, 2) := by decide +kernel
theorem dL_isTold_34 : decode cL_isTold 34 = .ok (.aload 5, 2) := by decide +kernel
theorem dL_isTold_36 : decode cL_isTold 36 = .ok (.aload 6, 2) := by decide +kernel
theorem dL_isTold_38 : decode cL_isTold 38 = .ok (.aload 7, 2) := by decide +kernel
theorem dL_isTold_40 : decode cL_isTold 40 = .ok (.aload 12, 2) := by decide +kernel
theorem dL_isTold_42 : decode cL_isTold 42 = .ok (.iload 13, 2) := by decide +kernel
theorem dL_isTold_44 : decode cL_isTold 44 = .ok (.iload 14, 2) := by decide +kernel
theorem dL_isTold_46 : decode cL_isTold 46 = .ok (.invokestatic 141, 3) := by decide +kernel
theorem dL_isTold_49 : decode cL_isTold 49 = .ok (.istore 16, 2) := by decide +kernel
theorem dL_isTold_51 : decode cL_isTold 51 = .ok (.aload_n 0, 1) := by decide +kernel
theorem dL_isTold_52 : decode cL_isTold 52 = .ok (.iload 13, 2) := by decide +kernel
theorem dL_isTold_54 : decode cL_isTold 54 = .ok (.iconst 2, 1) := by decide +kernel
theorem dL_isTold_55 : decode cL_isTold 55 = .ok (.idiv, 1) := by decide +kernel
theorem dL_isTold_56 : decode cL_isTold 56 = .ok (.iload 13, 2) := by decide +kernel
theorem dL_isTold_58 : decode cL_isTold 58 = .ok (.iconst 2, 1) := by decide +kernel
theorem dL_isTold_59 : decode cL_isTold 59 = .ok (.irem, 1) := by decide +kernel
theorem dL_isTold_60 : decode cL_isTold 60 = .ok (.iload 15, 2) := by decide +kernel
theorem dL_isTold_62 : decode cL_isTold 62 = .ok (.invokestatic 164, 3) := by decide +kernel
theorem dL_isTold_65 : decode cL_isTold 65 = .ok (.iload 16, 2) := by decide +kernel
theorem dL_isTold_67 : decode cL_isTold 67 = .ok (.ifCond .ge 7, 3) := by decide +kernel
theorem dL_isTold_70 : decode cL_isTold 70 = .ok (.iconst (-1), 1) := by decide +kernel
theorem dL_isTold_71 : decode cL_isTold 71 = .ok (.goto 7, 3) := by decide +kernel
theorem dL_isTold_74 : decode cL_isTold 74 = .ok (.iload 16, 2) := by decide +kernel
theorem dL_isTold_76 : decode cL_isTold 76 = .ok (.iconst 4, 1) := by decide +kernel
theorem dL_isTold_77 : decode cL_isTold 77 = .ok (.irem, 1) := by decide +kernel
theorem dL_isTold_78 : decode cL_isTold 78 = .ok (.if_icmp .ne 36, 3) := by decide +kernel
theorem dL_isTold_81 : decode cL_isTold 81 = .ok (.iload 15, 2) := by decide +kernel
theorem dL_isTold_83 : decode cL_isTold 83 = .ok (.ifCond .ne 33, 3) := by decide +kernel
theorem dL_isTold_86 : decode cL_isTold 86 = .ok (.aload_n 0, 1) := by decide +kernel
theorem dL_isTold_87 : decode cL_isTold 87 = .ok (.iload 13, 2) := by decide +kernel
theorem dL_isTold_89 : decode cL_isTold 89 = .ok (.iconst 2, 1) := by decide +kernel
theorem dL_isTold_90 : decode cL_isTold 90 = .ok (.idiv, 1) := by decide +kernel
theorem dL_isTold_91 : decode cL_isTold 91 = .ok (.iload 13, 2) := by decide +kernel
theorem dL_isTold_93 : decode cL_isTold 93 = .ok (.iconst 2, 1) := by decide +kernel
theorem dL_isTold_94 : decode cL_isTold 94 = .ok (.irem, 1) := by decide +kernel
theorem dL_isTold_95 : decode cL_isTold 95 = .ok (.invokestatic 211, 3) := by decide +kernel
theorem dL_isTold_98 : decode cL_isTold 98 = .ok (.iload 16, 2) := by decide +kernel
theorem dL_isTold_100 : decode cL_isTold 100 = .ok (.ifCond .ge 7, 3) := by decide +kernel
theorem dL_isTold_103 : decode cL_isTold 103 = .ok (.iconst (-1), 1) := by decide +kernel
theorem dL_isTold_104 : decode cL_isTold 104 = .ok (.goto 7, 3) := by decide +kernel
theorem dL_isTold_107 : decode cL_isTold 107 = .ok (.iload 16, 2) := by decide +kernel
theorem dL_isTold_109 : decode cL_isTold 109 = .ok (.iconst 4, 1) := by decide +kernel
theorem dL_isTold_110 : decode cL_isTold 110 = .ok (.irem, 1) := by decide +kernel
theorem dL_isTold_111 : decode cL_isTold 111 = .ok (.if_icmp .eq 5, 3) := by decide +kernel
theorem dL_isTold_114 : decode cL_isTold 114 = .ok (.iconst 0, 1) := by decide +kernel
theorem dL_isTold_115 : decode cL_isTold 115 = .ok (.ireturn, 1) := by decide +kernel
theorem dL_isTold_116 : decode cL_isTold 116 = .ok (.iload 14, 2) := by decide +kernel
theorem dL_isTold_118 : decode cL_isTold 118 = .ok (.iload 16, 2) := by decide +kernel
theorem dL_isTold_120 : decode cL_isTold 120 = .ok (.ifCond .ge 7, 3) := by decide +kernel
theorem dL_isTold_123 : decode cL_isTold 123 = .ok (.iconst 0, 1) := by decide +kernel
theorem dL_isTold_124 : decode cL_isTold 124 = .ok (.goto 9, 3) := by decide +kernel
theorem dL_isTold_127 : decode cL_isTold 127 = .ok (.iconst 1, 1) := by decide +kernel
theorem dL_isTold_128 : decode cL_isTold 128 = .ok (.iload 16, 2) := by decide +kernel
theorem dL_isTold_130 : decode cL_isTold 130 = .ok (.iconst 4, 1) := by decide +kernel
theorem dL_isTold_131 : decode cL_isTold 131 = .ok (.irem, 1) := by decide +kernel
theorem dL_isTold_132 : decode cL_isTold 132 = .ok (.ishl, 1) := by decide +kernel
theorem dL_isTold_133 : decode cL_isTold 133 = .ok (.ior, 1) := by decide +kernel
theorem dL_isTold_134 : decode cL_isTold 134 = .ok (.istore 14, 2) := by decide +kernel
theorem dL_isTold_136 : decode cL_isTold 136 = .ok (.iinc 15 1, 3) := by decide +kernel
theorem dL_isTold_139 : decode cL_isTold 139 = .ok (.goto (-114), 3) := by decide +kernel
theorem dL_isTold_142 : decode cL_isTold 142 = .ok (.iconst 0, 1) := by decide +kernel
theorem dL_isTold_143 : decode cL_isTold 143 = .ok (.istore 15, 2) := by decide +kernel
theorem dL_isTold_145 : decode cL_isTold 145 = .ok (.iload 15, 2) := by decide +kernel
theorem dL_isTold_147 : decode cL_isTold 147 = .ok (.iconst 4, 1) := by decide +kernel
theorem dL_isTold_148 : decode cL_isTold 148 = .ok (.if_icmp .ge 104, 3) := by decide +kernel
theorem dL_isTold_151 : decode cL_isTold 151 = .ok (.aload_n 2, 1) := by decide +kernel
theorem dL_isTold_152 : decode cL_isTold 152 = .ok (.aload 4, 2) := by decide +kernel
theorem dL_isTold_154 : decode cL_isTold 154 = .ok (.aload 6, 2) := by decide +kernel
theorem dL_isTold_156 : decode cL_isTold 156 = .ok (.aload 7, 2) := by decide +kernel
theorem dL_isTold_158 : decode cL_isTold 158 = .ok (.aload 12, 2) := by decide +kernel
theorem dL_isTold_160 : decode cL_isTold 160 = .ok (.iconst 4, 1) := by decide +kernel
theorem dL_isTold_161 : decode cL_isTold 161 = .ok (.iload 13, 2) := by decide +kernel
theorem dL_isTold_163 : decode cL_isTold 163 = .ok (.imul, 1) := by decide +kernel
theorem dL_isTold_164 : decode cL_isTold 164 = .ok (.iload 15, 2) := by decide +kernel
theorem dL_isTold_166 : decode cL_isTold 166 = .ok (.iadd, 1) := by decide +kernel
theorem dL_isTold_167 : decode cL_isTold 167 = .ok (.invokestatic 114, 3) := by decide +kernel
theorem dL_isTold_170 : decode cL_isTold 170 = .ok (.istore 16, 2) := by decide +kernel
theorem dL_isTold_172 : decode cL_isTold 172 = .ok (.aload_n 0, 1) := by decide +kernel
theorem dL_isTold_173 : decode cL_isTold 173 = .ok (.iload 15, 2) := by decide +kernel
theorem dL_isTold_175 : decode cL_isTold 175 = .ok (.iload 13, 2) := by decide +kernel
theorem dL_isTold_177 : decode cL_isTold 177 = .ok (.iconst 2, 1) := by decide +kernel
theorem dL_isTold_178 : decode cL_isTold 178 = .ok (.idiv, 1) := by decide +kernel
theorem dL_isTold_179 : decode cL_isTold 179 = .ok (.iload 13, 2) := by decide +kernel
theorem dL_isTold_181 : decode cL_isTold 181 = .ok (.iconst 2, 1) := by decide +kernel
theorem dL_isTold_182 : decode cL_isTold 182 = .ok (.irem, 1) := by decide +kernel
theorem dL_isTold_183 : decode cL_isTold 183 = .ok (.invokestatic 162, 3) := by decide +kernel
theorem dL_isTold_186 : decode cL_isTold 186 = .ok (.iload 16, 2) := by decide +kernel
theorem dL_isTold_188 : decode cL_isTold 188 = .ok (.ifCond .eq 7, 3) := by decide +kernel
theorem dL_isTold_191 : decode cL_isTold 191 = .ok (.iconst 1, 1) := by decide +kernel
theorem dL_isTold_192 : decode cL_isTold 192 = .ok (.goto 4, 3) := by decide +kernel
theorem dL_isTold_195 : decode cL_isTold 195 = .ok (.iconst 0, 1) := by decide +kernel
theorem dL_isTold_196 : decode cL_isTold 196 = .ok (.if_icmp .ne 48, 3) := by decide +kernel
theorem dL_isTold_199 : decode cL_isTold 199 = .ok (.aload_n 0, 1) := by decide +kernel
theorem dL_isTold_200 : decode cL_isTold 200 = .ok (.iload 15, 2) := by decide +kernel
theorem dL_isTold_202 : decode cL_isTold 202 = .ok (.iload 13, 2) := by decide +kernel
theorem dL_isTold_204 : decode cL_isTold 204 = .ok (.iconst 2, 1) := by decide +kernel
theorem dL_isTold_205 : decode cL_isTold 205 = .ok (.idiv, 1) := by decide +kernel
theorem dL_isTold_206 : decode cL_isTold 206 = .ok (.iload 13, 2) := by decide +kernel
theorem dL_isTold_208 : decode cL_isTold 208 = .ok (.iconst 2, 1) := by decide +kernel
theorem dL_isTold_209 : decode cL_isTold 209 = .ok (.irem, 1) := by decide +kernel
theorem dL_isTold_210 : decode cL_isTold 210 = .ok (.invokestatic 213, 3) := by decide +kernel
theorem dL_isTold_213 : decode cL_isTold 213 = .ok (.iload 16, 2) := by decide +kernel
theorem dL_isTold_215 : decode cL_isTold 215 = .ok (.ifCond .eq 25, 3) := by decide +kernel
theorem dL_isTold_218 : decode cL_isTold 218 = .ok (.aload_n 2, 1) := by decide +kernel
theorem dL_isTold_219 : decode cL_isTold 219 = .ok (.aload 4, 2) := by decide +kernel
theorem dL_isTold_221 : decode cL_isTold 221 = .ok (.aload 6, 2) := by decide +kernel
theorem dL_isTold_223 : decode cL_isTold 223 = .ok (.aload 7, 2) := by decide +kernel
theorem dL_isTold_225 : decode cL_isTold 225 = .ok (.aload 12, 2) := by decide +kernel
theorem dL_isTold_227 : decode cL_isTold 227 = .ok (.iconst 4, 1) := by decide +kernel
theorem dL_isTold_228 : decode cL_isTold 228 = .ok (.iload 13, 2) := by decide +kernel
theorem dL_isTold_230 : decode cL_isTold 230 = .ok (.imul, 1) := by decide +kernel
theorem dL_isTold_231 : decode cL_isTold 231 = .ok (.iload 15, 2) := by decide +kernel
theorem dL_isTold_233 : decode cL_isTold 233 = .ok (.iadd, 1) := by decide +kernel
theorem dL_isTold_234 : decode cL_isTold 234 = .ok (.invokestatic 126, 3) := by decide +kernel
theorem dL_isTold_237 : decode cL_isTold 237 = .ok (.goto 4, 3) := by decide +kernel
theorem dL_isTold_240 : decode cL_isTold 240 = .ok (.iconst (-1), 1) := by decide +kernel
theorem dL_isTold_241 : decode cL_isTold 241 = .ok (.if_icmp .eq 5, 3) := by decide +kernel
theorem dL_isTold_244 : decode cL_isTold 244 = .ok (.iconst 0, 1) := by decide +kernel
theorem dL_isTold_245 : decode cL_isTold 245 = .ok (.ireturn, 1) := by decide +kernel
theorem dL_isTold_246 : decode cL_isTold 246 = .ok (.iinc 15 1, 3) := by decide +kernel
theorem dL_isTold_249 : decode cL_isTold 249 = .ok (.goto (-104), 3) := by decide +kernel
theorem dL_isTold_252 : decode cL_isTold 252 = .ok (.aload_n 0, 1) := by decide +kernel
theorem dL_isTold_253 : decode cL_isTold 253 = .ok (.iload 13, 2) := by decide +kernel
theorem dL_isTold_255 : decode cL_isTold 255 = .ok (.iconst 2, 1) := by decide +kernel
theorem dL_isTold_256 : decode cL_isTold 256 = .ok (.idiv, 1) := by decide +kernel
theorem dL_isTold_257 : decode cL_isTold 257 = .ok (.iload 13, 2) := by decide +kernel
theorem dL_isTold_259 : decode cL_isTold 259 = .ok (.iconst 2, 1) := by decide +kernel
theorem dL_isTold_260 : decode cL_isTold 260 = .ok (.irem, 1) := by decide +kernel
theorem dL_isTold_261 : decode cL_isTold 261 = .ok (.invokestatic 185, 3) := by decide +kernel
theorem dL_isTold_264 : decode cL_isTold 264 = .ok (.aload 8, 2) := by decide +kernel
theorem dL_isTold_266 : decode cL_isTold 266 = .ok (.aload 12, 2) := by decide +kernel
theorem dL_isTold_268 : decode cL_isTold 268 = .ok (.iload 13, 2) := by decide +kernel
theorem dL_isTold_270 : decode cL_isTold 270 = .ok (.invokestatic 187, 3) := by decide +kernel
theorem dL_isTold_273 : decode cL_isTold 273 = .ok (.if_icmp .ne 42, 3) := by decide +kernel
theorem dL_isTold_276 : decode cL_isTold 276 = .ok (.aload_n 0, 1) := by decide +kernel
theorem dL_isTold_277 : decode cL_isTold 277 = .ok (.iload 13, 2) := by decide +kernel
theorem dL_isTold_279 : decode cL_isTold 279 = .ok (.iconst 2, 1) := by decide +kernel
theorem dL_isTold_280 : decode cL_isTold 280 = .ok (.idiv, 1) := by decide +kernel
theorem dL_isTold_281 : decode cL_isTold 281 = .ok (.iload 13, 2) := by decide +kernel
theorem dL_isTold_283 : decode cL_isTold 283 = .ok (.iconst 2, 1) := by decide +kernel
theorem dL_isTold_284 : decode cL_isTold 284 = .ok (.irem, 1) := by decide +kernel
theorem dL_isTold_285 : decode cL_isTold 285 = .ok (.iconst (-1), 1) := by decide +kernel
theorem dL_isTold_286 : decode cL_isTold 286 = .ok (.invokestatic 164, 3) := by decide +kernel
theorem dL_isTold_289 : decode cL_isTold 289 = .ok (.sipush (-7200), 3) := by decide +kernel
theorem dL_isTold_292 : decode cL_isTold 292 = .ok (.if_icmp .ne 23, 3) := by decide +kernel
theorem dL_isTold_295 : decode cL_isTold 295 = .ok (.aload_n 0, 1) := by decide +kernel
theorem dL_isTold_296 : decode cL_isTold 296 = .ok (.bipush 8, 2) := by decide +kernel
theorem dL_isTold_298 : decode cL_isTold 298 = .ok (.iload 13, 2) := by decide +kernel
theorem dL_isTold_300 : decode cL_isTold 300 = .ok (.iconst 2, 1) := by decide +kernel
theorem dL_isTold_301 : decode cL_isTold 301 = .ok (.idiv, 1) := by decide +kernel
theorem dL_isTold_302 : decode cL_isTold 302 = .ok (.iload 13, 2) := by decide +kernel
theorem dL_isTold_304 : decode cL_isTold 304 = .ok (.iconst 2, 1) := by decide +kernel
theorem dL_isTold_305 : decode cL_isTold 305 = .ok (.irem, 1) := by decide +kernel
theorem dL_isTold_306 : decode cL_isTold 306 = .ok (.invokestatic 213, 3) := by decide +kernel
theorem dL_isTold_309 : decode cL_isTold 309 = .ok (.sipush (-7100), 3) := by decide +kernel
theorem dL_isTold_312 : decode cL_isTold 312 = .ok (.if_icmp .eq 5, 3) := by decide +kernel
theorem dL_isTold_315 : decode cL_isTold 315 = .ok (.iconst 0, 1) := by decide +kernel
theorem dL_isTold_316 : decode cL_isTold 316 = .ok (.ireturn, 1) := by decide +kernel
theorem dL_isTold_317 : decode cL_isTold 317 = .ok (.iinc 13 1, 3) := by decide +kernel
theorem dL_isTold_320 : decode cL_isTold 320 = .ok (.goto (-317), 3) := by decide +kernel
theorem dL_isTold_323 : decode cL_isTold 323 = .ok (.iconst 0, 1) := by decide +kernel
theorem dL_isTold_324 : decode cL_isTold 324 = .ok (.istore 13, 2) := by decide +kernel
theorem dL_isTold_326 : decode cL_isTold 326 = .ok (.iload 13, 2) := by decide +kernel
theorem dL_isTold_328 : decode cL_isTold 328 = .ok (.aload 12, 2) := by decide +kernel
theorem dL_isTold_330 : decode cL_isTold 330 = .ok (.iconst 4, 1) := by decide +kernel
theorem dL_isTold_331 : decode cL_isTold 331 = .ok (.iaload, 1) := by decide +kernel
theorem dL_isTold_332 : decode cL_isTold 332 = .ok (.if_icmp .ge 82, 3) := by decide +kernel
theorem dL_isTold_335 : decode cL_isTold 335 = .ok (.aload_n 0, 1) := by decide +kernel
theorem dL_isTold_336 : decode cL_isTold 336 = .ok (.iload 13, 2) := by decide +kernel
theorem dL_isTold_338 : decode cL_isTold 338 = .ok (.invokestatic 201, 3) := by decide +kernel
theorem dL_isTold_341 : decode cL_isTold 341 = .ok (.aload 8, 2) := by decide +kernel
theorem dL_isTold_343 : decode cL_isTold 343 = .ok (.iload 13, 2) := by decide +kernel
theorem dL_isTold_345 : decode cL_isTold 345 = .ok (.iaload, 1) := by decide +kernel
theorem dL_isTold_346 : decode cL_isTold 346 = .ok (.iconst 2, 1) := by decide +kernel
theorem dL_isTold_347 : decode cL_isTold 347 = .ok (.ishr, 1) := by decide +kernel
theorem dL_isTold_348 : decode cL_isTold 348 = .ok (.iconst 3, 1) := by decide +kernel
theorem dL_isTold_349 : decode cL_isTold 349 = .ok (.iand, 1) := by decide +kernel
theorem dL_isTold_350 : decode cL_isTold 350 = .ok (.if_icmp .ne 56, 3) := by decide +kernel
theorem dL_isTold_353 : decode cL_isTold 353 = .ok (.aload_n 0, 1) := by decide +kernel
theorem dL_isTold_354 : decode cL_isTold 354 = .ok (.iload 13, 2) := by decide +kernel
theorem dL_isTold_356 : decode cL_isTold 356 = .ok (.invokestatic 215, 3) := by decide +kernel
theorem dL_isTold_359 : decode cL_isTold 359 = .ok (.aload 8, 2) := by decide +kernel
theorem dL_isTold_361 : decode cL_isTold 361 = .ok (.iload 13, 2) := by decide +kernel
theorem dL_isTold_363 : decode cL_isTold 363 = .ok (.invokestatic 130, 3) := by decide +kernel
theorem dL_isTold_366 : decode cL_isTold 366 = .ok (.ifCond .eq 7, 3) := by decide +kernel
theorem dL_isTold_369 : decode cL_isTold 369 = .ok (.iconst 1, 1) := by decide +kernel
theorem dL_isTold_370 : decode cL_isTold 370 = .ok (.goto 4, 3) := by decide +kernel
theorem dL_isTold_373 : decode cL_isTold 373 = .ok (.iconst 0, 1) := by decide +kernel
theorem dL_isTold_374 : decode cL_isTold 374 = .ok (.if_icmp .ne 32, 3) := by decide +kernel
theorem dL_isTold_377 : decode cL_isTold 377 = .ok (.aload_n 0, 1) := by decide +kernel
theorem dL_isTold_378 : decode cL_isTold 378 = .ok (.iload 13, 2) := by decide +kernel
theorem dL_isTold_380 : decode cL_isTold 380 = .ok (.invokestatic 217, 3) := by decide +kernel
theorem dL_isTold_383 : decode cL_isTold 383 = .ok (.aload_n 2, 1) := by decide +kernel
theorem dL_isTold_384 : decode cL_isTold 384 = .ok (.aload 8, 2) := by decide +kernel
theorem dL_isTold_386 : decode cL_isTold 386 = .ok (.aload 9, 2) := by decide +kernel
theorem dL_isTold_388 : decode cL_isTold 388 = .ok (.aload 12, 2) := by decide +kernel
theorem dL_isTold_390 : decode cL_isTold 390 = .ok (.iload 13, 2) := by decide +kernel
theorem dL_isTold_392 : decode cL_isTold 392 = .ok (.invokestatic 168, 3) := by decide +kernel
theorem dL_isTold_395 : decode cL_isTold 395 = .ok (.ifCond .eq 7, 3) := by decide +kernel
theorem dL_isTold_398 : decode cL_isTold 398 = .ok (.iconst 1, 1) := by decide +kernel
theorem dL_isTold_399 : decode cL_isTold 399 = .ok (.goto 4, 3) := by decide +kernel
theorem dL_isTold_402 : decode cL_isTold 402 = .ok (.iconst 0, 1) := by decide +kernel
theorem dL_isTold_403 : decode cL_isTold 403 = .ok (.if_icmp .eq 5, 3) := by decide +kernel
theorem dL_isTold_406 : decode cL_isTold 406 = .ok (.iconst 0, 1) := by decide +kernel
theorem dL_isTold_407 : decode cL_isTold 407 = .ok (.ireturn, 1) := by decide +kernel
theorem dL_isTold_408 : decode cL_isTold 408 = .ok (.iinc 13 1, 3) := by decide +kernel
theorem dL_isTold_411 : decode cL_isTold 411 = .ok (.goto (-85), 3) := by decide +kernel
theorem dL_isTold_414 : decode cL_isTold 414 = .ok (.aload 12, 2) := by decide +kernel
theorem dL_isTold_416 : decode cL_isTold 416 = .ok (.iconst 4, 1) := by decide +kernel
theorem dL_isTold_417 : decode cL_isTold 417 = .ok (.iaload, 1) := by decide +kernel
theorem dL_isTold_418 : decode cL_isTold 418 = .ok (.ifCond .le 27, 3) := by decide +kernel
theorem dL_isTold_421 : decode cL_isTold 421 = .ok (.aload_n 0, 1) := by decide +kernel
theorem dL_isTold_422 : decode cL_isTold 422 = .ok (.iload_n 1, 1) := by decide +kernel
theorem dL_isTold_423 : decode cL_isTold 423 = .ok (.aload 12, 2) := by decide +kernel
theorem dL_isTold_425 : decode cL_isTold 425 = .ok (.iconst 4, 1) := by decide +kernel
theorem dL_isTold_426 : decode cL_isTold 426 = .ok (.iaload, 1) := by decide +kernel
theorem dL_isTold_427 : decode cL_isTold 427 = .ok (.invokestatic 145, 3) := by decide +kernel
theorem dL_isTold_430 : decode cL_isTold 430 = .ok (.aload_n 2, 1) := by decide +kernel
theorem dL_isTold_431 : decode cL_isTold 431 = .ok (.aload 8, 2) := by decide +kernel
theorem dL_isTold_433 : decode cL_isTold 433 = .ok (.aload 9, 2) := by decide +kernel
theorem dL_isTold_435 : decode cL_isTold 435 = .ok (.aload 12, 2) := by decide +kernel
theorem dL_isTold_437 : decode cL_isTold 437 = .ok (.invokestatic 219, 3) := by decide +kernel
theorem dL_isTold_440 : decode cL_isTold 440 = .ok (.ifCond .ne 5, 3) := by decide +kernel
theorem dL_isTold_443 : decode cL_isTold 443 = .ok (.iconst 0, 1) := by decide +kernel
theorem dL_isTold_444 : decode cL_isTold 444 = .ok (.ireturn, 1) := by decide +kernel
theorem dL_isTold_445 : decode cL_isTold 445 = .ok (.iconst 0, 1) := by decide +kernel
theorem dL_isTold_446 : decode cL_isTold 446 = .ok (.istore 13, 2) := by decide +kernel
theorem dL_isTold_448 : decode cL_isTold 448 = .ok (.iload 13, 2) := by decide +kernel
theorem dL_isTold_450 : decode cL_isTold 450 = .ok (.aload 12, 2) := by decide +kernel
theorem dL_isTold_452 : decode cL_isTold 452 = .ok (.iconst 5, 1) := by decide +kernel
theorem dL_isTold_453 : decode cL_isTold 453 = .ok (.iaload, 1) := by decide +kernel
theorem dL_isTold_454 : decode cL_isTold 454 = .ok (.if_icmp .ge 30, 3) := by decide +kernel
theorem dL_isTold_457 : decode cL_isTold 457 = .ok (.aload_n 0, 1) := by decide +kernel
theorem dL_isTold_458 : decode cL_isTold 458 = .ok (.iload 13, 2) := by decide +kernel
theorem dL_isTold_460 : decode cL_isTold 460 = .ok (.invokestatic 199, 3) := by decide +kernel
theorem dL_isTold_463 : decode cL_isTold 463 = .ok (.aload 9, 2) := by decide +kernel
theorem dL_isTold_465 : decode cL_isTold 465 = .ok (.iload 13, 2) := by decide +kernel
theorem dL_isTold_467 : decode cL_isTold 467 = .ok (.iaload, 1) := by decide +kernel
theorem dL_isTold_468 : decode cL_isTold 468 = .ok (.bipush 9, 2) := by decide +kernel
theorem dL_isTold_470 : decode cL_isTold 470 = .ok (.ishr, 1) := by decide +kernel
theorem dL_isTold_471 : decode cL_isTold 471 = .ok (.iconst 3, 1) := by decide +kernel
theorem dL_isTold_472 : decode cL_isTold 472 = .ok (.iand, 1) := by decide +kernel
theorem dL_isTold_473 : decode cL_isTold 473 = .ok (.if_icmp .eq 5, 3) := by decide +kernel
theorem dL_isTold_476 : decode cL_isTold 476 = .ok (.iconst 0, 1) := by decide +kernel
theorem dL_isTold_477 : decode cL_isTold 477 = .ok (.ireturn, 1) := by decide +kernel
theorem dL_isTold_478 : decode cL_isTold 478 = .ok (.iinc 13 1, 3) := by decide +kernel
theorem dL_isTold_481 : decode cL_isTold 481 = .ok (.goto (-33), 3) := by decide +kernel
theorem dL_isTold_484 : decode cL_isTold 484 = .ok (.iconst 0, 1) := by decide +kernel
theorem dL_isTold_485 : decode cL_isTold 485 = .ok (.istore 13, 2) := by decide +kernel
theorem dL_isTold_487 : decode cL_isTold 487 = .ok (.iload 13, 2) := by decide +kernel
theorem dL_isTold_489 : decode cL_isTold 489 = .ok (.iconst 4, 1) := by decide +kernel
theorem dL_isTold_490 : decode cL_isTold 490 = .ok (.if_icmp .ge 278, 3) := by decide +kernel
theorem dL_isTold_493 : decode cL_isTold 493 = .ok (.iconst 0, 1) := by decide +kernel
theorem dL_isTold_494 : decode cL_isTold 494 = .ok (.istore 14, 2) := by decide +kernel
theorem dL_isTold_496 : decode cL_isTold 496 = .ok (.iconst 0, 1) := by decide +kernel
theorem dL_isTold_497 : decode cL_isTold 497 = .ok (.istore 15, 2) := by decide +kernel
theorem dL_isTold_499 : decode cL_isTold 499 = .ok (.iconst 0, 1) := by decide +kernel
theorem dL_isTold_500 : decode cL_isTold 500 = .ok (.istore 16, 2) := by decide +kernel
theorem dL_isTold_502 : decode cL_isTold 502 = .ok (.iload 16, 2) := by decide +kernel
theorem dL_isTold_504 : decode cL_isTold 504 = .ok (.aload 12, 2) := by decide +kernel
theorem dL_isTold_506 : decode cL_isTold 506 = .ok (.bipush 6, 2) := by decide +kernel
theorem dL_isTold_508 : decode cL_isTold 508 = .ok (.iaload, 1) := by decide +kernel
theorem dL_isTold_509 : decode cL_isTold 509 = .ok (.if_icmp .ge 100, 3) := by decide +kernel
theorem dL_isTold_512 : decode cL_isTold 512 = .ok (.aload 10, 2) := by decide +kernel
theorem dL_isTold_514 : decode cL_isTold 514 = .ok (.iload 16, 2) := by decide +kernel
theorem dL_isTold_516 : decode cL_isTold 516 = .ok (.iaload, 1) := by decide +kernel
theorem dL_isTold_517 : decode cL_isTold 517 = .ok (.bipush 31, 2) := by decide +kernel
theorem dL_isTold_519 : decode cL_isTold 519 = .ok (.iand, 1) := by decide +kernel
theorem dL_isTold_520 : decode cL_isTold 520 = .ok (.istore 17, 2) := by decide +kernel
theorem dL_isTold_522 : decode cL_isTold 522 = .ok (.aload 8, 2) := by decide +kernel
theorem dL_isTold_524 : decode cL_isTold 524 = .ok (.iload 17, 2) := by decide +kernel
theorem dL_isTold_526 : decode cL_isTold 526 = .ok (.invokestatic 130, 3) := by decide +kernel
theorem dL_isTold_529 : decode cL_isTold 529 = .ok (.ifCond .eq 7, 3) := by decide +kernel
theorem dL_isTold_532 : decode cL_isTold 532 = .ok (.iconst 0, 1) := by decide +kernel
theorem dL_isTold_533 : decode cL_isTold 533 = .ok (.goto 20, 3) := by decide +kernel
theorem dL_isTold_536 : decode cL_isTold 536 = .ok (.aload 9, 2) := by decide +kernel
theorem dL_isTold_538 : decode cL_isTold 538 = .ok (.aload 12, 2) := by decide +kernel
theorem dL_isTold_540 : decode cL_isTold 540 = .ok (.iload 17, 2) := by decide +kernel
theorem dL_isTold_542 : decode cL_isTold 542 = .ok (.invokestatic 134, 3) := by decide +kernel
theorem dL_isTold_545 : decode cL_isTold 545 = .ok (.ifCond .le 7, 3) := by decide +kernel
theorem dL_isTold_548 : decode cL_isTold 548 = .ok (.iconst 1, 1) := by decide +kernel
theorem dL_isTold_549 : decode cL_isTold 549 = .ok (.goto 4, 3) := by decide +kernel
theorem dL_isTold_552 : decode cL_isTold 552 = .ok (.iconst 2, 1) := by decide +kernel
theorem dL_isTold_553 : decode cL_isTold 553 = .ok (.istore 18, 2) := by decide +kernel
theorem dL_isTold_555 : decode cL_isTold 555 = .ok (.aload_n 0, 1) := by decide +kernel
theorem dL_isTold_556 : decode cL_isTold 556 = .ok (.iload 16, 2) := by decide +kernel
theorem dL_isTold_558 : decode cL_isTold 558 = .ok (.invokestatic 205, 3) := by decide +kernel
theorem dL_isTold_561 : decode cL_isTold 561 = .ok (.iload 18, 2) := by decide +kernel
theorem dL_isTold_563 : decode cL_isTold 563 = .ok (.if_icmp .eq 5, 3) := by decide +kernel
theorem dL_isTold_566 : decode cL_isTold 566 = .ok (.iconst 0, 1) := by decide +kernel
theorem dL_isTold_567 : decode cL_isTold 567 = .ok (.ireturn, 1) := by decide +kernel
theorem dL_isTold_568 : decode cL_isTold 568 = .ok (.iload 14, 2) := by decide +kernel
theorem dL_isTold_570 : decode cL_isTold 570 = .ok (.iload 18, 2) := by decide +kernel
theorem dL_isTold_572 : decode cL_isTold 572 = .ok (.ifCond .ne 27, 3) := by decide +kernel
theorem dL_isTold_575 : decode cL_isTold 575 = .ok (.aload 8, 2) := by decide +kernel
theorem dL_isTold_577 : decode cL_isTold 577 = .ok (.iload 17, 2) := by decide +kernel
theorem dL_isTold_579 : decode cL_isTold 579 = .ok (.iaload, 1) := by decide +kernel
theorem dL_isTold_580 : decode cL_isTold 580 = .ok (.iconst 2, 1) := by decide +kernel
theorem dL_isTold_581 : decode cL_isTold 581 = .ok (.ishr, 1) := by decide +kernel
theorem dL_isTold_582 : decode cL_isTold 582 = .ok (.iconst 3, 1) := by decide +kernel
theorem dL_isTold_583 : decode cL_isTold 583 = .ok (.iand, 1) := by decide +kernel
theorem dL_isTold_584 : decode cL_isTold 584 = .ok (.iload 13, 2) := by decide +kernel
theorem dL_isTold_586 : decode cL_isTold 586 = .ok (.if_icmp .ne 13, 3) := by decide +kernel
theorem dL_isTold_589 : decode cL_isTold 589 = .ok (.aload 10, 2) := by decide +kernel
theorem dL_isTold_591 : decode cL_isTold 591 = .ok (.iload 16, 2) := by decide +kernel
theorem dL_isTold_593 : decode cL_isTold 593 = .ok (.iaload, 1) := by decide +kernel
theorem dL_isTold_594 : decode cL_isTold 594 = .ok (.iconst 5, 1) := by decide +kernel
theorem dL_isTold_595 : decode cL_isTold 595 = .ok (.ishr, 1) := by decide +kernel
theorem dL_isTold_596 : decode cL_isTold 596 = .ok (.goto 4, 3) := by decide +kernel
theorem dL_isTold_599 : decode cL_isTold 599 = .ok (.iconst 0, 1) := by decide +kernel
theorem dL_isTold_600 : decode cL_isTold 600 = .ok (.iadd, 1) := by decide +kernel
theorem dL_isTold_601 : decode cL_isTold 601 = .ok (.istore 14, 2) := by decide +kernel
theorem dL_isTold_603 : decode cL_isTold 603 = .ok (.iinc 16 1, 3) := by decide +kernel
theorem dL_isTold_606 : decode cL_isTold 606 = .ok (.goto (-104), 3) := by decide +kernel
theorem dL_isTold_609 : decode cL_isTold 609 = .ok (.iconst 0, 1) := by decide +kernel
theorem dL_isTold_610 : decode cL_isTold 610 = .ok (.istore 16, 2) := by decide +kernel
theorem dL_isTold_612 : decode cL_isTold 612 = .ok (.iload 16, 2) := by decide +kernel
theorem dL_isTold_614 : decode cL_isTold 614 = .ok (.iconst 4, 1) := by decide +kernel
theorem dL_isTold_615 : decode cL_isTold 615 = .ok (.if_icmp .ge 109, 3) := by decide +kernel
theorem dL_isTold_618 : decode cL_isTold 618 = .ok (.aload 8, 2) := by decide +kernel
theorem dL_isTold_620 : decode cL_isTold 620 = .ok (.aload 12, 2) := by decide +kernel
theorem dL_isTold_622 : decode cL_isTold 622 = .ok (.iload 16, 2) := by decide +kernel
theorem dL_isTold_624 : decode cL_isTold 624 = .ok (.invokestatic 187, 3) := by decide +kernel
theorem dL_isTold_627 : decode cL_isTold 627 = .ok (.istore 17, 2) := by decide +kernel
theorem dL_isTold_629 : decode cL_isTold 629 = .ok (.aload 4, 2) := by decide +kernel
theorem dL_isTold_631 : decode cL_isTold 631 = .ok (.iconst 4, 1) := by decide +kernel
theorem dL_isTold_632 : decode cL_isTold 632 = .ok (.iload 16, 2) := by decide +kernel
theorem dL_isTold_634 : decode cL_isTold 634 = .ok (.imul, 1) := by decide +kernel
theorem dL_isTold_635 : decode cL_isTold 635 = .ok (.iload 13, 2) := by decide +kernel
theorem dL_isTold_637 : decode cL_isTold 637 = .ok (.iadd, 1) := by decide +kernel
theorem dL_isTold_638 : decode cL_isTold 638 = .ok (.iaload, 1) := by decide +kernel
theorem dL_isTold_639 : decode cL_isTold 639 = .ok (.ifCond .le 58, 3) := by decide +kernel
theorem dL_isTold_642 : decode cL_isTold 642 = .ok (.aload_n 2, 1) := by decide +kernel
theorem dL_isTold_643 : decode cL_isTold 643 = .ok (.aload 12, 2) := by decide +kernel
theorem dL_isTold_645 : decode cL_isTold 645 = .ok (.iload 16, 2) := by decide +kernel
theorem dL_isTold_647 : decode cL_isTold 647 = .ok (.iconst 2, 1) := by decide +kernel
theorem dL_isTold_648 : decode cL_isTold 648 = .ok (.idiv, 1) := by decide +kernel
theorem dL_isTold_649 : decode cL_isTold 649 = .ok (.invokestatic 106, 3) := by decide +kernel
theorem dL_isTold_652 : decode cL_isTold 652 = .ok (.ifCond .eq 25, 3) := by decide +kernel
theorem dL_isTold_655 : decode cL_isTold 655 = .ok (.aload_n 2, 1) := by decide +kernel
theorem dL_isTold_656 : decode cL_isTold 656 = .ok (.aload 4, 2) := by decide +kernel
theorem dL_isTold_658 : decode cL_isTold 658 = .ok (.aload 6, 2) := by decide +kernel
theorem dL_isTold_660 : decode cL_isTold 660 = .ok (.aload 7, 2) := by decide +kernel
theorem dL_isTold_662 : decode cL_isTold 662 = .ok (.aload 12, 2) := by decide +kernel
theorem dL_isTold_664 : decode cL_isTold 664 = .ok (.iconst 4, 1) := by decide +kernel
theorem dL_isTold_665 : decode cL_isTold 665 = .ok (.iload 16, 2) := by decide +kernel
theorem dL_isTold_667 : decode cL_isTold 667 = .ok (.imul, 1) := by decide +kernel
theorem dL_isTold_668 : decode cL_isTold 668 = .ok (.iload 13, 2) := by decide +kernel
theorem dL_isTold_670 : decode cL_isTold 670 = .ok (.iadd, 1) := by decide +kernel
theorem dL_isTold_671 : decode cL_isTold 671 = .ok (.invokestatic 114, 3) := by decide +kernel
theorem dL_isTold_674 : decode cL_isTold 674 = .ok (.ifCond .eq 23, 3) := by decide +kernel
theorem dL_isTold_677 : decode cL_isTold 677 = .ok (.iload 17, 2) := by decide +kernel
theorem dL_isTold_679 : decode cL_isTold 679 = .ok (.ifCond .lt 14, 3) := by decide +kernel
theorem dL_isTold_682 : decode cL_isTold 682 = .ok (.aload 8, 2) := by decide +kernel
theorem dL_isTold_684 : decode cL_isTold 684 = .ok (.iload 17, 2) := by decide +kernel
theorem dL_isTold_686 : decode cL_isTold 686 = .ok (.iaload, 1) := by decide +kernel
theorem dL_isTold_687 : decode cL_isTold 687 = .ok (.bipush 17, 2) := by decide +kernel
theorem dL_isTold_689 : decode cL_isTold 689 = .ok (.ishr, 1) := by decide +kernel
theorem dL_isTold_690 : decode cL_isTold 690 = .ok (.ifCond .gt 7, 3) := by decide +kernel
theorem dL_isTold_693 : decode cL_isTold 693 = .ok (.iconst 1, 1) := by decide +kernel
theorem dL_isTold_694 : decode cL_isTold 694 = .ok (.goto 4, 3) := by decide +kernel
theorem dL_isTold_697 : decode cL_isTold 697 = .ok (.iconst 0, 1) := by decide +kernel
theorem dL_isTold_698 : decode cL_isTold 698 = .ok (.istore 18, 2) := by decide +kernel
theorem dL_isTold_700 : decode cL_isTold 700 = .ok (.iload 15, 2) := by decide +kernel
theorem dL_isTold_702 : decode cL_isTold 702 = .ok (.iload 18, 2) := by decide +kernel
theorem dL_isTold_704 : decode cL_isTold 704 = .ok (.ifCond .eq 10, 3) := by decide +kernel
theorem dL_isTold_707 : decode cL_isTold 707 = .ok (.aload_n 3, 1) := by decide +kernel
theorem dL_isTold_708 : decode cL_isTold 708 = .ok (.iload 16, 2) := by decide +kernel
theorem dL_isTold_710 : decode cL_isTold 710 = .ok (.iaload, 1) := by decide +kernel
theorem dL_isTold_711 : decode cL_isTold 711 = .ok (.goto 4, 3) := by decide +kernel
theorem dL_isTold_714 : decode cL_isTold 714 = .ok (.iconst 0, 1) := by decide +kernel
theorem dL_isTold_715 : decode cL_isTold 715 = .ok (.iadd, 1) := by decide +kernel
theorem dL_isTold_716 : decode cL_isTold 716 = .ok (.istore 15, 2) := by decide +kernel
theorem dL_isTold_718 : decode cL_isTold 718 = .ok (.iinc 16 1, 3) := by decide +kernel
theorem dL_isTold_721 : decode cL_isTold 721 = .ok (.goto (-109), 3) := by decide +kernel
theorem dL_isTold_724 : decode cL_isTold 724 = .ok (.aload_n 0, 1) := by decide +kernel
theorem dL_isTold_725 : decode cL_isTold 725 = .ok (.iload 13, 2) := by decide +kernel
theorem dL_isTold_727 : decode cL_isTold 727 = .ok (.invokestatic 223, 3) := by decide +kernel
theorem dL_isTold_730 : decode cL_isTold 730 = .ok (.iload 14, 2) := by decide +kernel
theorem dL_isTold_732 : decode cL_isTold 732 = .ok (.if_icmp .ne 28, 3) := by decide +kernel
theorem dL_isTold_735 : decode cL_isTold 735 = .ok (.aload_n 0, 1) := by decide +kernel
theorem dL_isTold_736 : decode cL_isTold 736 = .ok (.iload 13, 2) := by decide +kernel
theorem dL_isTold_738 : decode cL_isTold 738 = .ok (.invokestatic 225, 3) := by decide +kernel
theorem dL_isTold_741 : decode cL_isTold 741 = .ok (.iload 15, 2) := by decide +kernel
theorem dL_isTold_743 : decode cL_isTold 743 = .ok (.if_icmp .ne 17, 3) := by decide +kernel
theorem dL_isTold_746 : decode cL_isTold 746 = .ok (.aload_n 0, 1) := by decide +kernel
theorem dL_isTold_747 : decode cL_isTold 747 = .ok (.iload 13, 2) := by decide +kernel
theorem dL_isTold_749 : decode cL_isTold 749 = .ok (.invokestatic 227, 3) := by decide +kernel
theorem dL_isTold_752 : decode cL_isTold 752 = .ok (.aload 11, 2) := by decide +kernel
theorem dL_isTold_754 : decode cL_isTold 754 = .ok (.iload 13, 2) := by decide +kernel
theorem dL_isTold_756 : decode cL_isTold 756 = .ok (.iaload, 1) := by decide +kernel
theorem dL_isTold_757 : decode cL_isTold 757 = .ok (.if_icmp .eq 5, 3) := by decide +kernel
theorem dL_isTold_760 : decode cL_isTold 760 = .ok (.iconst 0, 1) := by decide +kernel
theorem dL_isTold_761 : decode cL_isTold 761 = .ok (.ireturn, 1) := by decide +kernel
theorem dL_isTold_762 : decode cL_isTold 762 = .ok (.iinc 13 1, 3) := by decide +kernel
theorem dL_isTold_765 : decode cL_isTold 765 = .ok (.goto (-278), 3) := by decide +kernel
theorem dL_isTold_768 : decode cL_isTold 768 = .ok (.aload_n 0, 1) := by decide +kernel
theorem dL_isTold_769 : decode cL_isTold 769 = .ok (.invokevirtual 229, 3) := by decide +kernel
theorem dL_isTold_772 : decode cL_isTold 772 = .ok (.aload 12, 2) := by decide +kernel
theorem dL_isTold_774 : decode cL_isTold 774 = .ok (.iconst 0, 1) := by decide +kernel
theorem dL_isTold_775 : decode cL_isTold 775 = .ok (.iaload, 1) := by decide +kernel
theorem dL_isTold_776 : decode cL_isTold 776 = .ok (.if_icmp .ne 156, 3) := by decide +kernel
theorem dL_isTold_779 : decode cL_isTold 779 = .ok (.aload_n 0, 1) := by decide +kernel
theorem dL_isTold_780 : decode cL_isTold 780 = .ok (.aload 12, 2) := by decide +kernel
theorem dL_isTold_782 : decode cL_isTold 782 = .ok (.iconst 4, 1) := by decide +kernel
theorem dL_isTold_783 : decode cL_isTold 783 = .ok (.iaload, 1) := by decide +kernel
theorem dL_isTold_784 : decode cL_isTold 784 = .ok (.invokestatic 201, 3) := by decide +kernel
theorem dL_isTold_787 : decode cL_isTold 787 = .ok (.sipush (-7100), 3) := by decide +kernel
theorem dL_isTold_790 : decode cL_isTold 790 = .ok (.if_icmp .ne 142, 3) := by decide +kernel
theorem dL_isTold_793 : decode cL_isTold 793 = .ok (.aload_n 0, 1) := by decide +kernel
theorem dL_isTold_794 : decode cL_isTold 794 = .ok (.iconst (-1), 1) := by decide +kernel
theorem dL_isTold_795 : decode cL_isTold 795 = .ok (.invokestatic 215, 3) := by decide +kernel
theorem dL_isTold_798 : decode cL_isTold 798 = .ok (.sipush (-7100), 3) := by decide +kernel
theorem dL_isTold_801 : decode cL_isTold 801 = .ok (.if_icmp .ne 131, 3) := by decide +kernel
theorem dL_isTold_804 : decode cL_isTold 804 = .ok (.aload_n 0, 1) := by decide +kernel
theorem dL_isTold_805 : decode cL_isTold 805 = .ok (.aload 12, 2) := by decide +kernel
theorem dL_isTold_807 : decode cL_isTold 807 = .ok (.iconst 4, 1) := by decide +kernel
theorem dL_isTold_808 : decode cL_isTold 808 = .ok (.iaload, 1) := by decide +kernel
theorem dL_isTold_809 : decode cL_isTold 809 = .ok (.invokestatic 217, 3) := by decide +kernel
theorem dL_isTold_812 : decode cL_isTold 812 = .ok (.sipush (-7100), 3) := by decide +kernel
theorem dL_isTold_815 : decode cL_isTold 815 = .ok (.if_icmp .ne 117, 3) := by decide +kernel
theorem dL_isTold_818 : decode cL_isTold 818 = .ok (.aload_n 0, 1) := by decide +kernel
theorem dL_isTold_819 : decode cL_isTold 819 = .ok (.aload 12, 2) := by decide +kernel
theorem dL_isTold_821 : decode cL_isTold 821 = .ok (.iconst 4, 1) := by decide +kernel
theorem dL_isTold_822 : decode cL_isTold 822 = .ok (.iaload, 1) := by decide +kernel
theorem dL_isTold_823 : decode cL_isTold 823 = .ok (.invokestatic 207, 3) := by decide +kernel
theorem dL_isTold_826 : decode cL_isTold 826 = .ok (.sipush (-7100), 3) := by decide +kernel
theorem dL_isTold_829 : decode cL_isTold 829 = .ok (.if_icmp .ne 103, 3) := by decide +kernel
theorem dL_isTold_832 : decode cL_isTold 832 = .ok (.aload_n 0, 1) := by decide +kernel
theorem dL_isTold_833 : decode cL_isTold 833 = .ok (.iconst (-1), 1) := by decide +kernel
theorem dL_isTold_834 : decode cL_isTold 834 = .ok (.iconst 0, 1) := by decide +kernel
theorem dL_isTold_835 : decode cL_isTold 835 = .ok (.invokestatic 209, 3) := by decide +kernel
theorem dL_isTold_838 : decode cL_isTold 838 = .ok (.sipush (-7100), 3) := by decide +kernel
theorem dL_isTold_841 : decode cL_isTold 841 = .ok (.if_icmp .ne 91, 3) := by decide +kernel
theorem dL_isTold_844 : decode cL_isTold 844 = .ok (.aload_n 0, 1) := by decide +kernel
theorem dL_isTold_845 : decode cL_isTold 845 = .ok (.aload 12, 2) := by decide +kernel
theorem dL_isTold_847 : decode cL_isTold 847 = .ok (.iconst 5, 1) := by decide +kernel
theorem dL_isTold_848 : decode cL_isTold 848 = .ok (.iaload, 1) := by decide +kernel
theorem dL_isTold_849 : decode cL_isTold 849 = .ok (.invokestatic 199, 3) := by decide +kernel
theorem dL_isTold_852 : decode cL_isTold 852 = .ok (.sipush (-7100), 3) := by decide +kernel
theorem dL_isTold_855 : decode cL_isTold 855 = .ok (.if_icmp .ne 77, 3) := by decide +kernel
theorem dL_isTold_858 : decode cL_isTold 858 = .ok (.aload_n 0, 1) := by decide +kernel
theorem dL_isTold_859 : decode cL_isTold 859 = .ok (.iconst (-1), 1) := by decide +kernel
theorem dL_isTold_860 : decode cL_isTold 860 = .ok (.invokestatic 205, 3) := by decide +kernel
theorem dL_isTold_863 : decode cL_isTold 863 = .ok (.sipush (-7100), 3) := by decide +kernel
theorem dL_isTold_866 : decode cL_isTold 866 = .ok (.if_icmp .ne 66, 3) := by decide +kernel
theorem dL_isTold_869 : decode cL_isTold 869 = .ok (.aload_n 0, 1) := by decide +kernel
theorem dL_isTold_870 : decode cL_isTold 870 = .ok (.bipush 8, 2) := by decide +kernel
theorem dL_isTold_872 : decode cL_isTold 872 = .ok (.invokestatic 223, 3) := by decide +kernel
theorem dL_isTold_875 : decode cL_isTold 875 = .ok (.sipush (-7100), 3) := by decide +kernel
theorem dL_isTold_878 : decode cL_isTold 878 = .ok (.if_icmp .ne 54, 3) := by decide +kernel
theorem dL_isTold_881 : decode cL_isTold 881 = .ok (.aload_n 0, 1) := by decide +kernel
theorem dL_isTold_882 : decode cL_isTold 882 = .ok (.iconst (-1), 1) := by decide +kernel
theorem dL_isTold_883 : decode cL_isTold 883 = .ok (.invokestatic 225, 3) := by decide +kernel
theorem dL_isTold_886 : decode cL_isTold 886 = .ok (.sipush (-7100), 3) := by decide +kernel
theorem dL_isTold_889 : decode cL_isTold 889 = .ok (.if_icmp .ne 43, 3) := by decide +kernel
theorem dL_isTold_892 : decode cL_isTold 892 = .ok (.aload_n 0, 1) := by decide +kernel
theorem dL_isTold_893 : decode cL_isTold 893 = .ok (.ldc 233, 2) := by decide +kernel
theorem dL_isTold_895 : decode cL_isTold 895 = .ok (.invokestatic 227, 3) := by decide +kernel
theorem dL_isTold_898 : decode cL_isTold 898 = .ok (.sipush (-7100), 3) := by decide +kernel
theorem dL_isTold_901 : decode cL_isTold 901 = .ok (.if_icmp .ne 31, 3) := by decide +kernel
theorem dL_isTold_904 : decode cL_isTold 904 = .ok (.aload_n 0, 1) := by decide +kernel
theorem dL_isTold_905 : decode cL_isTold 905 = .ok (.iconst 2, 1) := by decide +kernel
theorem dL_isTold_906 : decode cL_isTold 906 = .ok (.iconst 0, 1) := by decide +kernel
theorem dL_isTold_907 : decode cL_isTold 907 = .ok (.invokestatic 211, 3) := by decide +kernel
theorem dL_isTold_910 : decode cL_isTold 910 = .ok (.sipush (-7100), 3) := by decide +kernel
theorem dL_isTold_913 : decode cL_isTold 913 = .ok (.if_icmp .ne 19, 3) := by decide +kernel
theorem dL_isTold_916 : decode cL_isTold 916 = .ok (.aload_n 0, 1) := by decide +kernel
theorem dL_isTold_917 : decode cL_isTold 917 = .ok (.iconst (-1), 1) := by decide +kernel
theorem dL_isTold_918 : decode cL_isTold 918 = .ok (.iconst 0, 1) := by decide +kernel
theorem dL_isTold_919 : decode cL_isTold 919 = .ok (.invokestatic 185, 3) := by decide +kernel
theorem dL_isTold_922 : decode cL_isTold 922 = .ok (.sipush (-7100), 3) := by decide +kernel
theorem dL_isTold_925 : decode cL_isTold 925 = .ok (.if_icmp .ne 7, 3) := by decide +kernel
theorem dL_isTold_928 : decode cL_isTold 928 = .ok (.iconst 1, 1) := by decide +kernel
theorem dL_isTold_929 : decode cL_isTold 929 = .ok (.goto 4, 3) := by decide +kernel
theorem dL_isTold_932 : decode cL_isTold 932 = .ok (.iconst 0, 1) := by decide +kernel
theorem dL_isTold_933 : decode cL_isTold 933 = .ok (.ireturn, 1) := by decide +kernel

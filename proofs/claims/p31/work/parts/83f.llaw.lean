/-! rows of law -/
theorem dL_law_0 : decode cL_law 0 = .ok (.new 9, 3) := by decide +kernel
theorem dL_law_3 : decode cL_law 3 = .ok (.dup, 1) := by decide +kernel
theorem dL_law_4 : decode cL_law 4 = .ok (.invokespecial 234, 3) := by decide +kernel
theorem dL_law_7 : decode cL_law 7 = .ok (.astore_n 1, 1) := by decide +kernel
theorem dL_law_8 : decode cL_law 8 = .ok (.bipush 24, 2) := by decide +kernel
theorem dL_law_10 : decode cL_law 10 = .ok (.newarray .int, 2) := by decide +kernel
theorem dL_law_12 : decode cL_law 12 = .ok (.astore_n 2, 1) := by decide +kernel
theorem dL_law_13 : decode cL_law 13 = .ok (.iconst 2, 1) := by decide +kernel
theorem dL_law_14 : decode cL_law 14 = .ok (.newarray .int, 2) := by decide +kernel
theorem dL_law_16 : decode cL_law 16 = .ok (.astore_n 3, 1) := by decide +kernel
theorem dL_law_17 : decode cL_law 17 = .ok (.iconst 4, 1) := by decide +kernel
theorem dL_law_18 : decode cL_law 18 = .ok (.newarray .int, 2) := by decide +kernel
theorem dL_law_20 : decode cL_law 20 = .ok (.astore 4, 2) := by decide +kernel
theorem dL_law_22 : decode cL_law 22 = .ok (.bipush 16, 2) := by decide +kernel
theorem dL_law_24 : decode cL_law 24 = .ok (.newarray .int, 2) := by decide +kernel
theorem dL_law_26 : decode cL_law 26 = .ok (.astore 5, 2) := by decide +kernel
theorem dL_law_28 : decode cL_law 28 = .ok (.bipush 16, 2) := by decide +kernel
theorem dL_law_30 : decode cL_law 30 = .ok (.newarray .int, 2) := by decide +kernel
theorem dL_law_32 : decode cL_law 32 = .ok (.astore 6, 2) := by decide +kernel
theorem dL_law_34 : decode cL_law 34 = .ok (.bipush 16, 2) := by decide +kernel
theorem dL_law_36 : decode cL_law 36 = .ok (.newarray .int, 2) := by decide +kernel
theorem dL_law_38 : decode cL_law 38 = .ok (.astore 7, 2) := by decide +kernel
theorem dL_law_40 : decode cL_law 40 = .ok (.bipush 60, 2) := by decide +kernel
theorem dL_law_42 : decode cL_law 42 = .ok (.newarray .int, 2) := by decide +kernel
theorem dL_law_44 : decode cL_law 44 = .ok (.astore 8, 2) := by decide +kernel
theorem dL_law_46 : decode cL_law 46 = .ok (.bipush 32, 2) := by decide +kernel
theorem dL_law_48 : decode cL_law 48 = .ok (.newarray .int, 2) := by decide +kernel
theorem dL_law_50 : decode cL_law 50 = .ok (.astore 9, 2) := by decide +kernel
theorem dL_law_52 : decode cL_law 52 = .ok (.bipush 32, 2) := by decide +kernel
theorem dL_law_54 : decode cL_law 54 = .ok (.newarray .int, 2) := by decide +kernel
theorem dL_law_56 : decode cL_law 56 = .ok (.astore 10, 2) := by decide +kernel
theorem dL_law_58 : decode cL_law 58 = .ok (.bipush 32, 2) := by decide +kernel
theorem dL_law_60 : decode cL_law 60 = .ok (.newarray .int, 2) := by decide +kernel
theorem dL_law_62 : decode cL_law 62 = .ok (.astore 11, 2) := by decide +kernel
theorem dL_law_64 : decode cL_law 64 = .ok (.iconst 4, 1) := by decide +kernel
theorem dL_law_65 : decode cL_law 65 = .ok (.newarray .int, 2) := by decide +kernel
theorem dL_law_67 : decode cL_law 67 = .ok (.astore 12, 2) := by decide +kernel
theorem dL_law_69 : decode cL_law 69 = .ok (.bipush 7, 2) := by decide +kernel
theorem dL_law_71 : decode cL_law 71 = .ok (.newarray .int, 2) := by decide +kernel
theorem dL_law_73 : decode cL_law 73 = .ok (.astore 13, 2) := by decide +kernel
theorem dL_law_75 : decode cL_law 75 = .ok (.iconst 0, 1) := by decide +kernel
theorem dL_law_76 : decode cL_law 76 = .ok (.istore 14, 2) := by decide +kernel
theorem dL_law_78 : decode cL_law 78 = .ok (.iload 14, 2) := by decide +kernel
theorem dL_law_80 : decode cL_law 80 = .ok (.iconst 4, 1) := by decide +kernel
theorem dL_law_81 : decode cL_law 81 = .ok (.if_icmp .ge 15, 3) := by decide +kernel
theorem dL_law_84 : decode cL_law 84 = .ok (.aload 4, 2) := by decide +kernel
theorem dL_law_86 : decode cL_law 86 = .ok (.iload 14, 2) := by decide +kernel
theorem dL_law_88 : decode cL_law 88 = .ok (.iconst (-1), 1) := by decide +kernel
theorem dL_law_89 : decode cL_law 89 = .ok (.iastore, 1) := by decide +kernel
theorem dL_law_90 : decode cL_law 90 = .ok (.iinc 14 1, 3) := by decide +kernel
theorem dL_law_93 : decode cL_law 93 = .ok (.goto (-15), 3) := by decide +kernel
theorem dL_law_96 : decode cL_law 96 = .ok (.aload_n 1, 1) := by decide +kernel
theorem dL_law_97 : decode cL_law 97 = .ok (.iconst 0, 1) := by decide +kernel
theorem dL_law_98 : decode cL_law 98 = .ok (.aload_n 3, 1) := by decide +kernel
theorem dL_law_99 : decode cL_law 99 = .ok (.aload 4, 2) := by decide +kernel
theorem dL_law_101 : decode cL_law 101 = .ok (.aload 5, 2) := by decide +kernel
theorem dL_law_103 : decode cL_law 103 = .ok (.aload 6, 2) := by decide +kernel
theorem dL_law_105 : decode cL_law 105 = .ok (.aload 7, 2) := by decide +kernel
theorem dL_law_107 : decode cL_law 107 = .ok (.aload 8, 2) := by decide +kernel
theorem dL_law_109 : decode cL_law 109 = .ok (.aload 9, 2) := by decide +kernel
theorem dL_law_111 : decode cL_law 111 = .ok (.aload 10, 2) := by decide +kernel
theorem dL_law_113 : decode cL_law 113 = .ok (.aload 11, 2) := by decide +kernel
theorem dL_law_115 : decode cL_law 115 = .ok (.aload 12, 2) := by decide +kernel
theorem dL_law_117 : decode cL_law 117 = .ok (.aload 13, 2) := by decide +kernel
theorem dL_law_119 : decode cL_law 119 = .ok (.invokestatic 235, 3) := by decide +kernel
theorem dL_law_122 : decode cL_law 122 = .ok (.ifCond .ne 5, 3) := by decide +kernel
theorem dL_law_125 : decode cL_law 125 = .ok (.iconst 0, 1) := by decide +kernel
theorem dL_law_126 : decode cL_law 126 = .ok (.ireturn, 1) := by decide +kernel
theorem dL_law_127 : decode cL_law 127 = .ok (.iconst 0, 1) := by decide +kernel
theorem dL_law_128 : decode cL_law 128 = .ok (.istore 14, 2) := by decide +kernel
theorem dL_law_130 : decode cL_law 130 = .ok (.iload 14, 2) := by decide +kernel
theorem dL_law_132 : decode cL_law 132 = .ok (.sipush 150, 3) := by decide +kernel
theorem dL_law_135 : decode cL_law 135 = .ok (.if_icmp .ge 295, 3) := by decide +kernel
theorem dL_law_138 : decode cL_law 138 = .ok (.aload_n 0, 1) := by decide +kernel
theorem dL_law_139 : decode cL_law 139 = .ok (.iconst 3, 1) := by decide +kernel
theorem dL_law_140 : decode cL_law 140 = .ok (.iload 14, 2) := by decide +kernel
theorem dL_law_142 : decode cL_law 142 = .ok (.imul, 1) := by decide +kernel
theorem dL_law_143 : decode cL_law 143 = .ok (.invokestatic 239, 3) := by decide +kernel
theorem dL_law_146 : decode cL_law 146 = .ok (.istore 15, 2) := by decide +kernel
theorem dL_law_148 : decode cL_law 148 = .ok (.aload_n 0, 1) := by decide +kernel
theorem dL_law_149 : decode cL_law 149 = .ok (.iconst 3, 1) := by decide +kernel
theorem dL_law_150 : decode cL_law 150 = .ok (.iload 14, 2) := by decide +kernel
theorem dL_law_152 : decode cL_law 152 = .ok (.imul, 1) := by decide +kernel
theorem dL_law_153 : decode cL_law 153 = .ok (.iconst 1, 1) := by decide +kernel
theorem dL_law_154 : decode cL_law 154 = .ok (.iadd, 1) := by decide +kernel
theorem dL_law_155 : decode cL_law 155 = .ok (.invokestatic 239, 3) := by decide +kernel
theorem dL_law_158 : decode cL_law 158 = .ok (.istore 16, 2) := by decide +kernel
theorem dL_law_160 : decode cL_law 160 = .ok (.aload_n 0, 1) := by decide +kernel
theorem dL_law_161 : decode cL_law 161 = .ok (.iconst 3, 1) := by decide +kernel
theorem dL_law_162 : decode cL_law 162 = .ok (.iload 14, 2) := by decide +kernel
theorem dL_law_164 : decode cL_law 164 = .ok (.imul, 1) := by decide +kernel
theorem dL_law_165 : decode cL_law 165 = .ok (.iconst 2, 1) := by decide +kernel
theorem dL_law_166 : decode cL_law 166 = .ok (.iadd, 1) := by decide +kernel
theorem dL_law_167 : decode cL_law 167 = .ok (.invokestatic 239, 3) := by decide +kernel
theorem dL_law_170 : decode cL_law 170 = .ok (.istore 17, 2) := by decide +kernel
theorem dL_law_172 : decode cL_law 172 = .ok (.aload 13, 2) := by decide +kernel
theorem dL_law_174 : decode cL_law 174 = .ok (.iconst 4, 1) := by decide +kernel
theorem dL_law_175 : decode cL_law 175 = .ok (.iaload, 1) := by decide +kernel
theorem dL_law_176 : decode cL_law 176 = .ok (.bipush 22, 2) := by decide +kernel
theorem dL_law_178 : decode cL_law 178 = .ok (.if_icmp .gt 41, 3) := by decide +kernel
theorem dL_law_181 : decode cL_law 181 = .ok (.aload 13, 2) := by decide +kernel
theorem dL_law_183 : decode cL_law 183 = .ok (.iconst 5, 1) := by decide +kernel
theorem dL_law_184 : decode cL_law 184 = .ok (.iaload, 1) := by decide +kernel
theorem dL_law_185 : decode cL_law 185 = .ok (.bipush 30, 2) := by decide +kernel
theorem dL_law_187 : decode cL_law 187 = .ok (.if_icmp .gt 32, 3) := by decide +kernel
theorem dL_law_190 : decode cL_law 190 = .ok (.aload 13, 2) := by decide +kernel
theorem dL_law_192 : decode cL_law 192 = .ok (.bipush 6, 2) := by decide +kernel
theorem dL_law_194 : decode cL_law 194 = .ok (.iaload, 1) := by decide +kernel
theorem dL_law_195 : decode cL_law 195 = .ok (.bipush 30, 2) := by decide +kernel
theorem dL_law_197 : decode cL_law 197 = .ok (.if_icmp .gt 22, 3) := by decide +kernel
theorem dL_law_200 : decode cL_law 200 = .ok (.aload 13, 2) := by decide +kernel
theorem dL_law_202 : decode cL_law 202 = .ok (.iconst 3, 1) := by decide +kernel
theorem dL_law_203 : decode cL_law 203 = .ok (.iaload, 1) := by decide +kernel
theorem dL_law_204 : decode cL_law 204 = .ok (.bipush 50, 2) := by decide +kernel
theorem dL_law_206 : decode cL_law 206 = .ok (.if_icmp .gt 13, 3) := by decide +kernel
theorem dL_law_209 : decode cL_law 209 = .ok (.aload 13, 2) := by decide +kernel
theorem dL_law_211 : decode cL_law 211 = .ok (.iconst 0, 1) := by decide +kernel
theorem dL_law_212 : decode cL_law 212 = .ok (.iaload, 1) := by decide +kernel
theorem dL_law_213 : decode cL_law 213 = .ok (.sipush 900, 3) := by decide +kernel
theorem dL_law_216 : decode cL_law 216 = .ok (.if_icmp .le 5, 3) := by decide +kernel
theorem dL_law_219 : decode cL_law 219 = .ok (.iconst 1, 1) := by decide +kernel
theorem dL_law_220 : decode cL_law 220 = .ok (.ireturn, 1) := by decide +kernel
theorem dL_law_221 : decode cL_law 221 = .ok (.iload 14, 2) := by decide +kernel
theorem dL_law_223 : decode cL_law 223 = .ok (.iconst 2, 1) := by decide +kernel
theorem dL_law_224 : decode cL_law 224 = .ok (.if_icmp .ge 7, 3) := by decide +kernel
theorem dL_law_227 : decode cL_law 227 = .ok (.iconst 0, 1) := by decide +kernel
theorem dL_law_228 : decode cL_law 228 = .ok (.goto 32, 3) := by decide +kernel
theorem dL_law_231 : decode cL_law 231 = .ok (.iload 14, 2) := by decide +kernel
theorem dL_law_233 : decode cL_law 233 = .ok (.iconst 5, 1) := by decide +kernel
theorem dL_law_234 : decode cL_law 234 = .ok (.if_icmp .ge 7, 3) := by decide +kernel
theorem dL_law_237 : decode cL_law 237 = .ok (.iconst 4, 1) := by decide +kernel
theorem dL_law_238 : decode cL_law 238 = .ok (.goto 22, 3) := by decide +kernel
theorem dL_law_241 : decode cL_law 241 = .ok (.iload 15, 2) := by decide +kernel
theorem dL_law_243 : decode cL_law 243 = .ok (.iload 14, 2) := by decide +kernel
theorem dL_law_245 : decode cL_law 245 = .ok (.bipush 25, 2) := by decide +kernel
theorem dL_law_247 : decode cL_law 247 = .ok (.if_icmp .ge 8, 3) := by decide +kernel
theorem dL_law_250 : decode cL_law 250 = .ok (.bipush 15, 2) := by decide +kernel
theorem dL_law_252 : decode cL_law 252 = .ok (.goto 5, 3) := by decide +kernel
theorem dL_law_255 : decode cL_law 255 = .ok (.bipush 48, 2) := by decide +kernel
theorem dL_law_257 : decode cL_law 257 = .ok (.invokestatic 145, 3) := by decide +kernel
theorem dL_law_260 : decode cL_law 260 = .ok (.istore 18, 2) := by decide +kernel
theorem dL_law_262 : decode cL_law 262 = .ok (.iload 18, 2) := by decide +kernel
theorem dL_law_264 : decode cL_law 264 = .ok (.bipush 15, 2) := by decide +kernel
theorem dL_law_266 : decode cL_law 266 = .ok (.if_icmp .ge 26, 3) := by decide +kernel
theorem dL_law_269 : decode cL_law 269 = .ok (.aload_n 1, 1) := by decide +kernel
theorem dL_law_270 : decode cL_law 270 = .ok (.iload 18, 2) := by decide +kernel
theorem dL_law_272 : decode cL_law 272 = .ok (.iload 16, 2) := by decide +kernel
theorem dL_law_274 : decode cL_law 274 = .ok (.iload 17, 2) := by decide +kernel
theorem dL_law_276 : decode cL_law 276 = .ok (.aload_n 2, 1) := by decide +kernel
theorem dL_law_277 : decode cL_law 277 = .ok (.aload_n 3, 1) := by decide +kernel
theorem dL_law_278 : decode cL_law 278 = .ok (.aload 4, 2) := by decide +kernel
theorem dL_law_280 : decode cL_law 280 = .ok (.aload 5, 2) := by decide +kernel
theorem dL_law_282 : decode cL_law 282 = .ok (.aload 6, 2) := by decide +kernel
theorem dL_law_284 : decode cL_law 284 = .ok (.aload 13, 2) := by decide +kernel
theorem dL_law_286 : decode cL_law 286 = .ok (.invokestatic 242, 3) := by decide +kernel
theorem dL_law_289 : decode cL_law 289 = .ok (.goto 91, 3) := by decide +kernel
theorem dL_law_292 : decode cL_law 292 = .ok (.iload 18, 2) := by decide +kernel
theorem dL_law_294 : decode cL_law 294 = .ok (.bipush 25, 2) := by decide +kernel
theorem dL_law_296 : decode cL_law 296 = .ok (.if_icmp .ge 52, 3) := by decide +kernel
theorem dL_law_299 : decode cL_law 299 = .ok (.aload_n 1, 1) := by decide +kernel
theorem dL_law_300 : decode cL_law 300 = .ok (.iconst 1, 1) := by decide +kernel
theorem dL_law_301 : decode cL_law 301 = .ok (.iload 16, 2) := by decide +kernel
theorem dL_law_303 : decode cL_law 303 = .ok (.iload 17, 2) := by decide +kernel
theorem dL_law_305 : decode cL_law 305 = .ok (.sipush 768, 3) := by decide +kernel
theorem dL_law_308 : decode cL_law 308 = .ok (.iand, 1) := by decide +kernel
theorem dL_law_309 : decode cL_law 309 = .ok (.ifCond .ne 8, 3) := by decide +kernel
theorem dL_law_312 : decode cL_law 312 = .ok (.bipush 40, 2) := by decide +kernel
theorem dL_law_314 : decode cL_law 314 = .ok (.goto 4, 3) := by decide +kernel
theorem dL_law_317 : decode cL_law 317 = .ok (.iconst 4, 1) := by decide +kernel
theorem dL_law_318 : decode cL_law 318 = .ok (.invokestatic 145, 3) := by decide +kernel
theorem dL_law_321 : decode cL_law 321 = .ok (.iadd, 1) := by decide +kernel
theorem dL_law_322 : decode cL_law 322 = .ok (.aload_n 2, 1) := by decide +kernel
theorem dL_law_323 : decode cL_law 323 = .ok (.aload_n 3, 1) := by decide +kernel
theorem dL_law_324 : decode cL_law 324 = .ok (.aload 4, 2) := by decide +kernel
theorem dL_law_326 : decode cL_law 326 = .ok (.aload 5, 2) := by decide +kernel
theorem dL_law_328 : decode cL_law 328 = .ok (.aload 6, 2) := by decide +kernel
theorem dL_law_330 : decode cL_law 330 = .ok (.aload 7, 2) := by decide +kernel
theorem dL_law_332 : decode cL_law 332 = .ok (.aload 8, 2) := by decide +kernel
theorem dL_law_334 : decode cL_law 334 = .ok (.aload 9, 2) := by decide +kernel
theorem dL_law_336 : decode cL_law 336 = .ok (.aload 10, 2) := by decide +kernel
theorem dL_law_338 : decode cL_law 338 = .ok (.aload 12, 2) := by decide +kernel
theorem dL_law_340 : decode cL_law 340 = .ok (.aload 13, 2) := by decide +kernel
theorem dL_law_342 : decode cL_law 342 = .ok (.invokestatic 246, 3) := by decide +kernel
theorem dL_law_345 : decode cL_law 345 = .ok (.goto 35, 3) := by decide +kernel
theorem dL_law_348 : decode cL_law 348 = .ok (.aload_n 1, 1) := by decide +kernel
theorem dL_law_349 : decode cL_law 349 = .ok (.iload 18, 2) := by decide +kernel
theorem dL_law_351 : decode cL_law 351 = .ok (.bipush 25, 2) := by decide +kernel
theorem dL_law_353 : decode cL_law 353 = .ok (.isub, 1) := by decide +kernel
theorem dL_law_354 : decode cL_law 354 = .ok (.iload 16, 2) := by decide +kernel
theorem dL_law_356 : decode cL_law 356 = .ok (.iload 17, 2) := by decide +kernel
theorem dL_law_358 : decode cL_law 358 = .ok (.aload_n 3, 1) := by decide +kernel
theorem dL_law_359 : decode cL_law 359 = .ok (.aload 4, 2) := by decide +kernel
theorem dL_law_361 : decode cL_law 361 = .ok (.aload 5, 2) := by decide +kernel
theorem dL_law_363 : decode cL_law 363 = .ok (.aload 6, 2) := by decide +kernel
theorem dL_law_365 : decode cL_law 365 = .ok (.aload 7, 2) := by decide +kernel
theorem dL_law_367 : decode cL_law 367 = .ok (.aload 8, 2) := by decide +kernel
theorem dL_law_369 : decode cL_law 369 = .ok (.aload 9, 2) := by decide +kernel
theorem dL_law_371 : decode cL_law 371 = .ok (.aload 10, 2) := by decide +kernel
theorem dL_law_373 : decode cL_law 373 = .ok (.aload 11, 2) := by decide +kernel
theorem dL_law_375 : decode cL_law 375 = .ok (.aload 13, 2) := by decide +kernel
theorem dL_law_377 : decode cL_law 377 = .ok (.invokestatic 249, 3) := by decide +kernel
theorem dL_law_380 : decode cL_law 380 = .ok (.istore 19, 2) := by decide +kernel
theorem dL_law_382 : decode cL_law 382 = .ok (.iload 19, 2) := by decide +kernel
theorem dL_law_384 : decode cL_law 384 = .ok (.ifCond .eq 38, 3) := by decide +kernel
theorem dL_law_387 : decode cL_law 387 = .ok (.aload_n 1, 1) := by decide +kernel
theorem dL_law_388 : decode cL_law 388 = .ok (.iload 15, 2) := by decide +kernel
theorem dL_law_390 : decode cL_law 390 = .ok (.iconst 5, 1) := by decide +kernel
theorem dL_law_391 : decode cL_law 391 = .ok (.ishr, 1) := by decide +kernel
theorem dL_law_392 : decode cL_law 392 = .ok (.iload 16, 2) := by decide +kernel
theorem dL_law_394 : decode cL_law 394 = .ok (.ixor, 1) := by decide +kernel
theorem dL_law_395 : decode cL_law 395 = .ok (.aload_n 3, 1) := by decide +kernel
theorem dL_law_396 : decode cL_law 396 = .ok (.aload 4, 2) := by decide +kernel
theorem dL_law_398 : decode cL_law 398 = .ok (.aload 5, 2) := by decide +kernel
theorem dL_law_400 : decode cL_law 400 = .ok (.aload 6, 2) := by decide +kernel
theorem dL_law_402 : decode cL_law 402 = .ok (.aload 7, 2) := by decide +kernel
theorem dL_law_404 : decode cL_law 404 = .ok (.aload 8, 2) := by decide +kernel
theorem dL_law_406 : decode cL_law 406 = .ok (.aload 9, 2) := by decide +kernel
theorem dL_law_408 : decode cL_law 408 = .ok (.aload 10, 2) := by decide +kernel
theorem dL_law_410 : decode cL_law 410 = .ok (.aload 11, 2) := by decide +kernel
theorem dL_law_412 : decode cL_law 412 = .ok (.aload 12, 2) := by decide +kernel
theorem dL_law_414 : decode cL_law 414 = .ok (.aload 13, 2) := by decide +kernel
theorem dL_law_416 : decode cL_law 416 = .ok (.invokestatic 235, 3) := by decide +kernel
theorem dL_law_419 : decode cL_law 419 = .ok (.ifCond .ne 5, 3) := by decide +kernel
theorem dL_law_422 : decode cL_law 422 = .ok (.iconst 0, 1) := by decide +kernel
theorem dL_law_423 : decode cL_law 423 = .ok (.ireturn, 1) := by decide +kernel
theorem dL_law_424 : decode cL_law 424 = .ok (.iinc 14 1, 3) := by decide +kernel
theorem dL_law_427 : decode cL_law 427 = .ok (.goto (-297), 3) := by decide +kernel
theorem dL_law_430 : decode cL_law 430 = .ok (.iconst 1, 1) := by decide +kernel
theorem dL_law_431 : decode cL_law 431 = .ok (.ireturn, 1) := by decide +kernel

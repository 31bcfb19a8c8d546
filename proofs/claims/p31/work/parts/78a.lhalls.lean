/-! names of the law's calls and rows: 15h.lhalls -/
theorem dL_halls_0 : decode cL_halls 0 = .ok (.iload_n 1, 1) := by decide +kernel
theorem dL_halls_1 : decode cL_halls 1 = .ok (.iconst 4, 1) := by decide +kernel
theorem dL_halls_2 : decode cL_halls 2 = .ok (.if_icmp .ge 171, 3) := by decide +kernel
theorem dL_halls_5 : decode cL_halls 5 = .ok (.iload_n 2, 1) := by decide +kernel
theorem dL_halls_6 : decode cL_halls 6 = .ok (.iconst 4, 1) := by decide +kernel
theorem dL_halls_7 : decode cL_halls 7 = .ok (.invokestatic 145, 3) := by decide +kernel
theorem dL_halls_10 : decode cL_halls 10 = .ok (.istore 14, 2) := by decide +kernel
theorem dL_halls_12 : decode cL_halls 12 = .ok (.aload 5, 2) := by decide +kernel
theorem dL_halls_14 : decode cL_halls 14 = .ok (.iload 14, 2) := by decide +kernel
theorem dL_halls_16 : decode cL_halls 16 = .ok (.iaload, 1) := by decide +kernel
theorem dL_halls_17 : decode cL_halls 17 = .ok (.ifCond .ge 45, 3) := by decide +kernel
theorem dL_halls_20 : decode cL_halls 20 = .ok (.aload_n 0, 1) := by decide +kernel
theorem dL_halls_21 : decode cL_halls 21 = .ok (.iload 14, 2) := by decide +kernel
theorem dL_halls_23 : decode cL_halls 23 = .ok (.iconst 2, 1) := by decide +kernel
theorem dL_halls_24 : decode cL_halls 24 = .ok (.idiv, 1) := by decide +kernel
theorem dL_halls_25 : decode cL_halls 25 = .ok (.iload 14, 2) := by decide +kernel
theorem dL_halls_27 : decode cL_halls 27 = .ok (.iconst 2, 1) := by decide +kernel
theorem dL_halls_28 : decode cL_halls 28 = .ok (.irem, 1) := by decide +kernel
theorem dL_halls_29 : decode cL_halls 29 = .ok (.invokestatic 183, 3) := by decide +kernel
theorem dL_halls_32 : decode cL_halls 32 = .ok (.sipush (-7100), 3) := by decide +kernel
theorem dL_halls_35 : decode cL_halls 35 = .ok (.if_icmp .ne 25, 3) := by decide +kernel
theorem dL_halls_38 : decode cL_halls 38 = .ok (.aload_n 0, 1) := by decide +kernel
theorem dL_halls_39 : decode cL_halls 39 = .ok (.iload 14, 2) := by decide +kernel
theorem dL_halls_41 : decode cL_halls 41 = .ok (.iconst 2, 1) := by decide +kernel
theorem dL_halls_42 : decode cL_halls 42 = .ok (.idiv, 1) := by decide +kernel
theorem dL_halls_43 : decode cL_halls 43 = .ok (.iload 14, 2) := by decide +kernel
theorem dL_halls_45 : decode cL_halls 45 = .ok (.iconst 2, 1) := by decide +kernel
theorem dL_halls_46 : decode cL_halls 46 = .ok (.irem, 1) := by decide +kernel
theorem dL_halls_47 : decode cL_halls 47 = .ok (.invokestatic 185, 3) := by decide +kernel
theorem dL_halls_50 : decode cL_halls 50 = .ok (.sipush (-7100), 3) := by decide +kernel
theorem dL_halls_53 : decode cL_halls 53 = .ok (.if_icmp .ne 7, 3) := by decide +kernel
theorem dL_halls_56 : decode cL_halls 56 = .ok (.iconst 1, 1) := by decide +kernel
theorem dL_halls_57 : decode cL_halls 57 = .ok (.goto 4, 3) := by decide +kernel
theorem dL_halls_60 : decode cL_halls 60 = .ok (.iconst 0, 1) := by decide +kernel
theorem dL_halls_61 : decode cL_halls 61 = .ok (.ireturn, 1) := by decide +kernel
theorem dL_halls_62 : decode cL_halls 62 = .ok (.aload 4, 2) := by decide +kernel
theorem dL_halls_64 : decode cL_halls 64 = .ok (.aload 13, 2) := by decide +kernel
theorem dL_halls_66 : decode cL_halls 66 = .ok (.iload 14, 2) := by decide +kernel
theorem dL_halls_68 : decode cL_halls 68 = .ok (.iconst 2, 1) := by decide +kernel
theorem dL_halls_69 : decode cL_halls 69 = .ok (.idiv, 1) := by decide +kernel
theorem dL_halls_70 : decode cL_halls 70 = .ok (.invokestatic 106, 3) := by decide +kernel
theorem dL_halls_73 : decode cL_halls 73 = .ok (.ifCond .eq 36, 3) := by decide +kernel
theorem dL_halls_76 : decode cL_halls 76 = .ok (.aload 10, 2) := by decide +kernel
theorem dL_halls_78 : decode cL_halls 78 = .ok (.aload 13, 2) := by decide +kernel
theorem dL_halls_80 : decode cL_halls 80 = .ok (.iload 14, 2) := by decide +kernel
theorem dL_halls_82 : decode cL_halls 82 = .ok (.invokestatic 187, 3) := by decide +kernel
theorem dL_halls_85 : decode cL_halls 85 = .ok (.ifCond .ge 24, 3) := by decide +kernel
theorem dL_halls_88 : decode cL_halls 88 = .ok (.aload 4, 2) := by decide +kernel
theorem dL_halls_90 : decode cL_halls 90 = .ok (.aload 6, 2) := by decide +kernel
theorem dL_halls_92 : decode cL_halls 92 = .ok (.aload 7, 2) := by decide +kernel
theorem dL_halls_94 : decode cL_halls 94 = .ok (.aload 8, 2) := by decide +kernel
theorem dL_halls_96 : decode cL_halls 96 = .ok (.aload 9, 2) := by decide +kernel
theorem dL_halls_98 : decode cL_halls 98 = .ok (.aload 13, 2) := by decide +kernel
theorem dL_halls_100 : decode cL_halls 100 = .ok (.iload 14, 2) := by decide +kernel
theorem dL_halls_102 : decode cL_halls 102 = .ok (.iconst 0, 1) := by decide +kernel
theorem dL_halls_103 : decode cL_halls 103 = .ok (.invokestatic 141, 3) := by decide +kernel
theorem dL_halls_106 : decode cL_halls 106 = .ok (.ifCond .ge 27, 3) := by decide +kernel
theorem dL_halls_109 : decode cL_halls 109 = .ok (.aload_n 0, 1) := by decide +kernel
theorem dL_halls_110 : decode cL_halls 110 = .ok (.iload 14, 2) := by decide +kernel
theorem dL_halls_112 : decode cL_halls 112 = .ok (.iconst 2, 1) := by decide +kernel
theorem dL_halls_113 : decode cL_halls 113 = .ok (.idiv, 1) := by decide +kernel
theorem dL_halls_114 : decode cL_halls 114 = .ok (.iload 14, 2) := by decide +kernel
theorem dL_halls_116 : decode cL_halls 116 = .ok (.iconst 2, 1) := by decide +kernel
theorem dL_halls_117 : decode cL_halls 117 = .ok (.irem, 1) := by decide +kernel
theorem dL_halls_118 : decode cL_halls 118 = .ok (.invokestatic 183, 3) := by decide +kernel
theorem dL_halls_121 : decode cL_halls 121 = .ok (.sipush (-7300), 3) := by decide +kernel
theorem dL_halls_124 : decode cL_halls 124 = .ok (.if_icmp .ne 7, 3) := by decide +kernel
theorem dL_halls_127 : decode cL_halls 127 = .ok (.iconst 1, 1) := by decide +kernel
theorem dL_halls_128 : decode cL_halls 128 = .ok (.goto 4, 3) := by decide +kernel
theorem dL_halls_131 : decode cL_halls 131 = .ok (.iconst 0, 1) := by decide +kernel
theorem dL_halls_132 : decode cL_halls 132 = .ok (.ireturn, 1) := by decide +kernel
theorem dL_halls_133 : decode cL_halls 133 = .ok (.aload_n 0, 1) := by decide +kernel
theorem dL_halls_134 : decode cL_halls 134 = .ok (.iload 14, 2) := by decide +kernel
theorem dL_halls_136 : decode cL_halls 136 = .ok (.iconst 2, 1) := by decide +kernel
theorem dL_halls_137 : decode cL_halls 137 = .ok (.idiv, 1) := by decide +kernel
theorem dL_halls_138 : decode cL_halls 138 = .ok (.iload 14, 2) := by decide +kernel
theorem dL_halls_140 : decode cL_halls 140 = .ok (.iconst 2, 1) := by decide +kernel
theorem dL_halls_141 : decode cL_halls 141 = .ok (.irem, 1) := by decide +kernel
theorem dL_halls_142 : decode cL_halls 142 = .ok (.invokestatic 183, 3) := by decide +kernel
theorem dL_halls_145 : decode cL_halls 145 = .ok (.aload 4, 2) := by decide +kernel
theorem dL_halls_147 : decode cL_halls 147 = .ok (.aload 6, 2) := by decide +kernel
theorem dL_halls_149 : decode cL_halls 149 = .ok (.aload 7, 2) := by decide +kernel
theorem dL_halls_151 : decode cL_halls 151 = .ok (.aload 8, 2) := by decide +kernel
theorem dL_halls_153 : decode cL_halls 153 = .ok (.aload 9, 2) := by decide +kernel
theorem dL_halls_155 : decode cL_halls 155 = .ok (.aload 10, 2) := by decide +kernel
theorem dL_halls_157 : decode cL_halls 157 = .ok (.aload 13, 2) := by decide +kernel
theorem dL_halls_159 : decode cL_halls 159 = .ok (.iload 14, 2) := by decide +kernel
theorem dL_halls_161 : decode cL_halls 161 = .ok (.invokestatic 176, 3) := by decide +kernel
theorem dL_halls_164 : decode cL_halls 164 = .ok (.if_icmp .ne 7, 3) := by decide +kernel
theorem dL_halls_167 : decode cL_halls 167 = .ok (.iconst 1, 1) := by decide +kernel
theorem dL_halls_168 : decode cL_halls 168 = .ok (.goto 4, 3) := by decide +kernel
theorem dL_halls_171 : decode cL_halls 171 = .ok (.iconst 0, 1) := by decide +kernel
theorem dL_halls_172 : decode cL_halls 172 = .ok (.ireturn, 1) := by decide +kernel
theorem dL_halls_173 : decode cL_halls 173 = .ok (.iload_n 2, 1) := by decide +kernel
theorem dL_halls_174 : decode cL_halls 174 = .ok (.aload 13, 2) := by decide +kernel
theorem dL_halls_176 : decode cL_halls 176 = .ok (.iconst 4, 1) := by decide +kernel
theorem dL_halls_177 : decode cL_halls 177 = .ok (.iaload, 1) := by decide +kernel
theorem dL_halls_178 : decode cL_halls 178 = .ok (.iconst 1, 1) := by decide +kernel
theorem dL_halls_179 : decode cL_halls 179 = .ok (.iadd, 1) := by decide +kernel
theorem dL_halls_180 : decode cL_halls 180 = .ok (.invokestatic 145, 3) := by decide +kernel
theorem dL_halls_183 : decode cL_halls 183 = .ok (.istore 14, 2) := by decide +kernel
theorem dL_halls_185 : decode cL_halls 185 = .ok (.iconst 0, 1) := by decide +kernel
theorem dL_halls_186 : decode cL_halls 186 = .ok (.istore 15, 2) := by decide +kernel
theorem dL_halls_188 : decode cL_halls 188 = .ok (.iload 15, 2) := by decide +kernel
theorem dL_halls_190 : decode cL_halls 190 = .ok (.aload 13, 2) := by decide +kernel
theorem dL_halls_192 : decode cL_halls 192 = .ok (.iconst 4, 1) := by decide +kernel
theorem dL_halls_193 : decode cL_halls 193 = .ok (.iaload, 1) := by decide +kernel
theorem dL_halls_194 : decode cL_halls 194 = .ok (.if_icmp .ge 47, 3) := by decide +kernel
theorem dL_halls_197 : decode cL_halls 197 = .ok (.iload_n 2, 1) := by decide +kernel
theorem dL_halls_198 : decode cL_halls 198 = .ok (.sipush 768, 3) := by decide +kernel
theorem dL_halls_201 : decode cL_halls 201 = .ok (.iand, 1) := by decide +kernel
theorem dL_halls_202 : decode cL_halls 202 = .ok (.ifCond .le 39, 3) := by decide +kernel
theorem dL_halls_205 : decode cL_halls 205 = .ok (.iload 14, 2) := by decide +kernel
theorem dL_halls_207 : decode cL_halls 207 = .ok (.aload 13, 2) := by decide +kernel
theorem dL_halls_209 : decode cL_halls 209 = .ok (.iconst 4, 1) := by decide +kernel
theorem dL_halls_210 : decode cL_halls 210 = .ok (.iaload, 1) := by decide +kernel
theorem dL_halls_211 : decode cL_halls 211 = .ok (.if_icmp .eq 13, 3) := by decide +kernel
theorem dL_halls_214 : decode cL_halls 214 = .ok (.aload 10, 2) := by decide +kernel
theorem dL_halls_216 : decode cL_halls 216 = .ok (.iload 14, 2) := by decide +kernel
theorem dL_halls_218 : decode cL_halls 218 = .ok (.invokestatic 130, 3) := by decide +kernel
theorem dL_halls_221 : decode cL_halls 221 = .ok (.ifCond .eq 20, 3) := by decide +kernel
theorem dL_halls_224 : decode cL_halls 224 = .ok (.iload 14, 2) := by decide +kernel
theorem dL_halls_226 : decode cL_halls 226 = .ok (.iconst 1, 1) := by decide +kernel
theorem dL_halls_227 : decode cL_halls 227 = .ok (.iadd, 1) := by decide +kernel
theorem dL_halls_228 : decode cL_halls 228 = .ok (.aload 13, 2) := by decide +kernel
theorem dL_halls_230 : decode cL_halls 230 = .ok (.iconst 4, 1) := by decide +kernel
theorem dL_halls_231 : decode cL_halls 231 = .ok (.iaload, 1) := by decide +kernel
theorem dL_halls_232 : decode cL_halls 232 = .ok (.irem, 1) := by decide +kernel
theorem dL_halls_233 : decode cL_halls 233 = .ok (.istore 14, 2) := by decide +kernel
theorem dL_halls_235 : decode cL_halls 235 = .ok (.iinc 15 1, 3) := by decide +kernel
theorem dL_halls_238 : decode cL_halls 238 = .ok (.goto (-50), 3) := by decide +kernel
theorem dL_halls_241 : decode cL_halls 241 = .ok (.iload_n 1, 1) := by decide +kernel
theorem dL_halls_242 : decode cL_halls 242 = .ok (.bipush 9, 2) := by decide +kernel
theorem dL_halls_244 : decode cL_halls 244 = .ok (.if_icmp .ge 389, 3) := by decide +kernel
theorem dL_halls_247 : decode cL_halls 247 = .ok (.iload_n 3, 1) := by decide +kernel
theorem dL_halls_248 : decode cL_halls 248 = .ok (.iconst 4, 1) := by decide +kernel
theorem dL_halls_249 : decode cL_halls 249 = .ok (.invokestatic 145, 3) := by decide +kernel
theorem dL_halls_252 : decode cL_halls 252 = .ok (.istore 15, 2) := by decide +kernel
theorem dL_halls_254 : decode cL_halls 254 = .ok (.iload_n 3, 1) := by decide +kernel
theorem dL_halls_255 : decode cL_halls 255 = .ok (.iconst 3, 1) := by decide +kernel
theorem dL_halls_256 : decode cL_halls 256 = .ok (.ishr, 1) := by decide +kernel
theorem dL_halls_257 : decode cL_halls 257 = .ok (.iconst 3, 1) := by decide +kernel
theorem dL_halls_258 : decode cL_halls 258 = .ok (.invokestatic 145, 3) := by decide +kernel
theorem dL_halls_261 : decode cL_halls 261 = .ok (.istore 16, 2) := by decide +kernel
theorem dL_halls_263 : decode cL_halls 263 = .ok (.iload 14, 2) := by decide +kernel
theorem dL_halls_265 : decode cL_halls 265 = .ok (.aload 13, 2) := by decide +kernel
theorem dL_halls_267 : decode cL_halls 267 = .ok (.iconst 4, 1) := by decide +kernel
theorem dL_halls_268 : decode cL_halls 268 = .ok (.iaload, 1) := by decide +kernel
theorem dL_halls_269 : decode cL_halls 269 = .ok (.if_icmp .ne 50, 3) := by decide +kernel
theorem dL_halls_272 : decode cL_halls 272 = .ok (.aload_n 0, 1) := by decide +kernel
theorem dL_halls_273 : decode cL_halls 273 = .ok (.iload 15, 2) := by decide +kernel
theorem dL_halls_275 : decode cL_halls 275 = .ok (.iload 14, 2) := by decide +kernel
theorem dL_halls_277 : decode cL_halls 277 = .ok (.iconst 3, 1) := by decide +kernel
theorem dL_halls_278 : decode cL_halls 278 = .ok (.invokestatic 190, 3) := by decide +kernel
theorem dL_halls_281 : decode cL_halls 281 = .ok (.sipush (-7100), 3) := by decide +kernel
theorem dL_halls_284 : decode cL_halls 284 = .ok (.if_icmp .ne 33, 3) := by decide +kernel
theorem dL_halls_287 : decode cL_halls 287 = .ok (.aload_n 0, 1) := by decide +kernel
theorem dL_halls_288 : decode cL_halls 288 = .ok (.bipush 8, 2) := by decide +kernel
theorem dL_halls_290 : decode cL_halls 290 = .ok (.iconst 0, 1) := by decide +kernel
theorem dL_halls_291 : decode cL_halls 291 = .ok (.iconst 0, 1) := by decide +kernel
theorem dL_halls_292 : decode cL_halls 292 = .ok (.invokestatic 190, 3) := by decide +kernel
theorem dL_halls_295 : decode cL_halls 295 = .ok (.sipush (-7100), 3) := by decide +kernel
theorem dL_halls_298 : decode cL_halls 298 = .ok (.if_icmp .ne 19, 3) := by decide +kernel
theorem dL_halls_301 : decode cL_halls 301 = .ok (.aload_n 0, 1) := by decide +kernel
theorem dL_halls_302 : decode cL_halls 302 = .ok (.iload 14, 2) := by decide +kernel
theorem dL_halls_304 : decode cL_halls 304 = .ok (.invokestatic 192, 3) := by decide +kernel
theorem dL_halls_307 : decode cL_halls 307 = .ok (.sipush (-7100), 3) := by decide +kernel
theorem dL_halls_310 : decode cL_halls 310 = .ok (.if_icmp .ne 7, 3) := by decide +kernel
theorem dL_halls_313 : decode cL_halls 313 = .ok (.iconst 1, 1) := by decide +kernel
theorem dL_halls_314 : decode cL_halls 314 = .ok (.goto 4, 3) := by decide +kernel
theorem dL_halls_317 : decode cL_halls 317 = .ok (.iconst 0, 1) := by decide +kernel
theorem dL_halls_318 : decode cL_halls 318 = .ok (.ireturn, 1) := by decide +kernel
theorem dL_halls_319 : decode cL_halls 319 = .ok (.aload_n 0, 1) := by decide +kernel
theorem dL_halls_320 : decode cL_halls 320 = .ok (.bipush 8, 2) := by decide +kernel
theorem dL_halls_322 : decode cL_halls 322 = .ok (.iload 14, 2) := by decide +kernel
theorem dL_halls_324 : decode cL_halls 324 = .ok (.iconst (-1), 1) := by decide +kernel
theorem dL_halls_325 : decode cL_halls 325 = .ok (.invokestatic 190, 3) := by decide +kernel
theorem dL_halls_328 : decode cL_halls 328 = .ok (.sipush (-7100), 3) := by decide +kernel
theorem dL_halls_331 : decode cL_halls 331 = .ok (.if_icmp .ne 33, 3) := by decide +kernel
theorem dL_halls_334 : decode cL_halls 334 = .ok (.aload_n 0, 1) := by decide +kernel
theorem dL_halls_335 : decode cL_halls 335 = .ok (.iload 15, 2) := by decide +kernel
theorem dL_halls_337 : decode cL_halls 337 = .ok (.iload 14, 2) := by decide +kernel
theorem dL_halls_339 : decode cL_halls 339 = .ok (.iconst 3, 1) := by decide +kernel
theorem dL_halls_340 : decode cL_halls 340 = .ok (.invokestatic 190, 3) := by decide +kernel
theorem dL_halls_343 : decode cL_halls 343 = .ok (.sipush (-7200), 3) := by decide +kernel
theorem dL_halls_346 : decode cL_halls 346 = .ok (.if_icmp .ne 18, 3) := by decide +kernel
theorem dL_halls_349 : decode cL_halls 349 = .ok (.aload_n 0, 1) := by decide +kernel
theorem dL_halls_350 : decode cL_halls 350 = .ok (.iload 15, 2) := by decide +kernel
theorem dL_halls_352 : decode cL_halls 352 = .ok (.iload 14, 2) := by decide +kernel
theorem dL_halls_354 : decode cL_halls 354 = .ok (.iconst (-1), 1) := by decide +kernel
theorem dL_halls_355 : decode cL_halls 355 = .ok (.invokestatic 190, 3) := by decide +kernel
theorem dL_halls_358 : decode cL_halls 358 = .ok (.sipush (-7200), 3) := by decide +kernel
theorem dL_halls_361 : decode cL_halls 361 = .ok (.if_icmp .eq 5, 3) := by decide +kernel
theorem dL_halls_364 : decode cL_halls 364 = .ok (.iconst 0, 1) := by decide +kernel
theorem dL_halls_365 : decode cL_halls 365 = .ok (.ireturn, 1) := by decide +kernel
theorem dL_halls_366 : decode cL_halls 366 = .ok (.iconst 4, 1) := by decide +kernel
theorem dL_halls_367 : decode cL_halls 367 = .ok (.aload 10, 2) := by decide +kernel
theorem dL_halls_369 : decode cL_halls 369 = .ok (.iload 14, 2) := by decide +kernel
theorem dL_halls_371 : decode cL_halls 371 = .ok (.iaload, 1) := by decide +kernel
theorem dL_halls_372 : decode cL_halls 372 = .ok (.iconst 3, 1) := by decide +kernel
theorem dL_halls_373 : decode cL_halls 373 = .ok (.iand, 1) := by decide +kernel
theorem dL_halls_374 : decode cL_halls 374 = .ok (.imul, 1) := by decide +kernel
theorem dL_halls_375 : decode cL_halls 375 = .ok (.iload 15, 2) := by decide +kernel
theorem dL_halls_377 : decode cL_halls 377 = .ok (.iadd, 1) := by decide +kernel
theorem dL_halls_378 : decode cL_halls 378 = .ok (.istore 17, 2) := by decide +kernel
theorem dL_halls_380 : decode cL_halls 380 = .ok (.aload 8, 2) := by decide +kernel
theorem dL_halls_382 : decode cL_halls 382 = .ok (.iload 17, 2) := by decide +kernel
theorem dL_halls_384 : decode cL_halls 384 = .ok (.iaload, 1) := by decide +kernel
theorem dL_halls_385 : decode cL_halls 385 = .ok (.iconst 1, 1) := by decide +kernel
theorem dL_halls_386 : decode cL_halls 386 = .ok (.if_icmp .ne 7, 3) := by decide +kernel
theorem dL_halls_389 : decode cL_halls 389 = .ok (.iconst 1, 1) := by decide +kernel
theorem dL_halls_390 : decode cL_halls 390 = .ok (.goto 4, 3) := by decide +kernel
theorem dL_halls_393 : decode cL_halls 393 = .ok (.iconst 0, 1) := by decide +kernel
theorem dL_halls_394 : decode cL_halls 394 = .ok (.istore 18, 2) := by decide +kernel
theorem dL_halls_396 : decode cL_halls 396 = .ok (.iconst 0, 1) := by decide +kernel
theorem dL_halls_397 : decode cL_halls 397 = .ok (.istore 19, 2) := by decide +kernel
theorem dL_halls_399 : decode cL_halls 399 = .ok (.iload 19, 2) := by decide +kernel
theorem dL_halls_401 : decode cL_halls 401 = .ok (.aload 13, 2) := by decide +kernel
theorem dL_halls_403 : decode cL_halls 403 = .ok (.iconst 3, 1) := by decide +kernel
theorem dL_halls_404 : decode cL_halls 404 = .ok (.iaload, 1) := by decide +kernel
theorem dL_halls_405 : decode cL_halls 405 = .ok (.if_icmp .ge 33, 3) := by decide +kernel
theorem dL_halls_408 : decode cL_halls 408 = .ok (.iload 18, 2) := by decide +kernel
theorem dL_halls_410 : decode cL_halls 410 = .ok (.aload 9, 2) := by decide +kernel
theorem dL_halls_412 : decode cL_halls 412 = .ok (.iload 19, 2) := by decide +kernel
theorem dL_halls_414 : decode cL_halls 414 = .ok (.iaload, 1) := by decide +kernel
theorem dL_halls_415 : decode cL_halls 415 = .ok (.iconst 2, 1) := by decide +kernel
theorem dL_halls_416 : decode cL_halls 416 = .ok (.iconst 4, 1) := by decide +kernel
theorem dL_halls_417 : decode cL_halls 417 = .ok (.iload 17, 2) := by decide +kernel
theorem dL_halls_419 : decode cL_halls 419 = .ok (.imul, 1) := by decide +kernel
theorem dL_halls_420 : decode cL_halls 420 = .ok (.iadd, 1) := by decide +kernel
theorem dL_halls_421 : decode cL_halls 421 = .ok (.if_icmp .eq 7, 3) := by decide +kernel
theorem dL_halls_424 : decode cL_halls 424 = .ok (.iconst 1, 1) := by decide +kernel
theorem dL_halls_425 : decode cL_halls 425 = .ok (.goto 4, 3) := by decide +kernel
theorem dL_halls_428 : decode cL_halls 428 = .ok (.iconst 0, 1) := by decide +kernel
theorem dL_halls_429 : decode cL_halls 429 = .ok (.iand, 1) := by decide +kernel
theorem dL_halls_430 : decode cL_halls 430 = .ok (.istore 18, 2) := by decide +kernel
theorem dL_halls_432 : decode cL_halls 432 = .ok (.iinc 19 1, 3) := by decide +kernel
theorem dL_halls_435 : decode cL_halls 435 = .ok (.goto (-36), 3) := by decide +kernel
theorem dL_halls_438 : decode cL_halls 438 = .ok (.aload 10, 2) := by decide +kernel
theorem dL_halls_440 : decode cL_halls 440 = .ok (.iload 14, 2) := by decide +kernel
theorem dL_halls_442 : decode cL_halls 442 = .ok (.invokestatic 130, 3) := by decide +kernel
theorem dL_halls_445 : decode cL_halls 445 = .ok (.ifCond .ne 56, 3) := by decide +kernel
theorem dL_halls_448 : decode cL_halls 448 = .ok (.aload 13, 2) := by decide +kernel
theorem dL_halls_450 : decode cL_halls 450 = .ok (.iconst 0, 1) := by decide +kernel
theorem dL_halls_451 : decode cL_halls 451 = .ok (.iaload, 1) := by decide +kernel
theorem dL_halls_452 : decode cL_halls 452 = .ok (.aload 4, 2) := by decide +kernel
theorem dL_halls_454 : decode cL_halls 454 = .ok (.aload 10, 2) := by decide +kernel
theorem dL_halls_456 : decode cL_halls 456 = .ok (.iload 14, 2) := by decide +kernel
theorem dL_halls_458 : decode cL_halls 458 = .ok (.invokestatic 138, 3) := by decide +kernel
theorem dL_halls_461 : decode cL_halls 461 = .ok (.if_icmp .ge 40, 3) := by decide +kernel
theorem dL_halls_464 : decode cL_halls 464 = .ok (.aload 6, 2) := by decide +kernel
theorem dL_halls_466 : decode cL_halls 466 = .ok (.iload 17, 2) := by decide +kernel
theorem dL_halls_468 : decode cL_halls 468 = .ok (.iaload, 1) := by decide +kernel
theorem dL_halls_469 : decode cL_halls 469 = .ok (.ifCond .le 32, 3) := by decide +kernel
theorem dL_halls_472 : decode cL_halls 472 = .ok (.aload 10, 2) := by decide +kernel
theorem dL_halls_474 : decode cL_halls 474 = .ok (.iload 14, 2) := by decide +kernel
theorem dL_halls_476 : decode cL_halls 476 = .ok (.iaload, 1) := by decide +kernel
theorem dL_halls_477 : decode cL_halls 477 = .ok (.iconst 2, 1) := by decide +kernel
theorem dL_halls_478 : decode cL_halls 478 = .ok (.ishr, 1) := by decide +kernel
theorem dL_halls_479 : decode cL_halls 479 = .ok (.iconst 3, 1) := by decide +kernel
theorem dL_halls_480 : decode cL_halls 480 = .ok (.iand, 1) := by decide +kernel
theorem dL_halls_481 : decode cL_halls 481 = .ok (.iload 15, 2) := by decide +kernel
theorem dL_halls_483 : decode cL_halls 483 = .ok (.if_icmp .eq 18, 3) := by decide +kernel
theorem dL_halls_486 : decode cL_halls 486 = .ok (.iload 16, 2) := by decide +kernel
theorem dL_halls_488 : decode cL_halls 488 = .ok (.iconst 2, 1) := by decide +kernel
theorem dL_halls_489 : decode cL_halls 489 = .ok (.if_icmp .lt 8, 3) := by decide +kernel
theorem dL_halls_492 : decode cL_halls 492 = .ok (.iload 18, 2) := by decide +kernel
theorem dL_halls_494 : decode cL_halls 494 = .ok (.ifCond .eq 7, 3) := by decide +kernel
theorem dL_halls_497 : decode cL_halls 497 = .ok (.iconst 1, 1) := by decide +kernel
theorem dL_halls_498 : decode cL_halls 498 = .ok (.goto 4, 3) := by decide +kernel
theorem dL_halls_501 : decode cL_halls 501 = .ok (.iconst 0, 1) := by decide +kernel
theorem dL_halls_502 : decode cL_halls 502 = .ok (.istore 19, 2) := by decide +kernel
theorem dL_halls_504 : decode cL_halls 504 = .ok (.iconst 0, 1) := by decide +kernel
theorem dL_halls_505 : decode cL_halls 505 = .ok (.istore 20, 2) := by decide +kernel
theorem dL_halls_507 : decode cL_halls 507 = .ok (.iload 20, 2) := by decide +kernel
theorem dL_halls_509 : decode cL_halls 509 = .ok (.aload 13, 2) := by decide +kernel
theorem dL_halls_511 : decode cL_halls 511 = .ok (.iconst 5, 1) := by decide +kernel
theorem dL_halls_512 : decode cL_halls 512 = .ok (.iaload, 1) := by decide +kernel
theorem dL_halls_513 : decode cL_halls 513 = .ok (.if_icmp .ge 38, 3) := by decide +kernel
theorem dL_halls_516 : decode cL_halls 516 = .ok (.iload 19, 2) := by decide +kernel
theorem dL_halls_518 : decode cL_halls 518 = .ok (.aload 11, 2) := by decide +kernel
theorem dL_halls_520 : decode cL_halls 520 = .ok (.iload 20, 2) := by decide +kernel
theorem dL_halls_522 : decode cL_halls 522 = .ok (.iaload, 1) := by decide +kernel
theorem dL_halls_523 : decode cL_halls 523 = .ok (.bipush 127, 2) := by decide +kernel
theorem dL_halls_525 : decode cL_halls 525 = .ok (.iand, 1) := by decide +kernel
theorem dL_halls_526 : decode cL_halls 526 = .ok (.iload 14, 2) := by decide +kernel
theorem dL_halls_528 : decode cL_halls 528 = .ok (.bipush 32, 2) := by decide +kernel
theorem dL_halls_530 : decode cL_halls 530 = .ok (.iload 15, 2) := by decide +kernel
theorem dL_halls_532 : decode cL_halls 532 = .ok (.imul, 1) := by decide +kernel
theorem dL_halls_533 : decode cL_halls 533 = .ok (.iadd, 1) := by decide +kernel
theorem dL_halls_534 : decode cL_halls 534 = .ok (.if_icmp .eq 7, 3) := by decide +kernel
theorem dL_halls_537 : decode cL_halls 537 = .ok (.iconst 1, 1) := by decide +kernel
theorem dL_halls_538 : decode cL_halls 538 = .ok (.goto 4, 3) := by decide +kernel
theorem dL_halls_541 : decode cL_halls 541 = .ok (.iconst 0, 1) := by decide +kernel
theorem dL_halls_542 : decode cL_halls 542 = .ok (.iand, 1) := by decide +kernel
theorem dL_halls_543 : decode cL_halls 543 = .ok (.istore 19, 2) := by decide +kernel
theorem dL_halls_545 : decode cL_halls 545 = .ok (.iinc 20 1, 3) := by decide +kernel
theorem dL_halls_548 : decode cL_halls 548 = .ok (.goto (-41), 3) := by decide +kernel
theorem dL_halls_551 : decode cL_halls 551 = .ok (.iload 19, 2) := by decide +kernel
theorem dL_halls_553 : decode cL_halls 553 = .ok (.ifCond .ne 25, 3) := by decide +kernel
theorem dL_halls_556 : decode cL_halls 556 = .ok (.aload_n 0, 1) := by decide +kernel
theorem dL_halls_557 : decode cL_halls 557 = .ok (.iload 15, 2) := by decide +kernel
theorem dL_halls_559 : decode cL_halls 559 = .ok (.iload 14, 2) := by decide +kernel
theorem dL_halls_561 : decode cL_halls 561 = .ok (.iload 16, 2) := by decide +kernel
theorem dL_halls_563 : decode cL_halls 563 = .ok (.invokestatic 190, 3) := by decide +kernel
theorem dL_halls_566 : decode cL_halls 566 = .ok (.sipush (-7300), 3) := by decide +kernel
theorem dL_halls_569 : decode cL_halls 569 = .ok (.if_icmp .ne 7, 3) := by decide +kernel
theorem dL_halls_572 : decode cL_halls 572 = .ok (.iconst 1, 1) := by decide +kernel
theorem dL_halls_573 : decode cL_halls 573 = .ok (.goto 4, 3) := by decide +kernel
theorem dL_halls_576 : decode cL_halls 576 = .ok (.iconst 0, 1) := by decide +kernel
theorem dL_halls_577 : decode cL_halls 577 = .ok (.ireturn, 1) := by decide +kernel
theorem dL_halls_578 : decode cL_halls 578 = .ok (.aload 11, 2) := by decide +kernel
theorem dL_halls_580 : decode cL_halls 580 = .ok (.aload 13, 2) := by decide +kernel
theorem dL_halls_582 : decode cL_halls 582 = .ok (.iconst 5, 1) := by decide +kernel
theorem dL_halls_583 : decode cL_halls 583 = .ok (.iaload, 1) := by decide +kernel
theorem dL_halls_584 : decode cL_halls 584 = .ok (.iload 14, 2) := by decide +kernel
theorem dL_halls_586 : decode cL_halls 586 = .ok (.bipush 32, 2) := by decide +kernel
theorem dL_halls_588 : decode cL_halls 588 = .ok (.iload 15, 2) := by decide +kernel
theorem dL_halls_590 : decode cL_halls 590 = .ok (.imul, 1) := by decide +kernel
theorem dL_halls_591 : decode cL_halls 591 = .ok (.iadd, 1) := by decide +kernel
theorem dL_halls_592 : decode cL_halls 592 = .ok (.sipush 128, 3) := by decide +kernel
theorem dL_halls_595 : decode cL_halls 595 = .ok (.iload 16, 2) := by decide +kernel
theorem dL_halls_597 : decode cL_halls 597 = .ok (.imul, 1) := by decide +kernel
theorem dL_halls_598 : decode cL_halls 598 = .ok (.iadd, 1) := by decide +kernel
theorem dL_halls_599 : decode cL_halls 599 = .ok (.iastore, 1) := by decide +kernel
theorem dL_halls_600 : decode cL_halls 600 = .ok (.aload 13, 2) := by decide +kernel
theorem dL_halls_602 : decode cL_halls 602 = .ok (.iconst 5, 1) := by decide +kernel
theorem dL_halls_603 : decode cL_halls 603 = .ok (.dup2, 1) := by decide +kernel
theorem dL_halls_604 : decode cL_halls 604 = .ok (.iaload, 1) := by decide +kernel
theorem dL_halls_605 : decode cL_halls 605 = .ok (.iconst 1, 1) := by decide +kernel
theorem dL_halls_606 : decode cL_halls 606 = .ok (.iadd, 1) := by decide +kernel
theorem dL_halls_607 : decode cL_halls 607 = .ok (.iastore, 1) := by decide +kernel
theorem dL_halls_608 : decode cL_halls 608 = .ok (.aload_n 0, 1) := by decide +kernel
theorem dL_halls_609 : decode cL_halls 609 = .ok (.iload 15, 2) := by decide +kernel
theorem dL_halls_611 : decode cL_halls 611 = .ok (.iload 14, 2) := by decide +kernel
theorem dL_halls_613 : decode cL_halls 613 = .ok (.iload 16, 2) := by decide +kernel
theorem dL_halls_615 : decode cL_halls 615 = .ok (.invokestatic 190, 3) := by decide +kernel
theorem dL_halls_618 : decode cL_halls 618 = .ok (.aload 13, 2) := by decide +kernel
theorem dL_halls_620 : decode cL_halls 620 = .ok (.iconst 5, 1) := by decide +kernel
theorem dL_halls_621 : decode cL_halls 621 = .ok (.iaload, 1) := by decide +kernel
theorem dL_halls_622 : decode cL_halls 622 = .ok (.iconst 1, 1) := by decide +kernel
theorem dL_halls_623 : decode cL_halls 623 = .ok (.isub, 1) := by decide +kernel
theorem dL_halls_624 : decode cL_halls 624 = .ok (.if_icmp .ne 7, 3) := by decide +kernel
theorem dL_halls_627 : decode cL_halls 627 = .ok (.iconst 1, 1) := by decide +kernel
theorem dL_halls_628 : decode cL_halls 628 = .ok (.goto 4, 3) := by decide +kernel
theorem dL_halls_631 : decode cL_halls 631 = .ok (.iconst 0, 1) := by decide +kernel
theorem dL_halls_632 : decode cL_halls 632 = .ok (.ireturn, 1) := by decide +kernel
theorem dL_halls_633 : decode cL_halls 633 = .ok (.iload_n 2, 1) := by decide +kernel
theorem dL_halls_634 : decode cL_halls 634 = .ok (.aload 13, 2) := by decide +kernel
theorem dL_halls_636 : decode cL_halls 636 = .ok (.iconst 5, 1) := by decide +kernel
theorem dL_halls_637 : decode cL_halls 637 = .ok (.iaload, 1) := by decide +kernel
theorem dL_halls_638 : decode cL_halls 638 = .ok (.iconst 1, 1) := by decide +kernel
theorem dL_halls_639 : decode cL_halls 639 = .ok (.iadd, 1) := by decide +kernel
theorem dL_halls_640 : decode cL_halls 640 = .ok (.invokestatic 145, 3) := by decide +kernel
theorem dL_halls_643 : decode cL_halls 643 = .ok (.istore 15, 2) := by decide +kernel
theorem dL_halls_645 : decode cL_halls 645 = .ok (.iconst 0, 1) := by decide +kernel
theorem dL_halls_646 : decode cL_halls 646 = .ok (.istore 16, 2) := by decide +kernel
theorem dL_halls_648 : decode cL_halls 648 = .ok (.iload 16, 2) := by decide +kernel
theorem dL_halls_650 : decode cL_halls 650 = .ok (.aload 13, 2) := by decide +kernel
theorem dL_halls_652 : decode cL_halls 652 = .ok (.iconst 5, 1) := by decide +kernel
theorem dL_halls_653 : decode cL_halls 653 = .ok (.iaload, 1) := by decide +kernel
theorem dL_halls_654 : decode cL_halls 654 = .ok (.if_icmp .ge 61, 3) := by decide +kernel
theorem dL_halls_657 : decode cL_halls 657 = .ok (.iload_n 2, 1) := by decide +kernel
theorem dL_halls_658 : decode cL_halls 658 = .ok (.sipush 768, 3) := by decide +kernel
theorem dL_halls_661 : decode cL_halls 661 = .ok (.iand, 1) := by decide +kernel
theorem dL_halls_662 : decode cL_halls 662 = .ok (.ifCond .le 53, 3) := by decide +kernel
theorem dL_halls_665 : decode cL_halls 665 = .ok (.iload 15, 2) := by decide +kernel
theorem dL_halls_667 : decode cL_halls 667 = .ok (.aload 13, 2) := by decide +kernel
theorem dL_halls_669 : decode cL_halls 669 = .ok (.iconst 5, 1) := by decide +kernel
theorem dL_halls_670 : decode cL_halls 670 = .ok (.iaload, 1) := by decide +kernel
theorem dL_halls_671 : decode cL_halls 671 = .ok (.if_icmp .eq 27, 3) := by decide +kernel
theorem dL_halls_674 : decode cL_halls 674 = .ok (.aload 11, 2) := by decide +kernel
theorem dL_halls_676 : decode cL_halls 676 = .ok (.iload 15, 2) := by decide +kernel
theorem dL_halls_678 : decode cL_halls 678 = .ok (.iaload, 1) := by decide +kernel
theorem dL_halls_679 : decode cL_halls 679 = .ok (.bipush 9, 2) := by decide +kernel
theorem dL_halls_681 : decode cL_halls 681 = .ok (.ishr, 1) := by decide +kernel
theorem dL_halls_682 : decode cL_halls 682 = .ok (.iconst 3, 1) := by decide +kernel
theorem dL_halls_683 : decode cL_halls 683 = .ok (.iand, 1) := by decide +kernel
theorem dL_halls_684 : decode cL_halls 684 = .ok (.iload_n 1, 1) := by decide +kernel
theorem dL_halls_685 : decode cL_halls 685 = .ok (.bipush 14, 2) := by decide +kernel
theorem dL_halls_687 : decode cL_halls 687 = .ok (.if_icmp .ge 7, 3) := by decide +kernel
theorem dL_halls_690 : decode cL_halls 690 = .ok (.iconst 0, 1) := by decide +kernel
theorem dL_halls_691 : decode cL_halls 691 = .ok (.goto 4, 3) := by decide +kernel
theorem dL_halls_694 : decode cL_halls 694 = .ok (.iconst 2, 1) := by decide +kernel
theorem dL_halls_695 : decode cL_halls 695 = .ok (.if_icmp .eq 20, 3) := by decide +kernel
theorem dL_halls_698 : decode cL_halls 698 = .ok (.iload 15, 2) := by decide +kernel
theorem dL_halls_700 : decode cL_halls 700 = .ok (.iconst 1, 1) := by decide +kernel
theorem dL_halls_701 : decode cL_halls 701 = .ok (.iadd, 1) := by decide +kernel
theorem dL_halls_702 : decode cL_halls 702 = .ok (.aload 13, 2) := by decide +kernel
theorem dL_halls_704 : decode cL_halls 704 = .ok (.iconst 5, 1) := by decide +kernel
theorem dL_halls_705 : decode cL_halls 705 = .ok (.iaload, 1) := by decide +kernel
theorem dL_halls_706 : decode cL_halls 706 = .ok (.irem, 1) := by decide +kernel
theorem dL_halls_707 : decode cL_halls 707 = .ok (.istore 15, 2) := by decide +kernel
theorem dL_halls_709 : decode cL_halls 709 = .ok (.iinc 16 1, 3) := by decide +kernel
theorem dL_halls_712 : decode cL_halls 712 = .ok (.goto (-64), 3) := by decide +kernel
theorem dL_halls_715 : decode cL_halls 715 = .ok (.iload_n 1, 1) := by decide +kernel
theorem dL_halls_716 : decode cL_halls 716 = .ok (.bipush 16, 2) := by decide +kernel
theorem dL_halls_718 : decode cL_halls 718 = .ok (.if_icmp .ge 55, 3) := by decide +kernel
theorem dL_halls_721 : decode cL_halls 721 = .ok (.iload 15, 2) := by decide +kernel
theorem dL_halls_723 : decode cL_halls 723 = .ok (.aload 13, 2) := by decide +kernel
theorem dL_halls_725 : decode cL_halls 725 = .ok (.iconst 5, 1) := by decide +kernel
theorem dL_halls_726 : decode cL_halls 726 = .ok (.iaload, 1) := by decide +kernel
theorem dL_halls_727 : decode cL_halls 727 = .ok (.if_icmp .ne 46, 3) := by decide +kernel
theorem dL_halls_730 : decode cL_halls 730 = .ok (.aload_n 0, 1) := by decide +kernel
theorem dL_halls_731 : decode cL_halls 731 = .ok (.iload 15, 2) := by decide +kernel
theorem dL_halls_733 : decode cL_halls 733 = .ok (.iconst 1, 1) := by decide +kernel
theorem dL_halls_734 : decode cL_halls 734 = .ok (.iconst (-1), 1) := by decide +kernel
theorem dL_halls_735 : decode cL_halls 735 = .ok (.invokestatic 194, 3) := by decide +kernel
theorem dL_halls_738 : decode cL_halls 738 = .ok (.sipush (-7100), 3) := by decide +kernel
theorem dL_halls_741 : decode cL_halls 741 = .ok (.if_icmp .ne 30, 3) := by decide +kernel
theorem dL_halls_744 : decode cL_halls 744 = .ok (.aload_n 0, 1) := by decide +kernel
theorem dL_halls_745 : decode cL_halls 745 = .ok (.iload 15, 2) := by decide +kernel
theorem dL_halls_747 : decode cL_halls 747 = .ok (.invokestatic 197, 3) := by decide +kernel
theorem dL_halls_750 : decode cL_halls 750 = .ok (.sipush (-7100), 3) := by decide +kernel
theorem dL_halls_753 : decode cL_halls 753 = .ok (.if_icmp .ne 18, 3) := by decide +kernel
theorem dL_halls_756 : decode cL_halls 756 = .ok (.aload_n 0, 1) := by decide +kernel
theorem dL_halls_757 : decode cL_halls 757 = .ok (.iconst (-1), 1) := by decide +kernel
theorem dL_halls_758 : decode cL_halls 758 = .ok (.invokestatic 199, 3) := by decide +kernel
theorem dL_halls_761 : decode cL_halls 761 = .ok (.sipush (-7100), 3) := by decide +kernel
theorem dL_halls_764 : decode cL_halls 764 = .ok (.if_icmp .ne 7, 3) := by decide +kernel
theorem dL_halls_767 : decode cL_halls 767 = .ok (.iconst 1, 1) := by decide +kernel
theorem dL_halls_768 : decode cL_halls 768 = .ok (.goto 4, 3) := by decide +kernel
theorem dL_halls_771 : decode cL_halls 771 = .ok (.iconst 0, 1) := by decide +kernel
theorem dL_halls_772 : decode cL_halls 772 = .ok (.ireturn, 1) := by decide +kernel
theorem dL_halls_773 : decode cL_halls 773 = .ok (.iload_n 1, 1) := by decide +kernel
theorem dL_halls_774 : decode cL_halls 774 = .ok (.bipush 14, 2) := by decide +kernel
theorem dL_halls_776 : decode cL_halls 776 = .ok (.if_icmp .ge 358, 3) := by decide +kernel
theorem dL_halls_779 : decode cL_halls 779 = .ok (.aload 11, 2) := by decide +kernel
theorem dL_halls_781 : decode cL_halls 781 = .ok (.iload 15, 2) := by decide +kernel
theorem dL_halls_783 : decode cL_halls 783 = .ok (.iaload, 1) := by decide +kernel
theorem dL_halls_784 : decode cL_halls 784 = .ok (.bipush 31, 2) := by decide +kernel
theorem dL_halls_786 : decode cL_halls 786 = .ok (.iand, 1) := by decide +kernel
theorem dL_halls_787 : decode cL_halls 787 = .ok (.istore 16, 2) := by decide +kernel
theorem dL_halls_789 : decode cL_halls 789 = .ok (.iload_n 3, 1) := by decide +kernel
theorem dL_halls_790 : decode cL_halls 790 = .ok (.bipush 6, 2) := by decide +kernel
theorem dL_halls_792 : decode cL_halls 792 = .ok (.iand, 1) := by decide +kernel
theorem dL_halls_793 : decode cL_halls 793 = .ok (.iconst 2, 1) := by decide +kernel
theorem dL_halls_794 : decode cL_halls 794 = .ok (.if_icmp .le 7, 3) := by decide +kernel
theorem dL_halls_797 : decode cL_halls 797 = .ok (.iconst 1, 1) := by decide +kernel
theorem dL_halls_798 : decode cL_halls 798 = .ok (.goto 4, 3) := by decide +kernel
theorem dL_halls_801 : decode cL_halls 801 = .ok (.iconst 0, 1) := by decide +kernel
theorem dL_halls_802 : decode cL_halls 802 = .ok (.istore 17, 2) := by decide +kernel
theorem dL_halls_804 : decode cL_halls 804 = .ok (.iload_n 3, 1) := by decide +kernel
theorem dL_halls_805 : decode cL_halls 805 = .ok (.iconst 4, 1) := by decide +kernel
theorem dL_halls_806 : decode cL_halls 806 = .ok (.ishr, 1) := by decide +kernel
theorem dL_halls_807 : decode cL_halls 807 = .ok (.bipush 101, 2) := by decide +kernel
theorem dL_halls_809 : decode cL_halls 809 = .ok (.invokestatic 145, 3) := by decide +kernel
theorem dL_halls_812 : decode cL_halls 812 = .ok (.istore 18, 2) := by decide +kernel
theorem dL_halls_814 : decode cL_halls 814 = .ok (.aload_n 0, 1) := by decide +kernel
theorem dL_halls_815 : decode cL_halls 815 = .ok (.iload 15, 2) := by decide +kernel
theorem dL_halls_817 : decode cL_halls 817 = .ok (.iload 17, 2) := by decide +kernel
theorem dL_halls_819 : decode cL_halls 819 = .ok (.bipush 101, 2) := by decide +kernel
theorem dL_halls_821 : decode cL_halls 821 = .ok (.invokestatic 194, 3) := by decide +kernel
theorem dL_halls_824 : decode cL_halls 824 = .ok (.sipush (-7200), 3) := by decide +kernel
theorem dL_halls_827 : decode cL_halls 827 = .ok (.if_icmp .ne 18, 3) := by decide +kernel
theorem dL_halls_830 : decode cL_halls 830 = .ok (.aload_n 0, 1) := by decide +kernel
theorem dL_halls_831 : decode cL_halls 831 = .ok (.iload 15, 2) := by decide +kernel
theorem dL_halls_833 : decode cL_halls 833 = .ok (.iload 17, 2) := by decide +kernel
theorem dL_halls_835 : decode cL_halls 835 = .ok (.iconst (-1), 1) := by decide +kernel
theorem dL_halls_836 : decode cL_halls 836 = .ok (.invokestatic 194, 3) := by decide +kernel
theorem dL_halls_839 : decode cL_halls 839 = .ok (.sipush (-7200), 3) := by decide +kernel
theorem dL_halls_842 : decode cL_halls 842 = .ok (.if_icmp .eq 5, 3) := by decide +kernel
theorem dL_halls_845 : decode cL_halls 845 = .ok (.iconst 0, 1) := by decide +kernel
theorem dL_halls_846 : decode cL_halls 846 = .ok (.ireturn, 1) := by decide +kernel
theorem dL_halls_847 : decode cL_halls 847 = .ok (.aload 11, 2) := by decide +kernel
theorem dL_halls_849 : decode cL_halls 849 = .ok (.iload 15, 2) := by decide +kernel
theorem dL_halls_851 : decode cL_halls 851 = .ok (.iaload, 1) := by decide +kernel
theorem dL_halls_852 : decode cL_halls 852 = .ok (.bipush 9, 2) := by decide +kernel
theorem dL_halls_854 : decode cL_halls 854 = .ok (.ishr, 1) := by decide +kernel
theorem dL_halls_855 : decode cL_halls 855 = .ok (.iconst 3, 1) := by decide +kernel
theorem dL_halls_856 : decode cL_halls 856 = .ok (.iand, 1) := by decide +kernel
theorem dL_halls_857 : decode cL_halls 857 = .ok (.ifCond .eq 25, 3) := by decide +kernel
theorem dL_halls_860 : decode cL_halls 860 = .ok (.aload_n 0, 1) := by decide +kernel
theorem dL_halls_861 : decode cL_halls 861 = .ok (.iload 15, 2) := by decide +kernel
theorem dL_halls_863 : decode cL_halls 863 = .ok (.iload 17, 2) := by decide +kernel
theorem dL_halls_865 : decode cL_halls 865 = .ok (.iload 18, 2) := by decide +kernel
theorem dL_halls_867 : decode cL_halls 867 = .ok (.invokestatic 194, 3) := by decide +kernel
theorem dL_halls_870 : decode cL_halls 870 = .ok (.sipush (-7300), 3) := by decide +kernel
theorem dL_halls_873 : decode cL_halls 873 = .ok (.if_icmp .ne 7, 3) := by decide +kernel
theorem dL_halls_876 : decode cL_halls 876 = .ok (.iconst 1, 1) := by decide +kernel
theorem dL_halls_877 : decode cL_halls 877 = .ok (.goto 4, 3) := by decide +kernel
theorem dL_halls_880 : decode cL_halls 880 = .ok (.iconst 0, 1) := by decide +kernel
theorem dL_halls_881 : decode cL_halls 881 = .ok (.ireturn, 1) := by decide +kernel
theorem dL_halls_882 : decode cL_halls 882 = .ok (.iload 17, 2) := by decide +kernel
theorem dL_halls_884 : decode cL_halls 884 = .ok (.ifCond .ne 48, 3) := by decide +kernel
theorem dL_halls_887 : decode cL_halls 887 = .ok (.aload 11, 2) := by decide +kernel
theorem dL_halls_889 : decode cL_halls 889 = .ok (.iload 15, 2) := by decide +kernel
theorem dL_halls_891 : decode cL_halls 891 = .ok (.aload 11, 2) := by decide +kernel
theorem dL_halls_893 : decode cL_halls 893 = .ok (.iload 15, 2) := by decide +kernel
theorem dL_halls_895 : decode cL_halls 895 = .ok (.iaload, 1) := by decide +kernel
theorem dL_halls_896 : decode cL_halls 896 = .ok (.sipush 4095, 3) := by decide +kernel
theorem dL_halls_899 : decode cL_halls 899 = .ok (.iand, 1) := by decide +kernel
theorem dL_halls_900 : decode cL_halls 900 = .ok (.sipush 1024, 3) := by decide +kernel
theorem dL_halls_903 : decode cL_halls 903 = .ok (.ior, 1) := by decide +kernel
theorem dL_halls_904 : decode cL_halls 904 = .ok (.aload 13, 2) := by decide +kernel
theorem dL_halls_906 : decode cL_halls 906 = .ok (.iconst 0, 1) := by decide +kernel
theorem dL_halls_907 : decode cL_halls 907 = .ok (.iaload, 1) := by decide +kernel
theorem dL_halls_908 : decode cL_halls 908 = .ok (.bipush 12, 2) := by decide +kernel
theorem dL_halls_910 : decode cL_halls 910 = .ok (.ishl, 1) := by decide +kernel
theorem dL_halls_911 : decode cL_halls 911 = .ok (.ior, 1) := by decide +kernel
theorem dL_halls_912 : decode cL_halls 912 = .ok (.iastore, 1) := by decide +kernel
theorem dL_halls_913 : decode cL_halls 913 = .ok (.aload_n 0, 1) := by decide +kernel
theorem dL_halls_914 : decode cL_halls 914 = .ok (.iload 15, 2) := by decide +kernel
theorem dL_halls_916 : decode cL_halls 916 = .ok (.iconst 0, 1) := by decide +kernel
theorem dL_halls_917 : decode cL_halls 917 = .ok (.iload 18, 2) := by decide +kernel
theorem dL_halls_919 : decode cL_halls 919 = .ok (.invokestatic 194, 3) := by decide +kernel
theorem dL_halls_922 : decode cL_halls 922 = .ok (.iconst (-1), 1) := by decide +kernel
theorem dL_halls_923 : decode cL_halls 923 = .ok (.if_icmp .ne 7, 3) := by decide +kernel
theorem dL_halls_926 : decode cL_halls 926 = .ok (.iconst 1, 1) := by decide +kernel
theorem dL_halls_927 : decode cL_halls 927 = .ok (.goto 4, 3) := by decide +kernel
theorem dL_halls_930 : decode cL_halls 930 = .ok (.iconst 0, 1) := by decide +kernel
theorem dL_halls_931 : decode cL_halls 931 = .ok (.ireturn, 1) := by decide +kernel
theorem dL_halls_932 : decode cL_halls 932 = .ok (.aload 11, 2) := by decide +kernel
theorem dL_halls_934 : decode cL_halls 934 = .ok (.iload 15, 2) := by decide +kernel
theorem dL_halls_936 : decode cL_halls 936 = .ok (.iaload, 1) := by decide +kernel
theorem dL_halls_937 : decode cL_halls 937 = .ok (.bipush 7, 2) := by decide +kernel
theorem dL_halls_939 : decode cL_halls 939 = .ok (.ishr, 1) := by decide +kernel
theorem dL_halls_940 : decode cL_halls 940 = .ok (.iconst 3, 1) := by decide +kernel
theorem dL_halls_941 : decode cL_halls 941 = .ok (.iand, 1) := by decide +kernel
theorem dL_halls_942 : decode cL_halls 942 = .ok (.istore 19, 2) := by decide +kernel
theorem dL_halls_944 : decode cL_halls 944 = .ok (.aload 9, 2) := by decide +kernel
theorem dL_halls_946 : decode cL_halls 946 = .ok (.aload 13, 2) := by decide +kernel
theorem dL_halls_948 : decode cL_halls 948 = .ok (.iconst 3, 1) := by decide +kernel
theorem dL_halls_949 : decode cL_halls 949 = .ok (.iaload, 1) := by decide +kernel
theorem dL_halls_950 : decode cL_halls 950 = .ok (.iload 19, 2) := by decide +kernel
theorem dL_halls_952 : decode cL_halls 952 = .ok (.iconst 4, 1) := by decide +kernel
theorem dL_halls_953 : decode cL_halls 953 = .ok (.iload 19, 2) := by decide +kernel
theorem dL_halls_955 : decode cL_halls 955 = .ok (.iconst 2, 1) := by decide +kernel
theorem dL_halls_956 : decode cL_halls 956 = .ok (.if_icmp .ge 13, 3) := by decide +kernel
theorem dL_halls_959 : decode cL_halls 959 = .ok (.aload 10, 2) := by decide +kernel
theorem dL_halls_961 : decode cL_halls 961 = .ok (.iload 16, 2) := by decide +kernel
theorem dL_halls_963 : decode cL_halls 963 = .ok (.invokestatic 173, 3) := by decide +kernel
theorem dL_halls_966 : decode cL_halls 966 = .ok (.goto 22, 3) := by decide +kernel
theorem dL_halls_969 : decode cL_halls 969 = .ok (.iconst 4, 1) := by decide +kernel
theorem dL_halls_970 : decode cL_halls 970 = .ok (.aload 10, 2) := by decide +kernel
theorem dL_halls_972 : decode cL_halls 972 = .ok (.iload 16, 2) := by decide +kernel
theorem dL_halls_974 : decode cL_halls 974 = .ok (.iaload, 1) := by decide +kernel
theorem dL_halls_975 : decode cL_halls 975 = .ok (.iconst 3, 1) := by decide +kernel
theorem dL_halls_976 : decode cL_halls 976 = .ok (.iand, 1) := by decide +kernel
theorem dL_halls_977 : decode cL_halls 977 = .ok (.imul, 1) := by decide +kernel
theorem dL_halls_978 : decode cL_halls 978 = .ok (.aload 11, 2) := by decide +kernel
theorem dL_halls_980 : decode cL_halls 980 = .ok (.iload 15, 2) := by decide +kernel
theorem dL_halls_982 : decode cL_halls 982 = .ok (.iaload, 1) := by decide +kernel
theorem dL_halls_983 : decode cL_halls 983 = .ok (.iconst 5, 1) := by decide +kernel
theorem dL_halls_984 : decode cL_halls 984 = .ok (.ishr, 1) := by decide +kernel
theorem dL_halls_985 : decode cL_halls 985 = .ok (.iconst 3, 1) := by decide +kernel
theorem dL_halls_986 : decode cL_halls 986 = .ok (.iand, 1) := by decide +kernel
theorem dL_halls_987 : decode cL_halls 987 = .ok (.iadd, 1) := by decide +kernel
theorem dL_halls_988 : decode cL_halls 988 = .ok (.imul, 1) := by decide +kernel
theorem dL_halls_989 : decode cL_halls 989 = .ok (.iadd, 1) := by decide +kernel
theorem dL_halls_990 : decode cL_halls 990 = .ok (.iload 19, 2) := by decide +kernel
theorem dL_halls_992 : decode cL_halls 992 = .ok (.iconst 1, 1) := by decide +kernel
theorem dL_halls_993 : decode cL_halls 993 = .ok (.if_icmp .ne 11, 3) := by decide +kernel
theorem dL_halls_996 : decode cL_halls 996 = .ok (.bipush 64, 2) := by decide +kernel
theorem dL_halls_998 : decode cL_halls 998 = .ok (.iload 18, 2) := by decide +kernel

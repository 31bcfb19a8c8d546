/-! names of the law's calls and rows: 15e.ltenders -/
theorem dL_tenders_0 : decode cL_tenders 0 = .ok (.iload_n 2, 1) := by decide +kernel
theorem dL_tenders_1 : decode cL_tenders 1 = .ok (.iconst 4, 1) := by decide +kernel
theorem dL_tenders_2 : decode cL_tenders 2 = .ok (.invokestatic 145, 3) := by decide +kernel
theorem dL_tenders_5 : decode cL_tenders 5 = .ok (.istore 10, 2) := by decide +kernel
theorem dL_tenders_7 : decode cL_tenders 7 = .ok (.iload_n 3, 1) := by decide +kernel
theorem dL_tenders_8 : decode cL_tenders 8 = .ok (.iconst 2, 1) := by decide +kernel
theorem dL_tenders_9 : decode cL_tenders 9 = .ok (.invokestatic 145, 3) := by decide +kernel
theorem dL_tenders_12 : decode cL_tenders 12 = .ok (.istore 11, 2) := by decide +kernel
theorem dL_tenders_14 : decode cL_tenders 14 = .ok (.iload_n 3, 1) := by decide +kernel
theorem dL_tenders_15 : decode cL_tenders 15 = .ok (.iconst 2, 1) := by decide +kernel
theorem dL_tenders_16 : decode cL_tenders 16 = .ok (.ishr, 1) := by decide +kernel
theorem dL_tenders_17 : decode cL_tenders 17 = .ok (.iconst 2, 1) := by decide +kernel
theorem dL_tenders_18 : decode cL_tenders 18 = .ok (.invokestatic 145, 3) := by decide +kernel
theorem dL_tenders_21 : decode cL_tenders 21 = .ok (.istore 12, 2) := by decide +kernel
theorem dL_tenders_23 : decode cL_tenders 23 = .ok (.iload_n 1, 1) := by decide +kernel
theorem dL_tenders_24 : decode cL_tenders 24 = .ok (.ifCond .ne 267, 3) := by decide +kernel
theorem dL_tenders_27 : decode cL_tenders 27 = .ok (.aload 9, 2) := by decide +kernel
theorem dL_tenders_29 : decode cL_tenders 29 = .ok (.iconst 0, 1) := by decide +kernel
theorem dL_tenders_30 : decode cL_tenders 30 = .ok (.iaload, 1) := by decide +kernel
theorem dL_tenders_31 : decode cL_tenders 31 = .ok (.iconst 1, 1) := by decide +kernel
theorem dL_tenders_32 : decode cL_tenders 32 = .ok (.iadd, 1) := by decide +kernel
theorem dL_tenders_33 : decode cL_tenders 33 = .ok (.iload_n 2, 1) := by decide +kernel
theorem dL_tenders_34 : decode cL_tenders 34 = .ok (.bipush 12, 2) := by decide +kernel
theorem dL_tenders_36 : decode cL_tenders 36 = .ok (.invokestatic 145, 3) := by decide +kernel
theorem dL_tenders_39 : decode cL_tenders 39 = .ok (.iadd, 1) := by decide +kernel
theorem dL_tenders_40 : decode cL_tenders 40 = .ok (.istore 13, 2) := by decide +kernel
theorem dL_tenders_42 : decode cL_tenders 42 = .ok (.iload_n 3, 1) := by decide +kernel
theorem dL_tenders_43 : decode cL_tenders 43 = .ok (.bipush 6, 2) := by decide +kernel
theorem dL_tenders_45 : decode cL_tenders 45 = .ok (.iand, 1) := by decide +kernel
theorem dL_tenders_46 : decode cL_tenders 46 = .ok (.ifCond .ne 7, 3) := by decide +kernel
theorem dL_tenders_49 : decode cL_tenders 49 = .ok (.iconst 0, 1) := by decide +kernel
theorem dL_tenders_50 : decode cL_tenders 50 = .ok (.goto 13, 3) := by decide +kernel
theorem dL_tenders_53 : decode cL_tenders 53 = .ok (.iconst 1, 1) := by decide +kernel
theorem dL_tenders_54 : decode cL_tenders 54 = .ok (.iload_n 3, 1) := by decide +kernel
theorem dL_tenders_55 : decode cL_tenders 55 = .ok (.iconst 3, 1) := by decide +kernel
theorem dL_tenders_56 : decode cL_tenders 56 = .ok (.ishr, 1) := by decide +kernel
theorem dL_tenders_57 : decode cL_tenders 57 = .ok (.bipush 6, 2) := by decide +kernel
theorem dL_tenders_59 : decode cL_tenders 59 = .ok (.invokestatic 145, 3) := by decide +kernel
theorem dL_tenders_62 : decode cL_tenders 62 = .ok (.ishl, 1) := by decide +kernel
theorem dL_tenders_63 : decode cL_tenders 63 = .ok (.istore 14, 2) := by decide +kernel
theorem dL_tenders_65 : decode cL_tenders 65 = .ok (.iload_n 2, 1) := by decide +kernel
theorem dL_tenders_66 : decode cL_tenders 66 = .ok (.bipush 96, 2) := by decide +kernel
theorem dL_tenders_68 : decode cL_tenders 68 = .ok (.iand, 1) := by decide +kernel
theorem dL_tenders_69 : decode cL_tenders 69 = .ok (.ifCond .ne 8, 3) := by decide +kernel
theorem dL_tenders_72 : decode cL_tenders 72 = .ok (.bipush 100, 2) := by decide +kernel
theorem dL_tenders_74 : decode cL_tenders 74 = .ok (.goto 12, 3) := by decide +kernel
theorem dL_tenders_77 : decode cL_tenders 77 = .ok (.iload_n 2, 1) := by decide +kernel
theorem dL_tenders_78 : decode cL_tenders 78 = .ok (.bipush 7, 2) := by decide +kernel
theorem dL_tenders_80 : decode cL_tenders 80 = .ok (.ishr, 1) := by decide +kernel
theorem dL_tenders_81 : decode cL_tenders 81 = .ok (.bipush 101, 2) := by decide +kernel
theorem dL_tenders_83 : decode cL_tenders 83 = .ok (.invokestatic 145, 3) := by decide +kernel
theorem dL_tenders_86 : decode cL_tenders 86 = .ok (.istore 15, 2) := by decide +kernel
theorem dL_tenders_88 : decode cL_tenders 88 = .ok (.iload_n 3, 1) := by decide +kernel
theorem dL_tenders_89 : decode cL_tenders 89 = .ok (.bipush 6, 2) := by decide +kernel
theorem dL_tenders_91 : decode cL_tenders 91 = .ok (.ishr, 1) := by decide +kernel
theorem dL_tenders_92 : decode cL_tenders 92 = .ok (.bipush 7, 2) := by decide +kernel
theorem dL_tenders_94 : decode cL_tenders 94 = .ok (.invokestatic 145, 3) := by decide +kernel
theorem dL_tenders_97 : decode cL_tenders 97 = .ok (.istore 16, 2) := by decide +kernel
theorem dL_tenders_99 : decode cL_tenders 99 = .ok (.aload_n 0, 1) := by decide +kernel
theorem dL_tenders_100 : decode cL_tenders 100 = .ok (.aload 9, 2) := by decide +kernel
theorem dL_tenders_102 : decode cL_tenders 102 = .ok (.iconst 0, 1) := by decide +kernel
theorem dL_tenders_103 : decode cL_tenders 103 = .ok (.iaload, 1) := by decide +kernel
theorem dL_tenders_104 : decode cL_tenders 104 = .ok (.iconst 0, 1) := by decide +kernel
theorem dL_tenders_105 : decode cL_tenders 105 = .ok (.iconst 0, 1) := by decide +kernel
theorem dL_tenders_106 : decode cL_tenders 106 = .ok (.iconst 0, 1) := by decide +kernel
theorem dL_tenders_107 : decode cL_tenders 107 = .ok (.invokestatic 148, 3) := by decide +kernel
theorem dL_tenders_110 : decode cL_tenders 110 = .ok (.sipush (-7200), 3) := by decide +kernel
theorem dL_tenders_113 : decode cL_tenders 113 = .ok (.if_icmp .ne 87, 3) := by decide +kernel
theorem dL_tenders_116 : decode cL_tenders 116 = .ok (.aload_n 0, 1) := by decide +kernel
theorem dL_tenders_117 : decode cL_tenders 117 = .ok (.sipush 1001, 3) := by decide +kernel
theorem dL_tenders_120 : decode cL_tenders 120 = .ok (.iconst 0, 1) := by decide +kernel
theorem dL_tenders_121 : decode cL_tenders 121 = .ok (.iconst 0, 1) := by decide +kernel
theorem dL_tenders_122 : decode cL_tenders 122 = .ok (.iconst 0, 1) := by decide +kernel
theorem dL_tenders_123 : decode cL_tenders 123 = .ok (.invokestatic 148, 3) := by decide +kernel
theorem dL_tenders_126 : decode cL_tenders 126 = .ok (.sipush (-7200), 3) := by decide +kernel
theorem dL_tenders_129 : decode cL_tenders 129 = .ok (.if_icmp .ne 71, 3) := by decide +kernel
theorem dL_tenders_132 : decode cL_tenders 132 = .ok (.aload_n 0, 1) := by decide +kernel
theorem dL_tenders_133 : decode cL_tenders 133 = .ok (.iload 13, 2) := by decide +kernel
theorem dL_tenders_135 : decode cL_tenders 135 = .ok (.bipush 64, 2) := by decide +kernel
theorem dL_tenders_137 : decode cL_tenders 137 = .ok (.iload 15, 2) := by decide +kernel
theorem dL_tenders_139 : decode cL_tenders 139 = .ok (.iconst 0, 1) := by decide +kernel
theorem dL_tenders_140 : decode cL_tenders 140 = .ok (.invokestatic 148, 3) := by decide +kernel
theorem dL_tenders_143 : decode cL_tenders 143 = .ok (.sipush (-7200), 3) := by decide +kernel
theorem dL_tenders_146 : decode cL_tenders 146 = .ok (.if_icmp .ne 54, 3) := by decide +kernel
theorem dL_tenders_149 : decode cL_tenders 149 = .ok (.aload_n 0, 1) := by decide +kernel
theorem dL_tenders_150 : decode cL_tenders 150 = .ok (.iload 13, 2) := by decide +kernel
theorem dL_tenders_152 : decode cL_tenders 152 = .ok (.iload 14, 2) := by decide +kernel
theorem dL_tenders_154 : decode cL_tenders 154 = .ok (.bipush 101, 2) := by decide +kernel
theorem dL_tenders_156 : decode cL_tenders 156 = .ok (.iconst 0, 1) := by decide +kernel
theorem dL_tenders_157 : decode cL_tenders 157 = .ok (.invokestatic 148, 3) := by decide +kernel
theorem dL_tenders_160 : decode cL_tenders 160 = .ok (.sipush (-7200), 3) := by decide +kernel
theorem dL_tenders_163 : decode cL_tenders 163 = .ok (.if_icmp .ne 37, 3) := by decide +kernel
theorem dL_tenders_166 : decode cL_tenders 166 = .ok (.aload_n 0, 1) := by decide +kernel
theorem dL_tenders_167 : decode cL_tenders 167 = .ok (.iload 13, 2) := by decide +kernel
theorem dL_tenders_169 : decode cL_tenders 169 = .ok (.iload 14, 2) := by decide +kernel
theorem dL_tenders_171 : decode cL_tenders 171 = .ok (.iload 15, 2) := by decide +kernel
theorem dL_tenders_173 : decode cL_tenders 173 = .ok (.bipush 31, 2) := by decide +kernel
theorem dL_tenders_175 : decode cL_tenders 175 = .ok (.invokestatic 148, 3) := by decide +kernel
theorem dL_tenders_178 : decode cL_tenders 178 = .ok (.sipush (-7200), 3) := by decide +kernel
theorem dL_tenders_181 : decode cL_tenders 181 = .ok (.if_icmp .ne 19, 3) := by decide +kernel
theorem dL_tenders_184 : decode cL_tenders 184 = .ok (.aload_n 0, 1) := by decide +kernel
theorem dL_tenders_185 : decode cL_tenders 185 = .ok (.iload 13, 2) := by decide +kernel
theorem dL_tenders_187 : decode cL_tenders 187 = .ok (.iconst (-1), 1) := by decide +kernel
theorem dL_tenders_188 : decode cL_tenders 188 = .ok (.iload 15, 2) := by decide +kernel
theorem dL_tenders_190 : decode cL_tenders 190 = .ok (.iconst 0, 1) := by decide +kernel
theorem dL_tenders_191 : decode cL_tenders 191 = .ok (.invokestatic 148, 3) := by decide +kernel
theorem dL_tenders_194 : decode cL_tenders 194 = .ok (.sipush (-7200), 3) := by decide +kernel
theorem dL_tenders_197 : decode cL_tenders 197 = .ok (.if_icmp .eq 5, 3) := by decide +kernel
theorem dL_tenders_200 : decode cL_tenders 200 = .ok (.iconst 0, 1) := by decide +kernel
theorem dL_tenders_201 : decode cL_tenders 201 = .ok (.ireturn, 1) := by decide +kernel
theorem dL_tenders_202 : decode cL_tenders 202 = .ok (.aload 9, 2) := by decide +kernel
theorem dL_tenders_204 : decode cL_tenders 204 = .ok (.iconst 1, 1) := by decide +kernel
theorem dL_tenders_205 : decode cL_tenders 205 = .ok (.iaload, 1) := by decide +kernel
theorem dL_tenders_206 : decode cL_tenders 206 = .ok (.iconst 2, 1) := by decide +kernel
theorem dL_tenders_207 : decode cL_tenders 207 = .ok (.if_icmp .ne 21, 3) := by decide +kernel
theorem dL_tenders_210 : decode cL_tenders 210 = .ok (.aload_n 0, 1) := by decide +kernel
theorem dL_tenders_211 : decode cL_tenders 211 = .ok (.iconst 2, 1) := by decide +kernel
theorem dL_tenders_212 : decode cL_tenders 212 = .ok (.iconst 0, 1) := by decide +kernel
theorem dL_tenders_213 : decode cL_tenders 213 = .ok (.invokestatic 151, 3) := by decide +kernel
theorem dL_tenders_216 : decode cL_tenders 216 = .ok (.sipush (-7100), 3) := by decide +kernel
theorem dL_tenders_219 : decode cL_tenders 219 = .ok (.if_icmp .ne 7, 3) := by decide +kernel
theorem dL_tenders_222 : decode cL_tenders 222 = .ok (.iconst 1, 1) := by decide +kernel
theorem dL_tenders_223 : decode cL_tenders 223 = .ok (.goto 4, 3) := by decide +kernel
theorem dL_tenders_226 : decode cL_tenders 226 = .ok (.iconst 0, 1) := by decide +kernel
theorem dL_tenders_227 : decode cL_tenders 227 = .ok (.ireturn, 1) := by decide +kernel
theorem dL_tenders_228 : decode cL_tenders 228 = .ok (.aload 5, 2) := by decide +kernel
theorem dL_tenders_230 : decode cL_tenders 230 = .ok (.aload 9, 2) := by decide +kernel
theorem dL_tenders_232 : decode cL_tenders 232 = .ok (.iconst 1, 1) := by decide +kernel
theorem dL_tenders_233 : decode cL_tenders 233 = .ok (.iaload, 1) := by decide +kernel
theorem dL_tenders_234 : decode cL_tenders 234 = .ok (.iload 13, 2) := by decide +kernel
theorem dL_tenders_236 : decode cL_tenders 236 = .ok (.sipush 1024, 3) := by decide +kernel
theorem dL_tenders_239 : decode cL_tenders 239 = .ok (.iload 14, 2) := by decide +kernel
theorem dL_tenders_241 : decode cL_tenders 241 = .ok (.imul, 1) := by decide +kernel
theorem dL_tenders_242 : decode cL_tenders 242 = .ok (.iadd, 1) := by decide +kernel
theorem dL_tenders_243 : decode cL_tenders 243 = .ok (.iload 15, 2) := by decide +kernel
theorem dL_tenders_245 : decode cL_tenders 245 = .ok (.bipush 16, 2) := by decide +kernel
theorem dL_tenders_247 : decode cL_tenders 247 = .ok (.ishl, 1) := by decide +kernel
theorem dL_tenders_248 : decode cL_tenders 248 = .ok (.iadd, 1) := by decide +kernel
theorem dL_tenders_249 : decode cL_tenders 249 = .ok (.iload 16, 2) := by decide +kernel
theorem dL_tenders_251 : decode cL_tenders 251 = .ok (.bipush 23, 2) := by decide +kernel
theorem dL_tenders_253 : decode cL_tenders 253 = .ok (.ishl, 1) := by decide +kernel
theorem dL_tenders_254 : decode cL_tenders 254 = .ok (.iadd, 1) := by decide +kernel
theorem dL_tenders_255 : decode cL_tenders 255 = .ok (.iastore, 1) := by decide +kernel
theorem dL_tenders_256 : decode cL_tenders 256 = .ok (.aload 9, 2) := by decide +kernel
theorem dL_tenders_258 : decode cL_tenders 258 = .ok (.iconst 1, 1) := by decide +kernel
theorem dL_tenders_259 : decode cL_tenders 259 = .ok (.dup2, 1) := by decide +kernel
theorem dL_tenders_260 : decode cL_tenders 260 = .ok (.iaload, 1) := by decide +kernel
theorem dL_tenders_261 : decode cL_tenders 261 = .ok (.iconst 1, 1) := by decide +kernel
theorem dL_tenders_262 : decode cL_tenders 262 = .ok (.iadd, 1) := by decide +kernel
theorem dL_tenders_263 : decode cL_tenders 263 = .ok (.iastore, 1) := by decide +kernel
theorem dL_tenders_264 : decode cL_tenders 264 = .ok (.aload_n 0, 1) := by decide +kernel
theorem dL_tenders_265 : decode cL_tenders 265 = .ok (.iload 13, 2) := by decide +kernel
theorem dL_tenders_267 : decode cL_tenders 267 = .ok (.iload 14, 2) := by decide +kernel
theorem dL_tenders_269 : decode cL_tenders 269 = .ok (.iload 15, 2) := by decide +kernel
theorem dL_tenders_271 : decode cL_tenders 271 = .ok (.iload 16, 2) := by decide +kernel
theorem dL_tenders_273 : decode cL_tenders 273 = .ok (.invokestatic 148, 3) := by decide +kernel
theorem dL_tenders_276 : decode cL_tenders 276 = .ok (.aload 9, 2) := by decide +kernel
theorem dL_tenders_278 : decode cL_tenders 278 = .ok (.iconst 1, 1) := by decide +kernel
theorem dL_tenders_279 : decode cL_tenders 279 = .ok (.iaload, 1) := by decide +kernel
theorem dL_tenders_280 : decode cL_tenders 280 = .ok (.iconst 1, 1) := by decide +kernel
theorem dL_tenders_281 : decode cL_tenders 281 = .ok (.isub, 1) := by decide +kernel
theorem dL_tenders_282 : decode cL_tenders 282 = .ok (.if_icmp .ne 7, 3) := by decide +kernel
theorem dL_tenders_285 : decode cL_tenders 285 = .ok (.iconst 1, 1) := by decide +kernel
theorem dL_tenders_286 : decode cL_tenders 286 = .ok (.goto 4, 3) := by decide +kernel
theorem dL_tenders_289 : decode cL_tenders 289 = .ok (.iconst 0, 1) := by decide +kernel
theorem dL_tenders_290 : decode cL_tenders 290 = .ok (.ireturn, 1) := by decide +kernel
theorem dL_tenders_291 : decode cL_tenders 291 = .ok (.iload_n 1, 1) := by decide +kernel
theorem dL_tenders_292 : decode cL_tenders 292 = .ok (.iconst 4, 1) := by decide +kernel
theorem dL_tenders_293 : decode cL_tenders 293 = .ok (.if_icmp .ge 153, 3) := by decide +kernel
theorem dL_tenders_296 : decode cL_tenders 296 = .ok (.iload_n 3, 1) := by decide +kernel
theorem dL_tenders_297 : decode cL_tenders 297 = .ok (.bipush 6, 2) := by decide +kernel
theorem dL_tenders_299 : decode cL_tenders 299 = .ok (.invokestatic 145, 3) := by decide +kernel
theorem dL_tenders_302 : decode cL_tenders 302 = .ok (.istore 13, 2) := by decide +kernel
theorem dL_tenders_304 : decode cL_tenders 304 = .ok (.iload_n 3, 1) := by decide +kernel
theorem dL_tenders_305 : decode cL_tenders 305 = .ok (.sipush 768, 3) := by decide +kernel
theorem dL_tenders_308 : decode cL_tenders 308 = .ok (.iand, 1) := by decide +kernel
theorem dL_tenders_309 : decode cL_tenders 309 = .ok (.ifCond .ne 7, 3) := by decide +kernel
theorem dL_tenders_312 : decode cL_tenders 312 = .ok (.iconst (-1), 1) := by decide +kernel
theorem dL_tenders_313 : decode cL_tenders 313 = .ok (.goto 18, 3) := by decide +kernel
theorem dL_tenders_316 : decode cL_tenders 316 = .ok (.iload_n 3, 1) := by decide +kernel
theorem dL_tenders_317 : decode cL_tenders 317 = .ok (.iconst 4, 1) := by decide +kernel
theorem dL_tenders_318 : decode cL_tenders 318 = .ok (.ishr, 1) := by decide +kernel
theorem dL_tenders_319 : decode cL_tenders 319 = .ok (.bipush 40, 2) := by decide +kernel
theorem dL_tenders_321 : decode cL_tenders 321 = .ok (.invokestatic 145, 3) := by decide +kernel
theorem dL_tenders_324 : decode cL_tenders 324 = .ok (.aload 9, 2) := by decide +kernel
theorem dL_tenders_326 : decode cL_tenders 326 = .ok (.iconst 0, 1) := by decide +kernel
theorem dL_tenders_327 : decode cL_tenders 327 = .ok (.iaload, 1) := by decide +kernel
theorem dL_tenders_328 : decode cL_tenders 328 = .ok (.iconst 2, 1) := by decide +kernel
theorem dL_tenders_329 : decode cL_tenders 329 = .ok (.idiv, 1) := by decide +kernel
theorem dL_tenders_330 : decode cL_tenders 330 = .ok (.iadd, 1) := by decide +kernel
theorem dL_tenders_331 : decode cL_tenders 331 = .ok (.istore 14, 2) := by decide +kernel
theorem dL_tenders_333 : decode cL_tenders 333 = .ok (.aload 4, 2) := by decide +kernel
theorem dL_tenders_335 : decode cL_tenders 335 = .ok (.bipush 6, 2) := by decide +kernel
theorem dL_tenders_337 : decode cL_tenders 337 = .ok (.iload 10, 2) := by decide +kernel
theorem dL_tenders_339 : decode cL_tenders 339 = .ok (.imul, 1) := by decide +kernel
theorem dL_tenders_340 : decode cL_tenders 340 = .ok (.iload 13, 2) := by decide +kernel
theorem dL_tenders_342 : decode cL_tenders 342 = .ok (.iadd, 1) := by decide +kernel
theorem dL_tenders_343 : decode cL_tenders 343 = .ok (.iaload, 1) := by decide +kernel
theorem dL_tenders_344 : decode cL_tenders 344 = .ok (.iconst 1, 1) := by decide +kernel
theorem dL_tenders_345 : decode cL_tenders 345 = .ok (.isub, 1) := by decide +kernel
theorem dL_tenders_346 : decode cL_tenders 346 = .ok (.istore 15, 2) := by decide +kernel
theorem dL_tenders_348 : decode cL_tenders 348 = .ok (.aload 4, 2) := by decide +kernel
theorem dL_tenders_350 : decode cL_tenders 350 = .ok (.bipush 6, 2) := by decide +kernel
theorem dL_tenders_352 : decode cL_tenders 352 = .ok (.iload 10, 2) := by decide +kernel
theorem dL_tenders_354 : decode cL_tenders 354 = .ok (.imul, 1) := by decide +kernel
theorem dL_tenders_355 : decode cL_tenders 355 = .ok (.iload 13, 2) := by decide +kernel
theorem dL_tenders_357 : decode cL_tenders 357 = .ok (.iadd, 1) := by decide +kernel
theorem dL_tenders_358 : decode cL_tenders 358 = .ok (.iload 14, 2) := by decide +kernel
theorem dL_tenders_360 : decode cL_tenders 360 = .ok (.iconst 1, 1) := by decide +kernel
theorem dL_tenders_361 : decode cL_tenders 361 = .ok (.iadd, 1) := by decide +kernel
theorem dL_tenders_362 : decode cL_tenders 362 = .ok (.iastore, 1) := by decide +kernel
theorem dL_tenders_363 : decode cL_tenders 363 = .ok (.aload_n 0, 1) := by decide +kernel
theorem dL_tenders_364 : decode cL_tenders 364 = .ok (.bipush 8, 2) := by decide +kernel
theorem dL_tenders_366 : decode cL_tenders 366 = .ok (.iconst 0, 1) := by decide +kernel
theorem dL_tenders_367 : decode cL_tenders 367 = .ok (.iconst 0, 1) := by decide +kernel
theorem dL_tenders_368 : decode cL_tenders 368 = .ok (.invokestatic 154, 3) := by decide +kernel
theorem dL_tenders_371 : decode cL_tenders 371 = .ok (.sipush (-7100), 3) := by decide +kernel
theorem dL_tenders_374 : decode cL_tenders 374 = .ok (.if_icmp .ne 70, 3) := by decide +kernel
theorem dL_tenders_377 : decode cL_tenders 377 = .ok (.aload_n 0, 1) := by decide +kernel
theorem dL_tenders_378 : decode cL_tenders 378 = .ok (.iload 10, 2) := by decide +kernel
theorem dL_tenders_380 : decode cL_tenders 380 = .ok (.bipush 6, 2) := by decide +kernel
theorem dL_tenders_382 : decode cL_tenders 382 = .ok (.iconst 0, 1) := by decide +kernel
theorem dL_tenders_383 : decode cL_tenders 383 = .ok (.invokestatic 154, 3) := by decide +kernel
theorem dL_tenders_386 : decode cL_tenders 386 = .ok (.sipush (-7100), 3) := by decide +kernel
theorem dL_tenders_389 : decode cL_tenders 389 = .ok (.if_icmp .ne 55, 3) := by decide +kernel
theorem dL_tenders_392 : decode cL_tenders 392 = .ok (.aload_n 0, 1) := by decide +kernel
theorem dL_tenders_393 : decode cL_tenders 393 = .ok (.iload 10, 2) := by decide +kernel
theorem dL_tenders_395 : decode cL_tenders 395 = .ok (.iload 13, 2) := by decide +kernel
theorem dL_tenders_397 : decode cL_tenders 397 = .ok (.sipush 2001, 3) := by decide +kernel
theorem dL_tenders_400 : decode cL_tenders 400 = .ok (.invokestatic 154, 3) := by decide +kernel
theorem dL_tenders_403 : decode cL_tenders 403 = .ok (.sipush (-7200), 3) := by decide +kernel
theorem dL_tenders_406 : decode cL_tenders 406 = .ok (.if_icmp .ne 38, 3) := by decide +kernel
theorem dL_tenders_409 : decode cL_tenders 409 = .ok (.aload_n 0, 1) := by decide +kernel
theorem dL_tenders_410 : decode cL_tenders 410 = .ok (.iload 10, 2) := by decide +kernel
theorem dL_tenders_412 : decode cL_tenders 412 = .ok (.iload 13, 2) := by decide +kernel
theorem dL_tenders_414 : decode cL_tenders 414 = .ok (.bipush (-2), 2) := by decide +kernel
theorem dL_tenders_416 : decode cL_tenders 416 = .ok (.invokestatic 154, 3) := by decide +kernel
theorem dL_tenders_419 : decode cL_tenders 419 = .ok (.sipush (-7200), 3) := by decide +kernel
theorem dL_tenders_422 : decode cL_tenders 422 = .ok (.if_icmp .ne 22, 3) := by decide +kernel
theorem dL_tenders_425 : decode cL_tenders 425 = .ok (.aload_n 0, 1) := by decide +kernel
theorem dL_tenders_426 : decode cL_tenders 426 = .ok (.iload 10, 2) := by decide +kernel
theorem dL_tenders_428 : decode cL_tenders 428 = .ok (.iload 13, 2) := by decide +kernel
theorem dL_tenders_430 : decode cL_tenders 430 = .ok (.iload 14, 2) := by decide +kernel
theorem dL_tenders_432 : decode cL_tenders 432 = .ok (.invokestatic 154, 3) := by decide +kernel
theorem dL_tenders_435 : decode cL_tenders 435 = .ok (.iload 15, 2) := by decide +kernel
theorem dL_tenders_437 : decode cL_tenders 437 = .ok (.if_icmp .ne 7, 3) := by decide +kernel
theorem dL_tenders_440 : decode cL_tenders 440 = .ok (.iconst 1, 1) := by decide +kernel
theorem dL_tenders_441 : decode cL_tenders 441 = .ok (.goto 4, 3) := by decide +kernel
theorem dL_tenders_444 : decode cL_tenders 444 = .ok (.iconst 0, 1) := by decide +kernel
theorem dL_tenders_445 : decode cL_tenders 445 = .ok (.ireturn, 1) := by decide +kernel
theorem dL_tenders_446 : decode cL_tenders 446 = .ok (.iload 11, 2) := by decide +kernel
theorem dL_tenders_448 : decode cL_tenders 448 = .ok (.aload 9, 2) := by decide +kernel
theorem dL_tenders_450 : decode cL_tenders 450 = .ok (.iconst 1, 1) := by decide +kernel
theorem dL_tenders_451 : decode cL_tenders 451 = .ok (.iaload, 1) := by decide +kernel
theorem dL_tenders_452 : decode cL_tenders 452 = .ok (.if_icmp .lt 54, 3) := by decide +kernel
theorem dL_tenders_455 : decode cL_tenders 455 = .ok (.aload_n 0, 1) := by decide +kernel
theorem dL_tenders_456 : decode cL_tenders 456 = .ok (.iload 11, 2) := by decide +kernel
theorem dL_tenders_458 : decode cL_tenders 458 = .ok (.iconst (-1), 1) := by decide +kernel
theorem dL_tenders_459 : decode cL_tenders 459 = .ok (.invokestatic 151, 3) := by decide +kernel
theorem dL_tenders_462 : decode cL_tenders 462 = .ok (.sipush (-7100), 3) := by decide +kernel
theorem dL_tenders_465 : decode cL_tenders 465 = .ok (.if_icmp .ne 39, 3) := by decide +kernel
theorem dL_tenders_468 : decode cL_tenders 468 = .ok (.aload_n 0, 1) := by decide +kernel
theorem dL_tenders_469 : decode cL_tenders 469 = .ok (.iload 10, 2) := by decide +kernel
theorem dL_tenders_471 : decode cL_tenders 471 = .ok (.iload 11, 2) := by decide +kernel
theorem dL_tenders_473 : decode cL_tenders 473 = .ok (.iconst 0, 1) := by decide +kernel
theorem dL_tenders_474 : decode cL_tenders 474 = .ok (.iconst 0, 1) := by decide +kernel
theorem dL_tenders_475 : decode cL_tenders 475 = .ok (.iconst 0, 1) := by decide +kernel
theorem dL_tenders_476 : decode cL_tenders 476 = .ok (.invokestatic 157, 3) := by decide +kernel
theorem dL_tenders_479 : decode cL_tenders 479 = .ok (.sipush (-7100), 3) := by decide +kernel
theorem dL_tenders_482 : decode cL_tenders 482 = .ok (.if_icmp .ne 22, 3) := by decide +kernel
theorem dL_tenders_485 : decode cL_tenders 485 = .ok (.aload_n 0, 1) := by decide +kernel
theorem dL_tenders_486 : decode cL_tenders 486 = .ok (.iload 10, 2) := by decide +kernel
theorem dL_tenders_488 : decode cL_tenders 488 = .ok (.iload 11, 2) := by decide +kernel
theorem dL_tenders_490 : decode cL_tenders 490 = .ok (.iconst 0, 1) := by decide +kernel
theorem dL_tenders_491 : decode cL_tenders 491 = .ok (.invokestatic 160, 3) := by decide +kernel
theorem dL_tenders_494 : decode cL_tenders 494 = .ok (.sipush (-7100), 3) := by decide +kernel
theorem dL_tenders_497 : decode cL_tenders 497 = .ok (.if_icmp .ne 7, 3) := by decide +kernel
theorem dL_tenders_500 : decode cL_tenders 500 = .ok (.iconst 1, 1) := by decide +kernel
theorem dL_tenders_501 : decode cL_tenders 501 = .ok (.goto 4, 3) := by decide +kernel
theorem dL_tenders_504 : decode cL_tenders 504 = .ok (.iconst 0, 1) := by decide +kernel
theorem dL_tenders_505 : decode cL_tenders 505 = .ok (.ireturn, 1) := by decide +kernel
theorem dL_tenders_506 : decode cL_tenders 506 = .ok (.iload_n 1, 1) := by decide +kernel
theorem dL_tenders_507 : decode cL_tenders 507 = .ok (.bipush 6, 2) := by decide +kernel
theorem dL_tenders_509 : decode cL_tenders 509 = .ok (.if_icmp .ge 154, 3) := by decide +kernel
theorem dL_tenders_512 : decode cL_tenders 512 = .ok (.iload_n 2, 1) := by decide +kernel
theorem dL_tenders_513 : decode cL_tenders 513 = .ok (.sipush 1000, 3) := by decide +kernel
theorem dL_tenders_516 : decode cL_tenders 516 = .ok (.invokestatic 145, 3) := by decide +kernel
theorem dL_tenders_519 : decode cL_tenders 519 = .ok (.istore 13, 2) := by decide +kernel
theorem dL_tenders_521 : decode cL_tenders 521 = .ok (.aload_n 0, 1) := by decide +kernel
theorem dL_tenders_522 : decode cL_tenders 522 = .ok (.iload 11, 2) := by decide +kernel
theorem dL_tenders_524 : decode cL_tenders 524 = .ok (.sipush 10001, 3) := by decide +kernel
theorem dL_tenders_527 : decode cL_tenders 527 = .ok (.invokestatic 151, 3) := by decide +kernel
theorem dL_tenders_530 : decode cL_tenders 530 = .ok (.sipush (-7200), 3) := by decide +kernel
theorem dL_tenders_533 : decode cL_tenders 533 = .ok (.if_icmp .ne 16, 3) := by decide +kernel
theorem dL_tenders_536 : decode cL_tenders 536 = .ok (.aload_n 0, 1) := by decide +kernel
theorem dL_tenders_537 : decode cL_tenders 537 = .ok (.iload 11, 2) := by decide +kernel
theorem dL_tenders_539 : decode cL_tenders 539 = .ok (.iconst (-1), 1) := by decide +kernel
theorem dL_tenders_540 : decode cL_tenders 540 = .ok (.invokestatic 151, 3) := by decide +kernel
theorem dL_tenders_543 : decode cL_tenders 543 = .ok (.sipush (-7200), 3) := by decide +kernel
theorem dL_tenders_546 : decode cL_tenders 546 = .ok (.if_icmp .eq 5, 3) := by decide +kernel
theorem dL_tenders_549 : decode cL_tenders 549 = .ok (.iconst 0, 1) := by decide +kernel
theorem dL_tenders_550 : decode cL_tenders 550 = .ok (.ireturn, 1) := by decide +kernel
theorem dL_tenders_551 : decode cL_tenders 551 = .ok (.aload 5, 2) := by decide +kernel
theorem dL_tenders_553 : decode cL_tenders 553 = .ok (.aload 9, 2) := by decide +kernel
theorem dL_tenders_555 : decode cL_tenders 555 = .ok (.iload 11, 2) := by decide +kernel
theorem dL_tenders_557 : decode cL_tenders 557 = .ok (.invokestatic 106, 3) := by decide +kernel
theorem dL_tenders_560 : decode cL_tenders 560 = .ok (.ifCond .eq 23, 3) := by decide +kernel
theorem dL_tenders_563 : decode cL_tenders 563 = .ok (.aload_n 0, 1) := by decide +kernel
theorem dL_tenders_564 : decode cL_tenders 564 = .ok (.iload 11, 2) := by decide +kernel
theorem dL_tenders_566 : decode cL_tenders 566 = .ok (.iload 13, 2) := by decide +kernel
theorem dL_tenders_568 : decode cL_tenders 568 = .ok (.invokestatic 151, 3) := by decide +kernel
theorem dL_tenders_571 : decode cL_tenders 571 = .ok (.sipush (-7300), 3) := by decide +kernel
theorem dL_tenders_574 : decode cL_tenders 574 = .ok (.if_icmp .ne 7, 3) := by decide +kernel
theorem dL_tenders_577 : decode cL_tenders 577 = .ok (.iconst 1, 1) := by decide +kernel
theorem dL_tenders_578 : decode cL_tenders 578 = .ok (.goto 4, 3) := by decide +kernel
theorem dL_tenders_581 : decode cL_tenders 581 = .ok (.iconst 0, 1) := by decide +kernel
theorem dL_tenders_582 : decode cL_tenders 582 = .ok (.ireturn, 1) := by decide +kernel
theorem dL_tenders_583 : decode cL_tenders 583 = .ok (.aload 6, 2) := by decide +kernel
theorem dL_tenders_585 : decode cL_tenders 585 = .ok (.iconst 2, 1) := by decide +kernel
theorem dL_tenders_586 : decode cL_tenders 586 = .ok (.iload 11, 2) := by decide +kernel
theorem dL_tenders_588 : decode cL_tenders 588 = .ok (.imul, 1) := by decide +kernel
theorem dL_tenders_589 : decode cL_tenders 589 = .ok (.iconst 1, 1) := by decide +kernel
theorem dL_tenders_590 : decode cL_tenders 590 = .ok (.iadd, 1) := by decide +kernel
theorem dL_tenders_591 : decode cL_tenders 591 = .ok (.iaload, 1) := by decide +kernel
theorem dL_tenders_592 : decode cL_tenders 592 = .ok (.ifCond .lt 23, 3) := by decide +kernel
theorem dL_tenders_595 : decode cL_tenders 595 = .ok (.aload_n 0, 1) := by decide +kernel
theorem dL_tenders_596 : decode cL_tenders 596 = .ok (.iconst 0, 1) := by decide +kernel
theorem dL_tenders_597 : decode cL_tenders 597 = .ok (.iload 11, 2) := by decide +kernel
theorem dL_tenders_599 : decode cL_tenders 599 = .ok (.iconst 2, 1) := by decide +kernel
theorem dL_tenders_600 : decode cL_tenders 600 = .ok (.invokestatic 162, 3) := by decide +kernel
theorem dL_tenders_603 : decode cL_tenders 603 = .ok (.sipush (-7100), 3) := by decide +kernel
theorem dL_tenders_606 : decode cL_tenders 606 = .ok (.if_icmp .ne 7, 3) := by decide +kernel
theorem dL_tenders_609 : decode cL_tenders 609 = .ok (.iconst 1, 1) := by decide +kernel
theorem dL_tenders_610 : decode cL_tenders 610 = .ok (.goto 4, 3) := by decide +kernel
theorem dL_tenders_613 : decode cL_tenders 613 = .ok (.iconst 0, 1) := by decide +kernel
theorem dL_tenders_614 : decode cL_tenders 614 = .ok (.ireturn, 1) := by decide +kernel
theorem dL_tenders_615 : decode cL_tenders 615 = .ok (.aload 6, 2) := by decide +kernel
theorem dL_tenders_617 : decode cL_tenders 617 = .ok (.iconst 2, 1) := by decide +kernel
theorem dL_tenders_618 : decode cL_tenders 618 = .ok (.iload 11, 2) := by decide +kernel
theorem dL_tenders_620 : decode cL_tenders 620 = .ok (.imul, 1) := by decide +kernel
theorem dL_tenders_621 : decode cL_tenders 621 = .ok (.iaload, 1) := by decide +kernel
theorem dL_tenders_622 : decode cL_tenders 622 = .ok (.ifCond .ge 7, 3) := by decide +kernel
theorem dL_tenders_625 : decode cL_tenders 625 = .ok (.iconst 0, 1) := by decide +kernel
theorem dL_tenders_626 : decode cL_tenders 626 = .ok (.goto 4, 3) := by decide +kernel
theorem dL_tenders_629 : decode cL_tenders 629 = .ok (.iconst 1, 1) := by decide +kernel
theorem dL_tenders_630 : decode cL_tenders 630 = .ok (.istore 14, 2) := by decide +kernel
theorem dL_tenders_632 : decode cL_tenders 632 = .ok (.aload 6, 2) := by decide +kernel
theorem dL_tenders_634 : decode cL_tenders 634 = .ok (.iconst 2, 1) := by decide +kernel
theorem dL_tenders_635 : decode cL_tenders 635 = .ok (.iload 11, 2) := by decide +kernel
theorem dL_tenders_637 : decode cL_tenders 637 = .ok (.imul, 1) := by decide +kernel
theorem dL_tenders_638 : decode cL_tenders 638 = .ok (.iload 14, 2) := by decide +kernel
theorem dL_tenders_640 : decode cL_tenders 640 = .ok (.iadd, 1) := by decide +kernel
theorem dL_tenders_641 : decode cL_tenders 641 = .ok (.iload 13, 2) := by decide +kernel
theorem dL_tenders_643 : decode cL_tenders 643 = .ok (.iastore, 1) := by decide +kernel
theorem dL_tenders_644 : decode cL_tenders 644 = .ok (.aload_n 0, 1) := by decide +kernel
theorem dL_tenders_645 : decode cL_tenders 645 = .ok (.iload 11, 2) := by decide +kernel
theorem dL_tenders_647 : decode cL_tenders 647 = .ok (.iload 13, 2) := by decide +kernel
theorem dL_tenders_649 : decode cL_tenders 649 = .ok (.invokestatic 151, 3) := by decide +kernel
theorem dL_tenders_652 : decode cL_tenders 652 = .ok (.iload 14, 2) := by decide +kernel
theorem dL_tenders_654 : decode cL_tenders 654 = .ok (.if_icmp .ne 7, 3) := by decide +kernel
theorem dL_tenders_657 : decode cL_tenders 657 = .ok (.iconst 1, 1) := by decide +kernel
theorem dL_tenders_658 : decode cL_tenders 658 = .ok (.goto 4, 3) := by decide +kernel
theorem dL_tenders_661 : decode cL_tenders 661 = .ok (.iconst 0, 1) := by decide +kernel
theorem dL_tenders_662 : decode cL_tenders 662 = .ok (.ireturn, 1) := by decide +kernel
theorem dL_tenders_663 : decode cL_tenders 663 = .ok (.aload 6, 2) := by decide +kernel
theorem dL_tenders_665 : decode cL_tenders 665 = .ok (.iconst 2, 1) := by decide +kernel
theorem dL_tenders_666 : decode cL_tenders 666 = .ok (.iload 11, 2) := by decide +kernel
theorem dL_tenders_668 : decode cL_tenders 668 = .ok (.imul, 1) := by decide +kernel
theorem dL_tenders_669 : decode cL_tenders 669 = .ok (.iload 12, 2) := by decide +kernel
theorem dL_tenders_671 : decode cL_tenders 671 = .ok (.iadd, 1) := by decide +kernel
theorem dL_tenders_672 : decode cL_tenders 672 = .ok (.iaload, 1) := by decide +kernel
theorem dL_tenders_673 : decode cL_tenders 673 = .ok (.ifCond .ge 57, 3) := by decide +kernel
theorem dL_tenders_676 : decode cL_tenders 676 = .ok (.aload_n 0, 1) := by decide +kernel
theorem dL_tenders_677 : decode cL_tenders 677 = .ok (.iload 10, 2) := by decide +kernel
theorem dL_tenders_679 : decode cL_tenders 679 = .ok (.iload 11, 2) := by decide +kernel
theorem dL_tenders_681 : decode cL_tenders 681 = .ok (.iload 12, 2) := by decide +kernel
theorem dL_tenders_683 : decode cL_tenders 683 = .ok (.iconst 0, 1) := by decide +kernel
theorem dL_tenders_684 : decode cL_tenders 684 = .ok (.iconst 0, 1) := by decide +kernel
theorem dL_tenders_685 : decode cL_tenders 685 = .ok (.invokestatic 157, 3) := by decide +kernel
theorem dL_tenders_688 : decode cL_tenders 688 = .ok (.sipush (-7100), 3) := by decide +kernel
theorem dL_tenders_691 : decode cL_tenders 691 = .ok (.if_icmp .ne 37, 3) := by decide +kernel
theorem dL_tenders_694 : decode cL_tenders 694 = .ok (.aload_n 0, 1) := by decide +kernel
theorem dL_tenders_695 : decode cL_tenders 695 = .ok (.bipush 8, 2) := by decide +kernel
theorem dL_tenders_697 : decode cL_tenders 697 = .ok (.iload 11, 2) := by decide +kernel
theorem dL_tenders_699 : decode cL_tenders 699 = .ok (.iconst 0, 1) := by decide +kernel
theorem dL_tenders_700 : decode cL_tenders 700 = .ok (.invokestatic 160, 3) := by decide +kernel
theorem dL_tenders_703 : decode cL_tenders 703 = .ok (.sipush (-7100), 3) := by decide +kernel
theorem dL_tenders_706 : decode cL_tenders 706 = .ok (.if_icmp .ne 22, 3) := by decide +kernel
theorem dL_tenders_709 : decode cL_tenders 709 = .ok (.aload_n 0, 1) := by decide +kernel
theorem dL_tenders_710 : decode cL_tenders 710 = .ok (.iload 11, 2) := by decide +kernel
theorem dL_tenders_712 : decode cL_tenders 712 = .ok (.iload 12, 2) := by decide +kernel
theorem dL_tenders_714 : decode cL_tenders 714 = .ok (.iconst (-1), 1) := by decide +kernel
theorem dL_tenders_715 : decode cL_tenders 715 = .ok (.invokestatic 164, 3) := by decide +kernel
theorem dL_tenders_718 : decode cL_tenders 718 = .ok (.sipush (-7100), 3) := by decide +kernel
theorem dL_tenders_721 : decode cL_tenders 721 = .ok (.if_icmp .ne 7, 3) := by decide +kernel
theorem dL_tenders_724 : decode cL_tenders 724 = .ok (.iconst 1, 1) := by decide +kernel
theorem dL_tenders_725 : decode cL_tenders 725 = .ok (.goto 4, 3) := by decide +kernel
theorem dL_tenders_728 : decode cL_tenders 728 = .ok (.iconst 0, 1) := by decide +kernel
theorem dL_tenders_729 : decode cL_tenders 729 = .ok (.ireturn, 1) := by decide +kernel
theorem dL_tenders_730 : decode cL_tenders 730 = .ok (.bipush 8, 2) := by decide +kernel
theorem dL_tenders_732 : decode cL_tenders 732 = .ok (.iload 11, 2) := by decide +kernel
theorem dL_tenders_734 : decode cL_tenders 734 = .ok (.imul, 1) := by decide +kernel
theorem dL_tenders_735 : decode cL_tenders 735 = .ok (.iconst 4, 1) := by decide +kernel
theorem dL_tenders_736 : decode cL_tenders 736 = .ok (.iload 12, 2) := by decide +kernel
theorem dL_tenders_738 : decode cL_tenders 738 = .ok (.imul, 1) := by decide +kernel
theorem dL_tenders_739 : decode cL_tenders 739 = .ok (.iadd, 1) := by decide +kernel
theorem dL_tenders_740 : decode cL_tenders 740 = .ok (.iload 10, 2) := by decide +kernel
theorem dL_tenders_742 : decode cL_tenders 742 = .ok (.iadd, 1) := by decide +kernel
theorem dL_tenders_743 : decode cL_tenders 743 = .ok (.istore 13, 2) := by decide +kernel
theorem dL_tenders_745 : decode cL_tenders 745 = .ok (.iload_n 1, 1) := by decide +kernel
theorem dL_tenders_746 : decode cL_tenders 746 = .ok (.bipush 14, 2) := by decide +kernel
theorem dL_tenders_748 : decode cL_tenders 748 = .ok (.if_icmp .ge 296, 3) := by decide +kernel
theorem dL_tenders_751 : decode cL_tenders 751 = .ok (.iload_n 2, 1) := by decide +kernel
theorem dL_tenders_752 : decode cL_tenders 752 = .ok (.bipush 96, 2) := by decide +kernel
theorem dL_tenders_754 : decode cL_tenders 754 = .ok (.iand, 1) := by decide +kernel
theorem dL_tenders_755 : decode cL_tenders 755 = .ok (.ifCond .ne 17, 3) := by decide +kernel
theorem dL_tenders_758 : decode cL_tenders 758 = .ok (.iconst 1, 1) := by decide +kernel
theorem dL_tenders_759 : decode cL_tenders 759 = .ok (.iload_n 2, 1) := by decide +kernel
theorem dL_tenders_760 : decode cL_tenders 760 = .ok (.bipush 7, 2) := by decide +kernel
theorem dL_tenders_762 : decode cL_tenders 762 = .ok (.ishr, 1) := by decide +kernel
theorem dL_tenders_763 : decode cL_tenders 763 = .ok (.ldc 166, 2) := by decide +kernel
theorem dL_tenders_765 : decode cL_tenders 765 = .ok (.invokestatic 145, 3) := by decide +kernel
theorem dL_tenders_768 : decode cL_tenders 768 = .ok (.iadd, 1) := by decide +kernel
theorem dL_tenders_769 : decode cL_tenders 769 = .ok (.goto 18, 3) := by decide +kernel
theorem dL_tenders_772 : decode cL_tenders 772 = .ok (.bipush 100, 2) := by decide +kernel
theorem dL_tenders_774 : decode cL_tenders 774 = .ok (.bipush 10, 2) := by decide +kernel
theorem dL_tenders_776 : decode cL_tenders 776 = .ok (.iload_n 2, 1) := by decide +kernel
theorem dL_tenders_777 : decode cL_tenders 777 = .ok (.bipush 7, 2) := by decide +kernel
theorem dL_tenders_779 : decode cL_tenders 779 = .ok (.ishr, 1) := by decide +kernel
theorem dL_tenders_780 : decode cL_tenders 780 = .ok (.bipush 9, 2) := by decide +kernel
theorem dL_tenders_782 : decode cL_tenders 782 = .ok (.invokestatic 145, 3) := by decide +kernel
theorem dL_tenders_785 : decode cL_tenders 785 = .ok (.imul, 1) := by decide +kernel
theorem dL_tenders_786 : decode cL_tenders 786 = .ok (.iadd, 1) := by decide +kernel
theorem dL_tenders_787 : decode cL_tenders 787 = .ok (.istore 14, 2) := by decide +kernel
theorem dL_tenders_789 : decode cL_tenders 789 = .ok (.iload_n 3, 1) := by decide +kernel
theorem dL_tenders_790 : decode cL_tenders 790 = .ok (.bipush 96, 2) := by decide +kernel
theorem dL_tenders_792 : decode cL_tenders 792 = .ok (.iand, 1) := by decide +kernel
theorem dL_tenders_793 : decode cL_tenders 793 = .ok (.ifCond .ne 15, 3) := by decide +kernel
theorem dL_tenders_796 : decode cL_tenders 796 = .ok (.iload_n 3, 1) := by decide +kernel
theorem dL_tenders_797 : decode cL_tenders 797 = .ok (.bipush 7, 2) := by decide +kernel
theorem dL_tenders_799 : decode cL_tenders 799 = .ok (.ishr, 1) := by decide +kernel
theorem dL_tenders_800 : decode cL_tenders 800 = .ok (.bipush 101, 2) := by decide +kernel
theorem dL_tenders_802 : decode cL_tenders 802 = .ok (.invokestatic 145, 3) := by decide +kernel
theorem dL_tenders_805 : decode cL_tenders 805 = .ok (.goto 17, 3) := by decide +kernel
theorem dL_tenders_808 : decode cL_tenders 808 = .ok (.bipush 50, 2) := by decide +kernel
theorem dL_tenders_810 : decode cL_tenders 810 = .ok (.bipush 10, 2) := by decide +kernel
theorem dL_tenders_812 : decode cL_tenders 812 = .ok (.iload_n 3, 1) := by decide +kernel
theorem dL_tenders_813 : decode cL_tenders 813 = .ok (.bipush 7, 2) := by decide +kernel
theorem dL_tenders_815 : decode cL_tenders 815 = .ok (.ishr, 1) := by decide +kernel
theorem dL_tenders_816 : decode cL_tenders 816 = .ok (.iconst 3, 1) := by decide +kernel
theorem dL_tenders_817 : decode cL_tenders 817 = .ok (.invokestatic 145, 3) := by decide +kernel
theorem dL_tenders_820 : decode cL_tenders 820 = .ok (.imul, 1) := by decide +kernel
theorem dL_tenders_821 : decode cL_tenders 821 = .ok (.iadd, 1) := by decide +kernel
theorem dL_tenders_822 : decode cL_tenders 822 = .ok (.istore 15, 2) := by decide +kernel
theorem dL_tenders_824 : decode cL_tenders 824 = .ok (.aload_n 0, 1) := by decide +kernel
theorem dL_tenders_825 : decode cL_tenders 825 = .ok (.bipush 8, 2) := by decide +kernel
theorem dL_tenders_827 : decode cL_tenders 827 = .ok (.iload 11, 2) := by decide +kernel
theorem dL_tenders_829 : decode cL_tenders 829 = .ok (.iload 12, 2) := by decide +kernel
theorem dL_tenders_831 : decode cL_tenders 831 = .ok (.iconst 0, 1) := by decide +kernel
theorem dL_tenders_832 : decode cL_tenders 832 = .ok (.iconst 0, 1) := by decide +kernel
theorem dL_tenders_833 : decode cL_tenders 833 = .ok (.invokestatic 157, 3) := by decide +kernel
theorem dL_tenders_836 : decode cL_tenders 836 = .ok (.sipush (-7100), 3) := by decide +kernel
theorem dL_tenders_839 : decode cL_tenders 839 = .ok (.if_icmp .ne 62, 3) := by decide +kernel
theorem dL_tenders_842 : decode cL_tenders 842 = .ok (.aload_n 0, 1) := by decide +kernel
theorem dL_tenders_843 : decode cL_tenders 843 = .ok (.iload 10, 2) := by decide +kernel
theorem dL_tenders_845 : decode cL_tenders 845 = .ok (.iload 11, 2) := by decide +kernel
theorem dL_tenders_847 : decode cL_tenders 847 = .ok (.iload 12, 2) := by decide +kernel
theorem dL_tenders_849 : decode cL_tenders 849 = .ok (.iconst 0, 1) := by decide +kernel
theorem dL_tenders_850 : decode cL_tenders 850 = .ok (.iload 15, 2) := by decide +kernel
theorem dL_tenders_852 : decode cL_tenders 852 = .ok (.invokestatic 157, 3) := by decide +kernel
theorem dL_tenders_855 : decode cL_tenders 855 = .ok (.sipush (-7200), 3) := by decide +kernel
theorem dL_tenders_858 : decode cL_tenders 858 = .ok (.if_icmp .ne 43, 3) := by decide +kernel
theorem dL_tenders_861 : decode cL_tenders 861 = .ok (.aload_n 0, 1) := by decide +kernel
theorem dL_tenders_862 : decode cL_tenders 862 = .ok (.iload 10, 2) := by decide +kernel
theorem dL_tenders_864 : decode cL_tenders 864 = .ok (.iload 11, 2) := by decide +kernel
theorem dL_tenders_866 : decode cL_tenders 866 = .ok (.iload 12, 2) := by decide +kernel
theorem dL_tenders_868 : decode cL_tenders 868 = .ok (.ldc 167, 2) := by decide +kernel
theorem dL_tenders_870 : decode cL_tenders 870 = .ok (.iload 15, 2) := by decide +kernel
theorem dL_tenders_872 : decode cL_tenders 872 = .ok (.invokestatic 157, 3) := by decide +kernel
theorem dL_tenders_875 : decode cL_tenders 875 = .ok (.sipush (-7200), 3) := by decide +kernel
theorem dL_tenders_878 : decode cL_tenders 878 = .ok (.if_icmp .ne 23, 3) := by decide +kernel
theorem dL_tenders_881 : decode cL_tenders 881 = .ok (.aload_n 0, 1) := by decide +kernel
theorem dL_tenders_882 : decode cL_tenders 882 = .ok (.iload 10, 2) := by decide +kernel
theorem dL_tenders_884 : decode cL_tenders 884 = .ok (.iload 11, 2) := by decide +kernel
theorem dL_tenders_886 : decode cL_tenders 886 = .ok (.iload 12, 2) := by decide +kernel
theorem dL_tenders_888 : decode cL_tenders 888 = .ok (.iload 14, 2) := by decide +kernel
theorem dL_tenders_890 : decode cL_tenders 890 = .ok (.bipush 101, 2) := by decide +kernel
theorem dL_tenders_892 : decode cL_tenders 892 = .ok (.invokestatic 157, 3) := by decide +kernel
theorem dL_tenders_895 : decode cL_tenders 895 = .ok (.sipush (-7200), 3) := by decide +kernel
theorem dL_tenders_898 : decode cL_tenders 898 = .ok (.if_icmp .eq 5, 3) := by decide +kernel
theorem dL_tenders_901 : decode cL_tenders 901 = .ok (.iconst 0, 1) := by decide +kernel
theorem dL_tenders_902 : decode cL_tenders 902 = .ok (.ireturn, 1) := by decide +kernel
theorem dL_tenders_903 : decode cL_tenders 903 = .ok (.aload 5, 2) := by decide +kernel
theorem dL_tenders_905 : decode cL_tenders 905 = .ok (.aload 9, 2) := by decide +kernel
theorem dL_tenders_907 : decode cL_tenders 907 = .ok (.iload 11, 2) := by decide +kernel
theorem dL_tenders_909 : decode cL_tenders 909 = .ok (.invokestatic 106, 3) := by decide +kernel
theorem dL_tenders_912 : decode cL_tenders 912 = .ok (.ifCond .eq 29, 3) := by decide +kernel
theorem dL_tenders_915 : decode cL_tenders 915 = .ok (.aload_n 0, 1) := by decide +kernel
theorem dL_tenders_916 : decode cL_tenders 916 = .ok (.iload 10, 2) := by decide +kernel
theorem dL_tenders_918 : decode cL_tenders 918 = .ok (.iload 11, 2) := by decide +kernel
theorem dL_tenders_920 : decode cL_tenders 920 = .ok (.iload 12, 2) := by decide +kernel
theorem dL_tenders_922 : decode cL_tenders 922 = .ok (.iload 14, 2) := by decide +kernel
theorem dL_tenders_924 : decode cL_tenders 924 = .ok (.iload 15, 2) := by decide +kernel
theorem dL_tenders_926 : decode cL_tenders 926 = .ok (.invokestatic 157, 3) := by decide +kernel
theorem dL_tenders_929 : decode cL_tenders 929 = .ok (.sipush (-7300), 3) := by decide +kernel
theorem dL_tenders_932 : decode cL_tenders 932 = .ok (.if_icmp .ne 7, 3) := by decide +kernel
theorem dL_tenders_935 : decode cL_tenders 935 = .ok (.iconst 1, 1) := by decide +kernel
theorem dL_tenders_936 : decode cL_tenders 936 = .ok (.goto 4, 3) := by decide +kernel
theorem dL_tenders_939 : decode cL_tenders 939 = .ok (.iconst 0, 1) := by decide +kernel
theorem dL_tenders_940 : decode cL_tenders 940 = .ok (.ireturn, 1) := by decide +kernel
theorem dL_tenders_941 : decode cL_tenders 941 = .ok (.aload 7, 2) := by decide +kernel
theorem dL_tenders_943 : decode cL_tenders 943 = .ok (.iload 13, 2) := by decide +kernel
theorem dL_tenders_945 : decode cL_tenders 945 = .ok (.iload 14, 2) := by decide +kernel
theorem dL_tenders_947 : decode cL_tenders 947 = .ok (.iload 15, 2) := by decide +kernel
theorem dL_tenders_949 : decode cL_tenders 949 = .ok (.bipush 20, 2) := by decide +kernel
theorem dL_tenders_951 : decode cL_tenders 951 = .ok (.ishl, 1) := by decide +kernel
theorem dL_tenders_952 : decode cL_tenders 952 = .ok (.iadd, 1) := by decide +kernel
theorem dL_tenders_953 : decode cL_tenders 953 = .ok (.iastore, 1) := by decide +kernel
theorem dL_tenders_954 : decode cL_tenders 954 = .ok (.aload 9, 2) := by decide +kernel
theorem dL_tenders_956 : decode cL_tenders 956 = .ok (.iconst 2, 1) := by decide +kernel
theorem dL_tenders_957 : decode cL_tenders 957 = .ok (.dup2, 1) := by decide +kernel
theorem dL_tenders_958 : decode cL_tenders 958 = .ok (.iaload, 1) := by decide +kernel
theorem dL_tenders_959 : decode cL_tenders 959 = .ok (.iconst 1, 1) := by decide +kernel
theorem dL_tenders_960 : decode cL_tenders 960 = .ok (.iadd, 1) := by decide +kernel
theorem dL_tenders_961 : decode cL_tenders 961 = .ok (.iastore, 1) := by decide +kernel
theorem dL_tenders_962 : decode cL_tenders 962 = .ok (.aload 8, 2) := by decide +kernel
theorem dL_tenders_964 : decode cL_tenders 964 = .ok (.iload 13, 2) := by decide +kernel
theorem dL_tenders_966 : decode cL_tenders 966 = .ok (.aload 9, 2) := by decide +kernel
theorem dL_tenders_968 : decode cL_tenders 968 = .ok (.iconst 2, 1) := by decide +kernel
theorem dL_tenders_969 : decode cL_tenders 969 = .ok (.iaload, 1) := by decide +kernel
theorem dL_tenders_970 : decode cL_tenders 970 = .ok (.iastore, 1) := by decide +kernel
theorem dL_tenders_971 : decode cL_tenders 971 = .ok (.iconst 0, 1) := by decide +kernel
theorem dL_tenders_972 : decode cL_tenders 972 = .ok (.istore 16, 2) := by decide +kernel
theorem dL_tenders_974 : decode cL_tenders 974 = .ok (.iload 13, 2) := by decide +kernel
theorem dL_tenders_976 : decode cL_tenders 976 = .ok (.iconst 4, 1) := by decide +kernel
theorem dL_tenders_977 : decode cL_tenders 977 = .ok (.idiv, 1) := by decide +kernel
theorem dL_tenders_978 : decode cL_tenders 978 = .ok (.iconst 4, 1) := by decide +kernel
theorem dL_tenders_979 : decode cL_tenders 979 = .ok (.imul, 1) := by decide +kernel
theorem dL_tenders_980 : decode cL_tenders 980 = .ok (.istore 17, 2) := by decide +kernel
theorem dL_tenders_982 : decode cL_tenders 982 = .ok (.iload 17, 2) := by decide +kernel
theorem dL_tenders_984 : decode cL_tenders 984 = .ok (.iload 13, 2) := by decide +kernel
theorem dL_tenders_986 : decode cL_tenders 986 = .ok (.iconst 4, 1) := by decide +kernel
theorem dL_tenders_987 : decode cL_tenders 987 = .ok (.idiv, 1) := by decide +kernel
theorem dL_tenders_988 : decode cL_tenders 988 = .ok (.iconst 4, 1) := by decide +kernel
theorem dL_tenders_989 : decode cL_tenders 989 = .ok (.imul, 1) := by decide +kernel
theorem dL_tenders_990 : decode cL_tenders 990 = .ok (.iconst 4, 1) := by decide +kernel
theorem dL_tenders_991 : decode cL_tenders 991 = .ok (.iadd, 1) := by decide +kernel
theorem dL_tenders_992 : decode cL_tenders 992 = .ok (.if_icmp .ge 27, 3) := by decide +kernel
theorem dL_tenders_995 : decode cL_tenders 995 = .ok (.iload 16, 2) := by decide +kernel
theorem dL_tenders_997 : decode cL_tenders 997 = .ok (.aload 7, 2) := by decide +kernel
theorem dL_tenders_999 : decode cL_tenders 999 = .ok (.iload 17, 2) := by decide +kernel
theorem dL_tenders_1001 : decode cL_tenders 1001 = .ok (.iaload, 1) := by decide +kernel
theorem dL_tenders_1002 : decode cL_tenders 1002 = .ok (.ifCond .le 7, 3) := by decide +kernel
theorem dL_tenders_1005 : decode cL_tenders 1005 = .ok (.iconst 1, 1) := by decide +kernel
theorem dL_tenders_1006 : decode cL_tenders 1006 = .ok (.goto 4, 3) := by decide +kernel
theorem dL_tenders_1009 : decode cL_tenders 1009 = .ok (.iconst 0, 1) := by decide +kernel
theorem dL_tenders_1010 : decode cL_tenders 1010 = .ok (.iadd, 1) := by decide +kernel
theorem dL_tenders_1011 : decode cL_tenders 1011 = .ok (.istore 16, 2) := by decide +kernel
theorem dL_tenders_1013 : decode cL_tenders 1013 = .ok (.iinc 17 1, 3) := by decide +kernel
theorem dL_tenders_1016 : decode cL_tenders 1016 = .ok (.goto (-34), 3) := by decide +kernel
theorem dL_tenders_1019 : decode cL_tenders 1019 = .ok (.aload_n 0, 1) := by decide +kernel
theorem dL_tenders_1020 : decode cL_tenders 1020 = .ok (.iload 10, 2) := by decide +kernel
theorem dL_tenders_1022 : decode cL_tenders 1022 = .ok (.iload 11, 2) := by decide +kernel
theorem dL_tenders_1024 : decode cL_tenders 1024 = .ok (.iload 12, 2) := by decide +kernel
theorem dL_tenders_1026 : decode cL_tenders 1026 = .ok (.iload 14, 2) := by decide +kernel
theorem dL_tenders_1028 : decode cL_tenders 1028 = .ok (.iload 15, 2) := by decide +kernel
theorem dL_tenders_1030 : decode cL_tenders 1030 = .ok (.invokestatic 157, 3) := by decide +kernel
theorem dL_tenders_1033 : decode cL_tenders 1033 = .ok (.iload 16, 2) := by decide +kernel
theorem dL_tenders_1035 : decode cL_tenders 1035 = .ok (.if_icmp .ne 7, 3) := by decide +kernel
theorem dL_tenders_1038 : decode cL_tenders 1038 = .ok (.iconst 1, 1) := by decide +kernel
theorem dL_tenders_1039 : decode cL_tenders 1039 = .ok (.goto 4, 3) := by decide +kernel
theorem dL_tenders_1042 : decode cL_tenders 1042 = .ok (.iconst 0, 1) := by decide +kernel
theorem dL_tenders_1043 : decode cL_tenders 1043 = .ok (.ireturn, 1) := by decide +kernel
theorem dL_tenders_1044 : decode cL_tenders 1044 = .ok (.aload 7, 2) := by decide +kernel
theorem dL_tenders_1046 : decode cL_tenders 1046 = .ok (.iload 13, 2) := by decide +kernel
theorem dL_tenders_1048 : decode cL_tenders 1048 = .ok (.invokestatic 118, 3) := by decide +kernel
theorem dL_tenders_1051 : decode cL_tenders 1051 = .ok (.istore 14, 2) := by decide +kernel
theorem dL_tenders_1053 : decode cL_tenders 1053 = .ok (.aload 5, 2) := by decide +kernel
theorem dL_tenders_1055 : decode cL_tenders 1055 = .ok (.aload 9, 2) := by decide +kernel
theorem dL_tenders_1057 : decode cL_tenders 1057 = .ok (.iload 11, 2) := by decide +kernel
theorem dL_tenders_1059 : decode cL_tenders 1059 = .ok (.invokestatic 106, 3) := by decide +kernel
theorem dL_tenders_1062 : decode cL_tenders 1062 = .ok (.ifCond .ne 8, 3) := by decide +kernel
theorem dL_tenders_1065 : decode cL_tenders 1065 = .ok (.iload 14, 2) := by decide +kernel
theorem dL_tenders_1067 : decode cL_tenders 1067 = .ok (.ifCond .ne 25, 3) := by decide +kernel
theorem dL_tenders_1070 : decode cL_tenders 1070 = .ok (.aload_n 0, 1) := by decide +kernel
theorem dL_tenders_1071 : decode cL_tenders 1071 = .ok (.iload 10, 2) := by decide +kernel
theorem dL_tenders_1073 : decode cL_tenders 1073 = .ok (.iload 11, 2) := by decide +kernel
theorem dL_tenders_1075 : decode cL_tenders 1075 = .ok (.iload 12, 2) := by decide +kernel
theorem dL_tenders_1077 : decode cL_tenders 1077 = .ok (.invokestatic 160, 3) := by decide +kernel
theorem dL_tenders_1080 : decode cL_tenders 1080 = .ok (.sipush (-7300), 3) := by decide +kernel
theorem dL_tenders_1083 : decode cL_tenders 1083 = .ok (.if_icmp .ne 7, 3) := by decide +kernel
theorem dL_tenders_1086 : decode cL_tenders 1086 = .ok (.iconst 1, 1) := by decide +kernel
theorem dL_tenders_1087 : decode cL_tenders 1087 = .ok (.goto 4, 3) := by decide +kernel
theorem dL_tenders_1090 : decode cL_tenders 1090 = .ok (.iconst 0, 1) := by decide +kernel
theorem dL_tenders_1091 : decode cL_tenders 1091 = .ok (.ireturn, 1) := by decide +kernel
theorem dL_tenders_1092 : decode cL_tenders 1092 = .ok (.aload 7, 2) := by decide +kernel
theorem dL_tenders_1094 : decode cL_tenders 1094 = .ok (.iload 13, 2) := by decide +kernel
theorem dL_tenders_1096 : decode cL_tenders 1096 = .ok (.iconst 0, 1) := by decide +kernel
theorem dL_tenders_1097 : decode cL_tenders 1097 = .ok (.iastore, 1) := by decide +kernel
theorem dL_tenders_1098 : decode cL_tenders 1098 = .ok (.aload_n 0, 1) := by decide +kernel
theorem dL_tenders_1099 : decode cL_tenders 1099 = .ok (.iload 10, 2) := by decide +kernel
theorem dL_tenders_1101 : decode cL_tenders 1101 = .ok (.iload 11, 2) := by decide +kernel
theorem dL_tenders_1103 : decode cL_tenders 1103 = .ok (.iload 12, 2) := by decide +kernel
theorem dL_tenders_1105 : decode cL_tenders 1105 = .ok (.invokestatic 160, 3) := by decide +kernel
theorem dL_tenders_1108 : decode cL_tenders 1108 = .ok (.iload 14, 2) := by decide +kernel
theorem dL_tenders_1110 : decode cL_tenders 1110 = .ok (.if_icmp .ne 7, 3) := by decide +kernel
theorem dL_tenders_1113 : decode cL_tenders 1113 = .ok (.iconst 1, 1) := by decide +kernel
theorem dL_tenders_1114 : decode cL_tenders 1114 = .ok (.goto 4, 3) := by decide +kernel
theorem dL_tenders_1117 : decode cL_tenders 1117 = .ok (.iconst 0, 1) := by decide +kernel
theorem dL_tenders_1118 : decode cL_tenders 1118 = .ok (.ireturn, 1) := by decide +kernel

/-! names of the law's calls and rows: 15g.llaw -/
theorem dL_days_0 : decode cL_days 0 = .ok (.iconst 0, 1) := by decide +kernel
theorem dL_days_1 : decode cL_days 1 = .ok (.istore 13, 2) := by decide +kernel
theorem dL_days_3 : decode cL_days 3 = .ok (.iconst 0, 1) := by decide +kernel
theorem dL_days_4 : decode cL_days 4 = .ok (.istore 14, 2) := by decide +kernel
theorem dL_days_6 : decode cL_days 6 = .ok (.iload 14, 2) := by decide +kernel
theorem dL_days_8 : decode cL_days 8 = .ok (.iload_n 1, 1) := by decide +kernel
theorem dL_days_9 : decode cL_days 9 = .ok (.if_icmp .ge 281, 3) := by decide +kernel
theorem dL_days_12 : decode cL_days 12 = .ok (.aload 12, 2) := by decide +kernel
theorem dL_days_14 : decode cL_days 14 = .ok (.iconst 0, 1) := by decide +kernel
theorem dL_days_15 : decode cL_days 15 = .ok (.dup2, 1) := by decide +kernel
theorem dL_days_16 : decode cL_days 16 = .ok (.iaload, 1) := by decide +kernel
theorem dL_days_17 : decode cL_days 17 = .ok (.iconst 1, 1) := by decide +kernel
theorem dL_days_18 : decode cL_days 18 = .ok (.iadd, 1) := by decide +kernel
theorem dL_days_19 : decode cL_days 19 = .ok (.iastore, 1) := by decide +kernel
theorem dL_days_20 : decode cL_days 20 = .ok (.iconst 0, 1) := by decide +kernel
theorem dL_days_21 : decode cL_days 21 = .ok (.istore 15, 2) := by decide +kernel
theorem dL_days_23 : decode cL_days 23 = .ok (.iload 15, 2) := by decide +kernel
theorem dL_days_25 : decode cL_days 25 = .ok (.bipush 16, 2) := by decide +kernel
theorem dL_days_27 : decode cL_days 27 = .ok (.if_icmp .ge 102, 3) := by decide +kernel
theorem dL_days_30 : decode cL_days 30 = .ok (.iload 15, 2) := by decide +kernel
theorem dL_days_32 : decode cL_days 32 = .ok (.bipush 8, 2) := by decide +kernel
theorem dL_days_34 : decode cL_days 34 = .ok (.idiv, 1) := by decide +kernel
theorem dL_days_35 : decode cL_days 35 = .ok (.aload 12, 2) := by decide +kernel
theorem dL_days_37 : decode cL_days 37 = .ok (.iconst 1, 1) := by decide +kernel
theorem dL_days_38 : decode cL_days 38 = .ok (.iaload, 1) := by decide +kernel
theorem dL_days_39 : decode cL_days 39 = .ok (.if_icmp .ge 84, 3) := by decide +kernel
theorem dL_days_42 : decode cL_days 42 = .ok (.aload_n 3, 1) := by decide +kernel
theorem dL_days_43 : decode cL_days 43 = .ok (.iload 15, 2) := by decide +kernel
theorem dL_days_45 : decode cL_days 45 = .ok (.bipush 8, 2) := by decide +kernel
theorem dL_days_47 : decode cL_days 47 = .ok (.idiv, 1) := by decide +kernel
theorem dL_days_48 : decode cL_days 48 = .ok (.iaload, 1) := by decide +kernel
theorem dL_days_49 : decode cL_days 49 = .ok (.sipush 1023, 3) := by decide +kernel
theorem dL_days_52 : decode cL_days 52 = .ok (.iand, 1) := by decide +kernel
theorem dL_days_53 : decode cL_days 53 = .ok (.aload 12, 2) := by decide +kernel
theorem dL_days_55 : decode cL_days 55 = .ok (.iconst 0, 1) := by decide +kernel
theorem dL_days_56 : decode cL_days 56 = .ok (.iaload, 1) := by decide +kernel
theorem dL_days_57 : decode cL_days 57 = .ok (.if_icmp .eq 6, 3) := by decide +kernel
theorem dL_days_60 : decode cL_days 60 = .ok (.goto 63, 3) := by decide +kernel
theorem dL_days_63 : decode cL_days 63 = .ok (.iconst 0, 1) := by decide +kernel
theorem dL_days_64 : decode cL_days 64 = .ok (.istore 16, 2) := by decide +kernel
theorem dL_days_66 : decode cL_days 66 = .ok (.iload 16, 2) := by decide +kernel
theorem dL_days_68 : decode cL_days 68 = .ok (.bipush 6, 2) := by decide +kernel
theorem dL_days_70 : decode cL_days 70 = .ok (.if_icmp .ge 53, 3) := by decide +kernel
theorem dL_days_73 : decode cL_days 73 = .ok (.aload_n 3, 1) := by decide +kernel
theorem dL_days_74 : decode cL_days 74 = .ok (.iload 15, 2) := by decide +kernel
theorem dL_days_76 : decode cL_days 76 = .ok (.bipush 8, 2) := by decide +kernel
theorem dL_days_78 : decode cL_days 78 = .ok (.idiv, 1) := by decide +kernel
theorem dL_days_79 : decode cL_days 79 = .ok (.iaload, 1) := by decide +kernel
theorem dL_days_80 : decode cL_days 80 = .ok (.bipush 10, 2) := by decide +kernel
theorem dL_days_82 : decode cL_days 82 = .ok (.iload 16, 2) := by decide +kernel
theorem dL_days_84 : decode cL_days 84 = .ok (.iadd, 1) := by decide +kernel
theorem dL_days_85 : decode cL_days 85 = .ok (.ishr, 1) := by decide +kernel
theorem dL_days_86 : decode cL_days 86 = .ok (.iconst 1, 1) := by decide +kernel
theorem dL_days_87 : decode cL_days 87 = .ok (.iand, 1) := by decide +kernel
theorem dL_days_88 : decode cL_days 88 = .ok (.iconst 1, 1) := by decide +kernel
theorem dL_days_89 : decode cL_days 89 = .ok (.if_icmp .ne 28, 3) := by decide +kernel
theorem dL_days_92 : decode cL_days 92 = .ok (.aload_n 2, 1) := by decide +kernel
theorem dL_days_93 : decode cL_days 93 = .ok (.bipush 6, 2) := by decide +kernel
theorem dL_days_95 : decode cL_days 95 = .ok (.iload 15, 2) := by decide +kernel
theorem dL_days_97 : decode cL_days 97 = .ok (.iconst 4, 1) := by decide +kernel
theorem dL_days_98 : decode cL_days 98 = .ok (.irem, 1) := by decide +kernel
theorem dL_days_99 : decode cL_days 99 = .ok (.imul, 1) := by decide +kernel
theorem dL_days_100 : decode cL_days 100 = .ok (.iload 16, 2) := by decide +kernel
theorem dL_days_102 : decode cL_days 102 = .ok (.iadd, 1) := by decide +kernel
theorem dL_days_103 : decode cL_days 103 = .ok (.iaload, 1) := by decide +kernel
theorem dL_days_104 : decode cL_days 104 = .ok (.aload 12, 2) := by decide +kernel
theorem dL_days_106 : decode cL_days 106 = .ok (.iconst 0, 1) := by decide +kernel
theorem dL_days_107 : decode cL_days 107 = .ok (.iaload, 1) := by decide +kernel
theorem dL_days_108 : decode cL_days 108 = .ok (.if_icmp .gt 9, 3) := by decide +kernel
theorem dL_days_111 : decode cL_days 111 = .ok (.aload 7, 2) := by decide +kernel
theorem dL_days_113 : decode cL_days 113 = .ok (.iload 15, 2) := by decide +kernel
theorem dL_days_115 : decode cL_days 115 = .ok (.iconst 1, 1) := by decide +kernel
theorem dL_days_116 : decode cL_days 116 = .ok (.iastore, 1) := by decide +kernel
theorem dL_days_117 : decode cL_days 117 = .ok (.iinc 16 1, 3) := by decide +kernel
theorem dL_days_120 : decode cL_days 120 = .ok (.goto (-54), 3) := by decide +kernel
theorem dL_days_123 : decode cL_days 123 = .ok (.iinc 15 1, 3) := by decide +kernel
theorem dL_days_126 : decode cL_days 126 = .ok (.goto (-103), 3) := by decide +kernel
theorem dL_days_129 : decode cL_days 129 = .ok (.aload 12, 2) := by decide +kernel
theorem dL_days_131 : decode cL_days 131 = .ok (.iconst 4, 1) := by decide +kernel
theorem dL_days_132 : decode cL_days 132 = .ok (.iaload, 1) := by decide +kernel
theorem dL_days_133 : decode cL_days 133 = .ok (.istore 15, 2) := by decide +kernel
theorem dL_days_135 : decode cL_days 135 = .ok (.iconst 0, 1) := by decide +kernel
theorem dL_days_136 : decode cL_days 136 = .ok (.istore 16, 2) := by decide +kernel
theorem dL_days_138 : decode cL_days 138 = .ok (.iload 16, 2) := by decide +kernel
theorem dL_days_140 : decode cL_days 140 = .ok (.iload 15, 2) := by decide +kernel
theorem dL_days_142 : decode cL_days 142 = .ok (.if_icmp .ge 142, 3) := by decide +kernel
theorem dL_days_145 : decode cL_days 145 = .ok (.aload 9, 2) := by decide +kernel
theorem dL_days_147 : decode cL_days 147 = .ok (.iload 16, 2) := by decide +kernel
theorem dL_days_149 : decode cL_days 149 = .ok (.iaload, 1) := by decide +kernel
theorem dL_days_150 : decode cL_days 150 = .ok (.bipush 17, 2) := by decide +kernel
theorem dL_days_152 : decode cL_days 152 = .ok (.ishr, 1) := by decide +kernel
theorem dL_days_153 : decode cL_days 153 = .ok (.ifCond .gt 125, 3) := by decide +kernel
theorem dL_days_156 : decode cL_days 156 = .ok (.aload_n 3, 1) := by decide +kernel
theorem dL_days_157 : decode cL_days 157 = .ok (.aload 9, 2) := by decide +kernel
theorem dL_days_159 : decode cL_days 159 = .ok (.aload 10, 2) := by decide +kernel
theorem dL_days_161 : decode cL_days 161 = .ok (.aload 12, 2) := by decide +kernel
theorem dL_days_163 : decode cL_days 163 = .ok (.iload 16, 2) := by decide +kernel
theorem dL_days_165 : decode cL_days 165 = .ok (.invokestatic 168, 3) := by decide +kernel
theorem dL_days_168 : decode cL_days 168 = .ok (.ifCond .eq 110, 3) := by decide +kernel
theorem dL_days_171 : decode cL_days 171 = .ok (.aload 12, 2) := by decide +kernel
theorem dL_days_173 : decode cL_days 173 = .ok (.iconst 0, 1) := by decide +kernel
theorem dL_days_174 : decode cL_days 174 = .ok (.iaload, 1) := by decide +kernel
theorem dL_days_175 : decode cL_days 175 = .ok (.aload_n 3, 1) := by decide +kernel
theorem dL_days_176 : decode cL_days 176 = .ok (.aload 9, 2) := by decide +kernel
theorem dL_days_178 : decode cL_days 178 = .ok (.iload 16, 2) := by decide +kernel
theorem dL_days_180 : decode cL_days 180 = .ok (.invokestatic 138, 3) := by decide +kernel
theorem dL_days_183 : decode cL_days 183 = .ok (.bipush 30, 2) := by decide +kernel
theorem dL_days_185 : decode cL_days 185 = .ok (.iadd, 1) := by decide +kernel
theorem dL_days_186 : decode cL_days 186 = .ok (.if_icmp .ge 6, 3) := by decide +kernel
theorem dL_days_189 : decode cL_days 189 = .ok (.goto 89, 3) := by decide +kernel
theorem dL_days_192 : decode cL_days 192 = .ok (.aload 9, 2) := by decide +kernel
theorem dL_days_194 : decode cL_days 194 = .ok (.iload 16, 2) := by decide +kernel
theorem dL_days_196 : decode cL_days 196 = .ok (.dup2, 1) := by decide +kernel
theorem dL_days_197 : decode cL_days 197 = .ok (.iaload, 1) := by decide +kernel
theorem dL_days_198 : decode cL_days 198 = .ok (.ldc 172, 2) := by decide +kernel
theorem dL_days_200 : decode cL_days 200 = .ok (.ior, 1) := by decide +kernel
theorem dL_days_201 : decode cL_days 201 = .ok (.iastore, 1) := by decide +kernel
theorem dL_days_202 : decode cL_days 202 = .ok (.aload 11, 2) := by decide +kernel
theorem dL_days_204 : decode cL_days 204 = .ok (.aload 9, 2) := by decide +kernel
theorem dL_days_206 : decode cL_days 206 = .ok (.iload 16, 2) := by decide +kernel
theorem dL_days_208 : decode cL_days 208 = .ok (.iaload, 1) := by decide +kernel
theorem dL_days_209 : decode cL_days 209 = .ok (.iconst 2, 1) := by decide +kernel
theorem dL_days_210 : decode cL_days 210 = .ok (.ishr, 1) := by decide +kernel
theorem dL_days_211 : decode cL_days 211 = .ok (.iconst 3, 1) := by decide +kernel
theorem dL_days_212 : decode cL_days 212 = .ok (.iand, 1) := by decide +kernel
theorem dL_days_213 : decode cL_days 213 = .ok (.dup2, 1) := by decide +kernel
theorem dL_days_214 : decode cL_days 214 = .ok (.iaload, 1) := by decide +kernel
theorem dL_days_215 : decode cL_days 215 = .ok (.aload 4, 2) := by decide +kernel
theorem dL_days_217 : decode cL_days 217 = .ok (.aload 9, 2) := by decide +kernel
theorem dL_days_219 : decode cL_days 219 = .ok (.iload 16, 2) := by decide +kernel
theorem dL_days_221 : decode cL_days 221 = .ok (.iaload, 1) := by decide +kernel
theorem dL_days_222 : decode cL_days 222 = .ok (.iconst 3, 1) := by decide +kernel
theorem dL_days_223 : decode cL_days 223 = .ok (.iand, 1) := by decide +kernel
theorem dL_days_224 : decode cL_days 224 = .ok (.iaload, 1) := by decide +kernel
theorem dL_days_225 : decode cL_days 225 = .ok (.iadd, 1) := by decide +kernel
theorem dL_days_226 : decode cL_days 226 = .ok (.iastore, 1) := by decide +kernel
theorem dL_days_227 : decode cL_days 227 = .ok (.aload 8, 2) := by decide +kernel
theorem dL_days_229 : decode cL_days 229 = .ok (.aload 12, 2) := by decide +kernel
theorem dL_days_231 : decode cL_days 231 = .ok (.iconst 3, 1) := by decide +kernel
theorem dL_days_232 : decode cL_days 232 = .ok (.iaload, 1) := by decide +kernel
theorem dL_days_233 : decode cL_days 233 = .ok (.iconst 4, 1) := by decide +kernel
theorem dL_days_234 : decode cL_days 234 = .ok (.aload 9, 2) := by decide +kernel
theorem dL_days_236 : decode cL_days 236 = .ok (.iload 16, 2) := by decide +kernel
theorem dL_days_238 : decode cL_days 238 = .ok (.invokestatic 173, 3) := by decide +kernel
theorem dL_days_241 : decode cL_days 241 = .ok (.imul, 1) := by decide +kernel
theorem dL_days_242 : decode cL_days 242 = .ok (.iastore, 1) := by decide +kernel
theorem dL_days_243 : decode cL_days 243 = .ok (.aload 12, 2) := by decide +kernel
theorem dL_days_245 : decode cL_days 245 = .ok (.iconst 3, 1) := by decide +kernel
theorem dL_days_246 : decode cL_days 246 = .ok (.dup2, 1) := by decide +kernel
theorem dL_days_247 : decode cL_days 247 = .ok (.iaload, 1) := by decide +kernel
theorem dL_days_248 : decode cL_days 248 = .ok (.iconst 1, 1) := by decide +kernel
theorem dL_days_249 : decode cL_days 249 = .ok (.iadd, 1) := by decide +kernel
theorem dL_days_250 : decode cL_days 250 = .ok (.iastore, 1) := by decide +kernel
theorem dL_days_251 : decode cL_days 251 = .ok (.iinc 13 1, 3) := by decide +kernel
theorem dL_days_254 : decode cL_days 254 = .ok (.aload_n 3, 1) := by decide +kernel
theorem dL_days_255 : decode cL_days 255 = .ok (.aload 5, 2) := by decide +kernel
theorem dL_days_257 : decode cL_days 257 = .ok (.aload 6, 2) := by decide +kernel
theorem dL_days_259 : decode cL_days 259 = .ok (.aload 7, 2) := by decide +kernel
theorem dL_days_261 : decode cL_days 261 = .ok (.aload 8, 2) := by decide +kernel
theorem dL_days_263 : decode cL_days 263 = .ok (.aload 9, 2) := by decide +kernel
theorem dL_days_265 : decode cL_days 265 = .ok (.aload 12, 2) := by decide +kernel
theorem dL_days_267 : decode cL_days 267 = .ok (.aload 9, 2) := by decide +kernel
theorem dL_days_269 : decode cL_days 269 = .ok (.iload 16, 2) := by decide +kernel
theorem dL_days_271 : decode cL_days 271 = .ok (.iaload, 1) := by decide +kernel
theorem dL_days_272 : decode cL_days 272 = .ok (.iconst 3, 1) := by decide +kernel
theorem dL_days_273 : decode cL_days 273 = .ok (.iand, 1) := by decide +kernel
theorem dL_days_274 : decode cL_days 274 = .ok (.invokestatic 176, 3) := by decide +kernel
theorem dL_days_277 : decode cL_days 277 = .ok (.pop, 1) := by decide +kernel
theorem dL_days_278 : decode cL_days 278 = .ok (.iinc 16 1, 3) := by decide +kernel
theorem dL_days_281 : decode cL_days 281 = .ok (.goto (-143), 3) := by decide +kernel
theorem dL_days_284 : decode cL_days 284 = .ok (.iinc 14 1, 3) := by decide +kernel
theorem dL_days_287 : decode cL_days 287 = .ok (.goto (-281), 3) := by decide +kernel
theorem dL_days_290 : decode cL_days 290 = .ok (.aload_n 0, 1) := by decide +kernel
theorem dL_days_291 : decode cL_days 291 = .ok (.iconst 0, 1) := by decide +kernel
theorem dL_days_292 : decode cL_days 292 = .ok (.invokestatic 180, 3) := by decide +kernel
theorem dL_days_295 : decode cL_days 295 = .ok (.sipush (-7200), 3) := by decide +kernel
theorem dL_days_298 : decode cL_days 298 = .ok (.if_icmp .ne 29, 3) := by decide +kernel
theorem dL_days_301 : decode cL_days 301 = .ok (.aload_n 0, 1) := by decide +kernel
theorem dL_days_302 : decode cL_days 302 = .ok (.bipush 101, 2) := by decide +kernel
theorem dL_days_304 : decode cL_days 304 = .ok (.invokestatic 180, 3) := by decide +kernel
theorem dL_days_307 : decode cL_days 307 = .ok (.sipush (-7200), 3) := by decide +kernel
theorem dL_days_310 : decode cL_days 310 = .ok (.if_icmp .ne 17, 3) := by decide +kernel
theorem dL_days_313 : decode cL_days 313 = .ok (.aload_n 0, 1) := by decide +kernel
theorem dL_days_314 : decode cL_days 314 = .ok (.iload_n 1, 1) := by decide +kernel
theorem dL_days_315 : decode cL_days 315 = .ok (.invokestatic 180, 3) := by decide +kernel
theorem dL_days_318 : decode cL_days 318 = .ok (.iload 13, 2) := by decide +kernel
theorem dL_days_320 : decode cL_days 320 = .ok (.if_icmp .ne 7, 3) := by decide +kernel
theorem dL_days_323 : decode cL_days 323 = .ok (.iconst 1, 1) := by decide +kernel
theorem dL_days_324 : decode cL_days 324 = .ok (.goto 4, 3) := by decide +kernel
theorem dL_days_327 : decode cL_days 327 = .ok (.iconst 0, 1) := by decide +kernel
theorem dL_days_328 : decode cL_days 328 = .ok (.ireturn, 1) := by decide +kernel
theorem dL_isLine_0 : decode cL_isLine 0 = .ok (.iload_n 1, 1) := by decide +kernel
theorem dL_isLine_1 : decode cL_isLine 1 = .ok (.bipush 9, 2) := by decide +kernel
theorem dL_isLine_3 : decode cL_isLine 3 = .ok (.if_icmp .le 7, 3) := by decide +kernel
theorem dL_isLine_6 : decode cL_isLine 6 = .ok (.iconst 1, 1) := by decide +kernel
theorem dL_isLine_7 : decode cL_isLine 7 = .ok (.goto 4, 3) := by decide +kernel
theorem dL_isLine_10 : decode cL_isLine 10 = .ok (.iconst 0, 1) := by decide +kernel
theorem dL_isLine_11 : decode cL_isLine 11 = .ok (.istore 6, 2) := by decide +kernel
theorem dL_isLine_13 : decode cL_isLine 13 = .ok (.aload_n 3, 1) := by decide +kernel
theorem dL_isLine_14 : decode cL_isLine 14 = .ok (.iload_n 1, 1) := by decide +kernel
theorem dL_isLine_15 : decode cL_isLine 15 = .ok (.iaload, 1) := by decide +kernel
theorem dL_isLine_16 : decode cL_isLine 16 = .ok (.istore 7, 2) := by decide +kernel
theorem dL_isLine_18 : decode cL_isLine 18 = .ok (.aload_n 3, 1) := by decide +kernel
theorem dL_isLine_19 : decode cL_isLine 19 = .ok (.iload_n 1, 1) := by decide +kernel
theorem dL_isLine_20 : decode cL_isLine 20 = .ok (.invokestatic 130, 3) := by decide +kernel
theorem dL_isLine_23 : decode cL_isLine 23 = .ok (.ifCond .eq 8, 3) := by decide +kernel
theorem dL_isLine_26 : decode cL_isLine 26 = .ok (.bipush 86, 2) := by decide +kernel
theorem dL_isLine_28 : decode cL_isLine 28 = .ok (.goto 35, 3) := by decide +kernel
theorem dL_isLine_31 : decode cL_isLine 31 = .ok (.iload 7, 2) := by decide +kernel
theorem dL_isLine_33 : decode cL_isLine 33 = .ok (.bipush 17, 2) := by decide +kernel
theorem dL_isLine_35 : decode cL_isLine 35 = .ok (.ishr, 1) := by decide +kernel
theorem dL_isLine_36 : decode cL_isLine 36 = .ok (.ifCond .le 8, 3) := by decide +kernel
theorem dL_isLine_39 : decode cL_isLine 39 = .ok (.bipush 83, 2) := by decide +kernel
theorem dL_isLine_41 : decode cL_isLine 41 = .ok (.goto 22, 3) := by decide +kernel
theorem dL_isLine_44 : decode cL_isLine 44 = .ok (.aload_n 2, 1) := by decide +kernel
theorem dL_isLine_45 : decode cL_isLine 45 = .ok (.aload_n 3, 1) := by decide +kernel
theorem dL_isLine_46 : decode cL_isLine 46 = .ok (.aload 4, 2) := by decide +kernel
theorem dL_isLine_48 : decode cL_isLine 48 = .ok (.aload 5, 2) := by decide +kernel
theorem dL_isLine_50 : decode cL_isLine 50 = .ok (.iload_n 1, 1) := by decide +kernel
theorem dL_isLine_51 : decode cL_isLine 51 = .ok (.invokestatic 168, 3) := by decide +kernel
theorem dL_isLine_54 : decode cL_isLine 54 = .ok (.ifCond .eq 8, 3) := by decide +kernel
theorem dL_isLine_57 : decode cL_isLine 57 = .ok (.bipush 70, 2) := by decide +kernel
theorem dL_isLine_59 : decode cL_isLine 59 = .ok (.goto 4, 3) := by decide +kernel
theorem dL_isLine_62 : decode cL_isLine 62 = .ok (.iconst 0, 1) := by decide +kernel
theorem dL_isLine_63 : decode cL_isLine 63 = .ok (.istore 8, 2) := by decide +kernel
theorem dL_isLine_65 : decode cL_isLine 65 = .ok (.aload_n 0, 1) := by decide +kernel
theorem dL_isLine_66 : decode cL_isLine 66 = .ok (.iload_n 1, 1) := by decide +kernel
theorem dL_isLine_67 : decode cL_isLine 67 = .ok (.invokestatic 207, 3) := by decide +kernel
theorem dL_isLine_70 : decode cL_isLine 70 = .ok (.bipush 10, 2) := by decide +kernel
theorem dL_isLine_72 : decode cL_isLine 72 = .ok (.iload 6, 2) := by decide +kernel
theorem dL_isLine_74 : decode cL_isLine 74 = .ok (.iadd, 1) := by decide +kernel
theorem dL_isLine_75 : decode cL_isLine 75 = .ok (.iload 8, 2) := by decide +kernel
theorem dL_isLine_77 : decode cL_isLine 77 = .ok (.ifCond .le 7, 3) := by decide +kernel
theorem dL_isLine_80 : decode cL_isLine 80 = .ok (.iconst 1, 1) := by decide +kernel
theorem dL_isLine_81 : decode cL_isLine 81 = .ok (.goto 4, 3) := by decide +kernel
theorem dL_isLine_84 : decode cL_isLine 84 = .ok (.iconst 0, 1) := by decide +kernel
theorem dL_isLine_85 : decode cL_isLine 85 = .ok (.iadd, 1) := by decide +kernel
theorem dL_isLine_86 : decode cL_isLine 86 = .ok (.if_icmp .ne 83, 3) := by decide +kernel
theorem dL_isLine_89 : decode cL_isLine 89 = .ok (.aload_n 0, 1) := by decide +kernel
theorem dL_isLine_90 : decode cL_isLine 90 = .ok (.iload_n 1, 1) := by decide +kernel
theorem dL_isLine_91 : decode cL_isLine 91 = .ok (.iconst 0, 1) := by decide +kernel
theorem dL_isLine_92 : decode cL_isLine 92 = .ok (.invokestatic 209, 3) := by decide +kernel
theorem dL_isLine_95 : decode cL_isLine 95 = .ok (.bipush 35, 2) := by decide +kernel
theorem dL_isLine_97 : decode cL_isLine 97 = .ok (.if_icmp .ne 72, 3) := by decide +kernel
theorem dL_isLine_100 : decode cL_isLine 100 = .ok (.iload 6, 2) := by decide +kernel
theorem dL_isLine_102 : decode cL_isLine 102 = .ok (.iconst 1, 1) := by decide +kernel
theorem dL_isLine_103 : decode cL_isLine 103 = .ok (.if_icmp .ne 19, 3) := by decide +kernel
theorem dL_isLine_106 : decode cL_isLine 106 = .ok (.aload_n 0, 1) := by decide +kernel
theorem dL_isLine_107 : decode cL_isLine 107 = .ok (.iload_n 1, 1) := by decide +kernel
theorem dL_isLine_108 : decode cL_isLine 108 = .ok (.iconst 1, 1) := by decide +kernel
theorem dL_isLine_109 : decode cL_isLine 109 = .ok (.invokestatic 209, 3) := by decide +kernel
theorem dL_isLine_112 : decode cL_isLine 112 = .ok (.bipush 48, 2) := by decide +kernel
theorem dL_isLine_114 : decode cL_isLine 114 = .ok (.iload_n 1, 1) := by decide +kernel
theorem dL_isLine_115 : decode cL_isLine 115 = .ok (.bipush 10, 2) := by decide +kernel
theorem dL_isLine_117 : decode cL_isLine 117 = .ok (.idiv, 1) := by decide +kernel
theorem dL_isLine_118 : decode cL_isLine 118 = .ok (.iadd, 1) := by decide +kernel
theorem dL_isLine_119 : decode cL_isLine 119 = .ok (.if_icmp .ne 50, 3) := by decide +kernel
theorem dL_isLine_122 : decode cL_isLine 122 = .ok (.aload_n 0, 1) := by decide +kernel
theorem dL_isLine_123 : decode cL_isLine 123 = .ok (.iload_n 1, 1) := by decide +kernel
theorem dL_isLine_124 : decode cL_isLine 124 = .ok (.iconst 1, 1) := by decide +kernel
theorem dL_isLine_125 : decode cL_isLine 125 = .ok (.iload 6, 2) := by decide +kernel
theorem dL_isLine_127 : decode cL_isLine 127 = .ok (.iadd, 1) := by decide +kernel
theorem dL_isLine_128 : decode cL_isLine 128 = .ok (.invokestatic 209, 3) := by decide +kernel
theorem dL_isLine_131 : decode cL_isLine 131 = .ok (.bipush 48, 2) := by decide +kernel
theorem dL_isLine_133 : decode cL_isLine 133 = .ok (.iload_n 1, 1) := by decide +kernel
theorem dL_isLine_134 : decode cL_isLine 134 = .ok (.bipush 10, 2) := by decide +kernel
theorem dL_isLine_136 : decode cL_isLine 136 = .ok (.irem, 1) := by decide +kernel
theorem dL_isLine_137 : decode cL_isLine 137 = .ok (.iadd, 1) := by decide +kernel
theorem dL_isLine_138 : decode cL_isLine 138 = .ok (.if_icmp .ne 31, 3) := by decide +kernel
theorem dL_isLine_141 : decode cL_isLine 141 = .ok (.aload_n 0, 1) := by decide +kernel
theorem dL_isLine_142 : decode cL_isLine 142 = .ok (.iload_n 1, 1) := by decide +kernel
theorem dL_isLine_143 : decode cL_isLine 143 = .ok (.iconst 2, 1) := by decide +kernel
theorem dL_isLine_144 : decode cL_isLine 144 = .ok (.iload 6, 2) := by decide +kernel
theorem dL_isLine_146 : decode cL_isLine 146 = .ok (.iadd, 1) := by decide +kernel
theorem dL_isLine_147 : decode cL_isLine 147 = .ok (.invokestatic 209, 3) := by decide +kernel
theorem dL_isLine_150 : decode cL_isLine 150 = .ok (.bipush 32, 2) := by decide +kernel
theorem dL_isLine_152 : decode cL_isLine 152 = .ok (.if_icmp .ne 17, 3) := by decide +kernel
theorem dL_isLine_155 : decode cL_isLine 155 = .ok (.aload_n 0, 1) := by decide +kernel
theorem dL_isLine_156 : decode cL_isLine 156 = .ok (.iload_n 1, 1) := by decide +kernel
theorem dL_isLine_157 : decode cL_isLine 157 = .ok (.iconst 3, 1) := by decide +kernel
theorem dL_isLine_158 : decode cL_isLine 158 = .ok (.iload 6, 2) := by decide +kernel
theorem dL_isLine_160 : decode cL_isLine 160 = .ok (.iadd, 1) := by decide +kernel
theorem dL_isLine_161 : decode cL_isLine 161 = .ok (.invokestatic 209, 3) := by decide +kernel
theorem dL_isLine_164 : decode cL_isLine 164 = .ok (.bipush 84, 2) := by decide +kernel
theorem dL_isLine_166 : decode cL_isLine 166 = .ok (.if_icmp .eq 5, 3) := by decide +kernel
theorem dL_isLine_169 : decode cL_isLine 169 = .ok (.iconst 0, 1) := by decide +kernel
theorem dL_isLine_170 : decode cL_isLine 170 = .ok (.ireturn, 1) := by decide +kernel
theorem dL_isLine_171 : decode cL_isLine 171 = .ok (.aload_n 0, 1) := by decide +kernel
theorem dL_isLine_172 : decode cL_isLine 172 = .ok (.iload_n 1, 1) := by decide +kernel
theorem dL_isLine_173 : decode cL_isLine 173 = .ok (.iconst 4, 1) := by decide +kernel
theorem dL_isLine_174 : decode cL_isLine 174 = .ok (.iload 6, 2) := by decide +kernel
theorem dL_isLine_176 : decode cL_isLine 176 = .ok (.iadd, 1) := by decide +kernel
theorem dL_isLine_177 : decode cL_isLine 177 = .ok (.invokestatic 209, 3) := by decide +kernel
theorem dL_isLine_180 : decode cL_isLine 180 = .ok (.bipush 48, 2) := by decide +kernel
theorem dL_isLine_182 : decode cL_isLine 182 = .ok (.iload 7, 2) := by decide +kernel
theorem dL_isLine_184 : decode cL_isLine 184 = .ok (.iconst 3, 1) := by decide +kernel
theorem dL_isLine_185 : decode cL_isLine 185 = .ok (.iand, 1) := by decide +kernel
theorem dL_isLine_186 : decode cL_isLine 186 = .ok (.iconst 2, 1) := by decide +kernel
theorem dL_isLine_187 : decode cL_isLine 187 = .ok (.idiv, 1) := by decide +kernel
theorem dL_isLine_188 : decode cL_isLine 188 = .ok (.iadd, 1) := by decide +kernel
theorem dL_isLine_189 : decode cL_isLine 189 = .ok (.if_icmp .ne 135, 3) := by decide +kernel
theorem dL_isLine_192 : decode cL_isLine 192 = .ok (.aload_n 0, 1) := by decide +kernel
theorem dL_isLine_193 : decode cL_isLine 193 = .ok (.iload_n 1, 1) := by decide +kernel
theorem dL_isLine_194 : decode cL_isLine 194 = .ok (.iconst 5, 1) := by decide +kernel
theorem dL_isLine_195 : decode cL_isLine 195 = .ok (.iload 6, 2) := by decide +kernel
theorem dL_isLine_197 : decode cL_isLine 197 = .ok (.iadd, 1) := by decide +kernel
theorem dL_isLine_198 : decode cL_isLine 198 = .ok (.invokestatic 209, 3) := by decide +kernel
theorem dL_isLine_201 : decode cL_isLine 201 = .ok (.bipush 76, 2) := by decide +kernel
theorem dL_isLine_203 : decode cL_isLine 203 = .ok (.if_icmp .ne 121, 3) := by decide +kernel
theorem dL_isLine_206 : decode cL_isLine 206 = .ok (.aload_n 0, 1) := by decide +kernel
theorem dL_isLine_207 : decode cL_isLine 207 = .ok (.iload_n 1, 1) := by decide +kernel
theorem dL_isLine_208 : decode cL_isLine 208 = .ok (.bipush 6, 2) := by decide +kernel
theorem dL_isLine_210 : decode cL_isLine 210 = .ok (.iload 6, 2) := by decide +kernel
theorem dL_isLine_212 : decode cL_isLine 212 = .ok (.iadd, 1) := by decide +kernel
theorem dL_isLine_213 : decode cL_isLine 213 = .ok (.invokestatic 209, 3) := by decide +kernel
theorem dL_isLine_216 : decode cL_isLine 216 = .ok (.bipush 48, 2) := by decide +kernel
theorem dL_isLine_218 : decode cL_isLine 218 = .ok (.iload 7, 2) := by decide +kernel
theorem dL_isLine_220 : decode cL_isLine 220 = .ok (.iconst 1, 1) := by decide +kernel
theorem dL_isLine_221 : decode cL_isLine 221 = .ok (.iand, 1) := by decide +kernel
theorem dL_isLine_222 : decode cL_isLine 222 = .ok (.iadd, 1) := by decide +kernel
theorem dL_isLine_223 : decode cL_isLine 223 = .ok (.if_icmp .ne 101, 3) := by decide +kernel
theorem dL_isLine_226 : decode cL_isLine 226 = .ok (.aload_n 0, 1) := by decide +kernel
theorem dL_isLine_227 : decode cL_isLine 227 = .ok (.iload_n 1, 1) := by decide +kernel
theorem dL_isLine_228 : decode cL_isLine 228 = .ok (.bipush 7, 2) := by decide +kernel
theorem dL_isLine_230 : decode cL_isLine 230 = .ok (.iload 6, 2) := by decide +kernel
theorem dL_isLine_232 : decode cL_isLine 232 = .ok (.iadd, 1) := by decide +kernel
theorem dL_isLine_233 : decode cL_isLine 233 = .ok (.invokestatic 209, 3) := by decide +kernel
theorem dL_isLine_236 : decode cL_isLine 236 = .ok (.bipush 32, 2) := by decide +kernel
theorem dL_isLine_238 : decode cL_isLine 238 = .ok (.if_icmp .ne 86, 3) := by decide +kernel
theorem dL_isLine_241 : decode cL_isLine 241 = .ok (.aload_n 0, 1) := by decide +kernel
theorem dL_isLine_242 : decode cL_isLine 242 = .ok (.iload_n 1, 1) := by decide +kernel
theorem dL_isLine_243 : decode cL_isLine 243 = .ok (.bipush 8, 2) := by decide +kernel
theorem dL_isLine_245 : decode cL_isLine 245 = .ok (.iload 6, 2) := by decide +kernel
theorem dL_isLine_247 : decode cL_isLine 247 = .ok (.iadd, 1) := by decide +kernel
theorem dL_isLine_248 : decode cL_isLine 248 = .ok (.invokestatic 209, 3) := by decide +kernel
theorem dL_isLine_251 : decode cL_isLine 251 = .ok (.bipush 66, 2) := by decide +kernel
theorem dL_isLine_253 : decode cL_isLine 253 = .ok (.if_icmp .ne 71, 3) := by decide +kernel
theorem dL_isLine_256 : decode cL_isLine 256 = .ok (.aload_n 0, 1) := by decide +kernel
theorem dL_isLine_257 : decode cL_isLine 257 = .ok (.iload_n 1, 1) := by decide +kernel
theorem dL_isLine_258 : decode cL_isLine 258 = .ok (.bipush 9, 2) := by decide +kernel
theorem dL_isLine_260 : decode cL_isLine 260 = .ok (.iload 6, 2) := by decide +kernel
theorem dL_isLine_262 : decode cL_isLine 262 = .ok (.iadd, 1) := by decide +kernel
theorem dL_isLine_263 : decode cL_isLine 263 = .ok (.invokestatic 209, 3) := by decide +kernel
theorem dL_isLine_266 : decode cL_isLine 266 = .ok (.bipush 48, 2) := by decide +kernel
theorem dL_isLine_268 : decode cL_isLine 268 = .ok (.iload 7, 2) := by decide +kernel
theorem dL_isLine_270 : decode cL_isLine 270 = .ok (.iconst 2, 1) := by decide +kernel
theorem dL_isLine_271 : decode cL_isLine 271 = .ok (.ishr, 1) := by decide +kernel
theorem dL_isLine_272 : decode cL_isLine 272 = .ok (.iconst 3, 1) := by decide +kernel
theorem dL_isLine_273 : decode cL_isLine 273 = .ok (.iand, 1) := by decide +kernel
theorem dL_isLine_274 : decode cL_isLine 274 = .ok (.iadd, 1) := by decide +kernel
theorem dL_isLine_275 : decode cL_isLine 275 = .ok (.if_icmp .ne 49, 3) := by decide +kernel
theorem dL_isLine_278 : decode cL_isLine 278 = .ok (.aload_n 0, 1) := by decide +kernel
theorem dL_isLine_279 : decode cL_isLine 279 = .ok (.iload_n 1, 1) := by decide +kernel
theorem dL_isLine_280 : decode cL_isLine 280 = .ok (.bipush 10, 2) := by decide +kernel
theorem dL_isLine_282 : decode cL_isLine 282 = .ok (.iload 6, 2) := by decide +kernel
theorem dL_isLine_284 : decode cL_isLine 284 = .ok (.iadd, 1) := by decide +kernel
theorem dL_isLine_285 : decode cL_isLine 285 = .ok (.invokestatic 209, 3) := by decide +kernel
theorem dL_isLine_288 : decode cL_isLine 288 = .ok (.iload 8, 2) := by decide +kernel
theorem dL_isLine_290 : decode cL_isLine 290 = .ok (.ifCond .le 8, 3) := by decide +kernel
theorem dL_isLine_293 : decode cL_isLine 293 = .ok (.iload 8, 2) := by decide +kernel
theorem dL_isLine_295 : decode cL_isLine 295 = .ok (.goto 6, 3) := by decide +kernel
theorem dL_isLine_298 : decode cL_isLine 298 = .ok (.sipush (-7100), 3) := by decide +kernel
theorem dL_isLine_301 : decode cL_isLine 301 = .ok (.if_icmp .ne 23, 3) := by decide +kernel
theorem dL_isLine_304 : decode cL_isLine 304 = .ok (.aload_n 0, 1) := by decide +kernel
theorem dL_isLine_305 : decode cL_isLine 305 = .ok (.iload_n 1, 1) := by decide +kernel
theorem dL_isLine_306 : decode cL_isLine 306 = .ok (.bipush 11, 2) := by decide +kernel
theorem dL_isLine_308 : decode cL_isLine 308 = .ok (.iload 6, 2) := by decide +kernel
theorem dL_isLine_310 : decode cL_isLine 310 = .ok (.iadd, 1) := by decide +kernel
theorem dL_isLine_311 : decode cL_isLine 311 = .ok (.invokestatic 209, 3) := by decide +kernel
theorem dL_isLine_314 : decode cL_isLine 314 = .ok (.sipush (-7100), 3) := by decide +kernel
theorem dL_isLine_317 : decode cL_isLine 317 = .ok (.if_icmp .ne 7, 3) := by decide +kernel
theorem dL_isLine_320 : decode cL_isLine 320 = .ok (.iconst 1, 1) := by decide +kernel
theorem dL_isLine_321 : decode cL_isLine 321 = .ok (.goto 4, 3) := by decide +kernel
theorem dL_isLine_324 : decode cL_isLine 324 = .ok (.iconst 0, 1) := by decide +kernel
theorem dL_isLine_325 : decode cL_isLine 325 = .ok (.ireturn, 1) := by decide +kernel
theorem dL_law_0 : decode cL_law 0 = .ok (.new 9, 3) := by decide +kernel
theorem dL_law_3 : decode cL_law 3 = .ok (.dup, 1) := by decide +kernel
theorem dL_law_4 : decode cL_law 4 = .ok (.invokespecial 234, 3) := by decide +kernel
theorem dL_law_7 : decode cL_law 7 = .ok (.astore_n 1, 1) := by decide +kernel
theorem dL_law_8 : decode cL_law 8 = .ok (.bipush 24, 2) := by decide +kernel
theorem dL_law_10 : decode cL_law 10 = .ok (.newarray .int, 2) := by decide +kernel
theorem dL_law_12 : decode cL_law 12 = .ok (.astore_n 2, 1) := by decide +kernel
theorem dL_law_13 : decode cL_law 13 = .ok (.iconst 2, 1) := by decide +kernel
theorem dL_law_14 : decode cL_law 14 = .ok (.newarray .int, 2) := by decide +kernel
theorem dL_law_16 : decode cL_law 16 = .ok (.astore_n 3, 1) := by decide +kernel
theorem dL_law_17 : decode cL_law 17 = .ok (.iconst 4, 1) := by decide +kernel
theorem dL_law_18 : decode cL_law 18 = .ok (.newarray .int, 2) := by decide +kernel
theorem dL_law_20 : decode cL_law 20 = .ok (.astore 4, 2) := by decide +kernel
theorem dL_law_22 : decode cL_law 22 = .ok (.bipush 16, 2) := by decide +kernel
theorem dL_law_24 : decode cL_law 24 = .ok (.newarray .int, 2) := by decide +kernel
theorem dL_law_26 : decode cL_law 26 = .ok (.astore 5, 2) := by decide +kernel
theorem dL_law_28 : decode cL_law 28 = .ok (.bipush 16, 2) := by decide +kernel
theorem dL_law_30 : decode cL_law 30 = .ok (.newarray .int, 2) := by decide +kernel
theorem dL_law_32 : decode cL_law 32 = .ok (.astore 6, 2) := by decide +kernel
theorem dL_law_34 : decode cL_law 34 = .ok (.bipush 16, 2) := by decide +kernel
theorem dL_law_36 : decode cL_law 36 = .ok (.newarray .int, 2) := by decide +kernel
theorem dL_law_38 : decode cL_law 38 = .ok (.astore 7, 2) := by decide +kernel
theorem dL_law_40 : decode cL_law 40 = .ok (.bipush 60, 2) := by decide +kernel
theorem dL_law_42 : decode cL_law 42 = .ok (.newarray .int, 2) := by decide +kernel
theorem dL_law_44 : decode cL_law 44 = .ok (.astore 8, 2) := by decide +kernel
theorem dL_law_46 : decode cL_law 46 = .ok (.bipush 32, 2) := by decide +kernel
theorem dL_law_48 : decode cL_law 48 = .ok (.newarray .int, 2) := by decide +kernel
theorem dL_law_50 : decode cL_law 50 = .ok (.astore 9, 2) := by decide +kernel
theorem dL_law_52 : decode cL_law 52 = .ok (.bipush 32, 2) := by decide +kernel
theorem dL_law_54 : decode cL_law 54 = .ok (.newarray .int, 2) := by decide +kernel
theorem dL_law_56 : decode cL_law 56 = .ok (.astore 10, 2) := by decide +kernel
theorem dL_law_58 : decode cL_law 58 = .ok (.bipush 32, 2) := by decide +kernel
theorem dL_law_60 : decode cL_law 60 = .ok (.newarray .int, 2) := by decide +kernel
theorem dL_law_62 : decode cL_law 62 = .ok (.astore 11, 2) := by decide +kernel
theorem dL_law_64 : decode cL_law 64 = .ok (.iconst 4, 1) := by decide +kernel
theorem dL_law_65 : decode cL_law 65 = .ok (.newarray .int, 2) := by decide +kernel
theorem dL_law_67 : decode cL_law 67 = .ok (.astore 12, 2) := by decide +kernel
theorem dL_law_69 : decode cL_law 69 = .ok (.bipush 7, 2) := by decide +kernel
theorem dL_law_71 : decode cL_law 71 = .ok (.newarray .int, 2) := by decide +kernel
theorem dL_law_73 : decode cL_law 73 = .ok (.astore 13, 2) := by decide +kernel
theorem dL_law_75 : decode cL_law 75 = .ok (.iconst 0, 1) := by decide +kernel
theorem dL_law_76 : decode cL_law 76 = .ok (.istore 14, 2) := by decide +kernel
theorem dL_law_78 : decode cL_law 78 = .ok (.iload 14, 2) := by decide +kernel
theorem dL_law_80 : decode cL_law 80 = .ok (.iconst 4, 1) := by decide +kernel
theorem dL_law_81 : decode cL_law 81 = .ok (.if_icmp .ge 15, 3) := by decide +kernel
theorem dL_law_84 : decode cL_law 84 = .ok (.aload 4, 2) := by decide +kernel
theorem dL_law_86 : decode cL_law 86 = .ok (.iload 14, 2) := by decide +kernel
theorem dL_law_88 : decode cL_law 88 = .ok (.iconst (-1), 1) := by decide +kernel
theorem dL_law_89 : decode cL_law 89 = .ok (.iastore, 1) := by decide +kernel
theorem dL_law_90 : decode cL_law 90 = .ok (.iinc 14 1, 3) := by decide +kernel
theorem dL_law_93 : decode cL_law 93 = .ok (.goto (-15), 3) := by decide +kernel
theorem dL_law_96 : decode cL_law 96 = .ok (.aload_n 1, 1) := by decide +kernel
theorem dL_law_97 : decode cL_law 97 = .ok (.iconst 0, 1) := by decide +kernel
theorem dL_law_98 : decode cL_law 98 = .ok (.aload_n 3, 1) := by decide +kernel
theorem dL_law_99 : decode cL_law 99 = .ok (.aload 4, 2) := by decide +kernel
theorem dL_law_101 : decode cL_law 101 = .ok (.aload 5, 2) := by decide +kernel
theorem dL_law_103 : decode cL_law 103 = .ok (.aload 6, 2) := by decide +kernel
theorem dL_law_105 : decode cL_law 105 = .ok (.aload 7, 2) := by decide +kernel
theorem dL_law_107 : decode cL_law 107 = .ok (.aload 8, 2) := by decide +kernel
theorem dL_law_109 : decode cL_law 109 = .ok (.aload 9, 2) := by decide +kernel
theorem dL_law_111 : decode cL_law 111 = .ok (.aload 10, 2) := by decide +kernel
theorem dL_law_113 : decode cL_law 113 = .ok (.aload 11, 2) := by decide +kernel
theorem dL_law_115 : decode cL_law 115 = .ok (.aload 12, 2) := by decide +kernel
theorem dL_law_117 : decode cL_law 117 = .ok (.aload 13, 2) := by decide +kernel
theorem dL_law_119 : decode cL_law 119 = .ok (.invokestatic 235, 3) := by decide +kernel
theorem dL_law_122 : decode cL_law 122 = .ok (.ifCond .ne 5, 3) := by decide +kernel
theorem dL_law_125 : decode cL_law 125 = .ok (.iconst 0, 1) := by decide +kernel
theorem dL_law_126 : decode cL_law 126 = .ok (.ireturn, 1) := by decide +kernel
theorem dL_law_127 : decode cL_law 127 = .ok (.iconst 0, 1) := by decide +kernel
theorem dL_law_128 : decode cL_law 128 = .ok (.istore 14, 2) := by decide +kernel
theorem dL_law_130 : decode cL_law 130 = .ok (.iload 14, 2) := by decide +kernel
theorem dL_law_132 : decode cL_law 132 = .ok (.sipush 150, 3) := by decide +kernel
theorem dL_law_135 : decode cL_law 135 = .ok (.if_icmp .ge 295, 3) := by decide +kernel
theorem dL_law_138 : decode cL_law 138 = .ok (.aload_n 0, 1) := by decide +kernel
theorem dL_law_139 : decode cL_law 139 = .ok (.iconst 3, 1) := by decide +kernel
theorem dL_law_140 : decode cL_law 140 = .ok (.iload 14, 2) := by decide +kernel
theorem dL_law_142 : decode cL_law 142 = .ok (.imul, 1) := by decide +kernel
theorem dL_law_143 : decode cL_law 143 = .ok (.invokestatic 239, 3) := by decide +kernel
theorem dL_law_146 : decode cL_law 146 = .ok (.istore 15, 2) := by decide +kernel
theorem dL_law_148 : decode cL_law 148 = .ok (.aload_n 0, 1) := by decide +kernel
theorem dL_law_149 : decode cL_law 149 = .ok (.iconst 3, 1) := by decide +kernel
theorem dL_law_150 : decode cL_law 150 = .ok (.iload 14, 2) := by decide +kernel
theorem dL_law_152 : decode cL_law 152 = .ok (.imul, 1) := by decide +kernel
theorem dL_law_153 : decode cL_law 153 = .ok (.iconst 1, 1) := by decide +kernel
theorem dL_law_154 : decode cL_law 154 = .ok (.iadd, 1) := by decide +kernel
theorem dL_law_155 : decode cL_law 155 = .ok (.invokestatic 239, 3) := by decide +kernel
theorem dL_law_158 : decode cL_law 158 = .ok (.istore 16, 2) := by decide +kernel
theorem dL_law_160 : decode cL_law 160 = .ok (.aload_n 0, 1) := by decide +kernel
theorem dL_law_161 : decode cL_law 161 = .ok (.iconst 3, 1) := by decide +kernel
theorem dL_law_162 : decode cL_law 162 = .ok (.iload 14, 2) := by decide +kernel
theorem dL_law_164 : decode cL_law 164 = .ok (.imul, 1) := by decide +kernel
theorem dL_law_165 : decode cL_law 165 = .ok (.iconst 2, 1) := by decide +kernel
theorem dL_law_166 : decode cL_law 166 = .ok (.iadd, 1) := by decide +kernel
theorem dL_law_167 : decode cL_law 167 = .ok (.invokestatic 239, 3) := by decide +kernel
theorem dL_law_170 : decode cL_law 170 = .ok (.istore 17, 2) := by decide +kernel
theorem dL_law_172 : decode cL_law 172 = .ok (.aload 13, 2) := by decide +kernel
theorem dL_law_174 : decode cL_law 174 = .ok (.iconst 4, 1) := by decide +kernel
theorem dL_law_175 : decode cL_law 175 = .ok (.iaload, 1) := by decide +kernel
theorem dL_law_176 : decode cL_law 176 = .ok (.bipush 22, 2) := by decide +kernel
theorem dL_law_178 : decode cL_law 178 = .ok (.if_icmp .gt 41, 3) := by decide +kernel
theorem dL_law_181 : decode cL_law 181 = .ok (.aload 13, 2) := by decide +kernel
theorem dL_law_183 : decode cL_law 183 = .ok (.iconst 5, 1) := by decide +kernel
theorem dL_law_184 : decode cL_law 184 = .ok (.iaload, 1) := by decide +kernel
theorem dL_law_185 : decode cL_law 185 = .ok (.bipush 30, 2) := by decide +kernel
theorem dL_law_187 : decode cL_law 187 = .ok (.if_icmp .gt 32, 3) := by decide +kernel
theorem dL_law_190 : decode cL_law 190 = .ok (.aload 13, 2) := by decide +kernel
theorem dL_law_192 : decode cL_law 192 = .ok (.bipush 6, 2) := by decide +kernel
theorem dL_law_194 : decode cL_law 194 = .ok (.iaload, 1) := by decide +kernel
theorem dL_law_195 : decode cL_law 195 = .ok (.bipush 30, 2) := by decide +kernel
theorem dL_law_197 : decode cL_law 197 = .ok (.if_icmp .gt 22, 3) := by decide +kernel
theorem dL_law_200 : decode cL_law 200 = .ok (.aload 13, 2) := by decide +kernel
theorem dL_law_202 : decode cL_law 202 = .ok (.iconst 3, 1) := by decide +kernel
theorem dL_law_203 : decode cL_law 203 = .ok (.iaload, 1) := by decide +kernel
theorem dL_law_204 : decode cL_law 204 = .ok (.bipush 50, 2) := by decide +kernel
theorem dL_law_206 : decode cL_law 206 = .ok (.if_icmp .gt 13, 3) := by decide +kernel
theorem dL_law_209 : decode cL_law 209 = .ok (.aload 13, 2) := by decide +kernel
theorem dL_law_211 : decode cL_law 211 = .ok (.iconst 0, 1) := by decide +kernel
theorem dL_law_212 : decode cL_law 212 = .ok (.iaload, 1) := by decide +kernel
theorem dL_law_213 : decode cL_law 213 = .ok (.sipush 900, 3) := by decide +kernel
theorem dL_law_216 : decode cL_law 216 = .ok (.if_icmp .le 5, 3) := by decide +kernel
theorem dL_law_219 : decode cL_law 219 = .ok (.iconst 1, 1) := by decide +kernel
theorem dL_law_220 : decode cL_law 220 = .ok (.ireturn, 1) := by decide +kernel
theorem dL_law_221 : decode cL_law 221 = .ok (.iload 14, 2) := by decide +kernel
theorem dL_law_223 : decode cL_law 223 = .ok (.iconst 2, 1) := by decide +kernel
theorem dL_law_224 : decode cL_law 224 = .ok (.if_icmp .ge 7, 3) := by decide +kernel
theorem dL_law_227 : decode cL_law 227 = .ok (.iconst 0, 1) := by decide +kernel
theorem dL_law_228 : decode cL_law 228 = .ok (.goto 32, 3) := by decide +kernel
theorem dL_law_231 : decode cL_law 231 = .ok (.iload 14, 2) := by decide +kernel
theorem dL_law_233 : decode cL_law 233 = .ok (.iconst 5, 1) := by decide +kernel
theorem dL_law_234 : decode cL_law 234 = .ok (.if_icmp .ge 7, 3) := by decide +kernel
theorem dL_law_237 : decode cL_law 237 = .ok (.iconst 4, 1) := by decide +kernel
theorem dL_law_238 : decode cL_law 238 = .ok (.goto 22, 3) := by decide +kernel
theorem dL_law_241 : decode cL_law 241 = .ok (.iload 15, 2) := by decide +kernel
theorem dL_law_243 : decode cL_law 243 = .ok (.iload 14, 2) := by decide +kernel
theorem dL_law_245 : decode cL_law 245 = .ok (.bipush 25, 2) := by decide +kernel
theorem dL_law_247 : decode cL_law 247 = .ok (.if_icmp .ge 8, 3) := by decide +kernel
theorem dL_law_250 : decode cL_law 250 = .ok (.bipush 15, 2) := by decide +kernel
theorem dL_law_252 : decode cL_law 252 = .ok (.goto 5, 3) := by decide +kernel
theorem dL_law_255 : decode cL_law 255 = .ok (.bipush 48, 2) := by decide +kernel
theorem dL_law_257 : decode cL_law 257 = .ok (.invokestatic 145, 3) := by decide +kernel
theorem dL_law_260 : decode cL_law 260 = .ok (.istore 18, 2) := by decide +kernel
theorem dL_law_262 : decode cL_law 262 = .ok (.iload 18, 2) := by decide +kernel
theorem dL_law_264 : decode cL_law 264 = .ok (.bipush 15, 2) := by decide +kernel
theorem dL_law_266 : decode cL_law 266 = .ok (.if_icmp .ge 26, 3) := by decide +kernel
theorem dL_law_269 : decode cL_law 269 = .ok (.aload_n 1, 1) := by decide +kernel
theorem dL_law_270 : decode cL_law 270 = .ok (.iload 18, 2) := by decide +kernel
theorem dL_law_272 : decode cL_law 272 = .ok (.iload 16, 2) := by decide +kernel
theorem dL_law_274 : decode cL_law 274 = .ok (.iload 17, 2) := by decide +kernel
theorem dL_law_276 : decode cL_law 276 = .ok (.aload_n 2, 1) := by decide +kernel
theorem dL_law_277 : decode cL_law 277 = .ok (.aload_n 3, 1) := by decide +kernel
theorem dL_law_278 : decode cL_law 278 = .ok (.aload 4, 2) := by decide +kernel
theorem dL_law_280 : decode cL_law 280 = .ok (.aload 5, 2) := by decide +kernel
theorem dL_law_282 : decode cL_law 282 = .ok (.aload 6, 2) := by decide +kernel
theorem dL_law_284 : decode cL_law 284 = .ok (.aload 13, 2) := by decide +kernel
theorem dL_law_286 : decode cL_law 286 = .ok (.invokestatic 242, 3) := by decide +kernel
theorem dL_law_289 : decode cL_law 289 = .ok (.goto 91, 3) := by decide +kernel
theorem dL_law_292 : decode cL_law 292 = .ok (.iload 18, 2) := by decide +kernel
theorem dL_law_294 : decode cL_law 294 = .ok (.bipush 25, 2) := by decide +kernel
theorem dL_law_296 : decode cL_law 296 = .ok (.if_icmp .ge 52, 3) := by decide +kernel
theorem dL_law_299 : decode cL_law 299 = .ok (.aload_n 1, 1) := by decide +kernel
theorem dL_law_300 : decode cL_law 300 = .ok (.iconst 1, 1) := by decide +kernel
theorem dL_law_301 : decode cL_law 301 = .ok (.iload 16, 2) := by decide +kernel
theorem dL_law_303 : decode cL_law 303 = .ok (.iload 17, 2) := by decide +kernel
theorem dL_law_305 : decode cL_law 305 = .ok (.sipush 768, 3) := by decide +kernel
theorem dL_law_308 : decode cL_law 308 = .ok (.iand, 1) := by decide +kernel
theorem dL_law_309 : decode cL_law 309 = .ok (.ifCond .ne 8, 3) := by decide +kernel
theorem dL_law_312 : decode cL_law 312 = .ok (.bipush 40, 2) := by decide +kernel
theorem dL_law_314 : decode cL_law 314 = .ok (.goto 4, 3) := by decide +kernel
theorem dL_law_317 : decode cL_law 317 = .ok (.iconst 4, 1) := by decide +kernel
theorem dL_law_318 : decode cL_law 318 = .ok (.invokestatic 145, 3) := by decide +kernel
theorem dL_law_321 : decode cL_law 321 = .ok (.iadd, 1) := by decide +kernel
theorem dL_law_322 : decode cL_law 322 = .ok (.aload_n 2, 1) := by decide +kernel
theorem dL_law_323 : decode cL_law 323 = .ok (.aload_n 3, 1) := by decide +kernel
theorem dL_law_324 : decode cL_law 324 = .ok (.aload 4, 2) := by decide +kernel
theorem dL_law_326 : decode cL_law 326 = .ok (.aload 5, 2) := by decide +kernel
theorem dL_law_328 : decode cL_law 328 = .ok (.aload 6, 2) := by decide +kernel
theorem dL_law_330 : decode cL_law 330 = .ok (.aload 7, 2) := by decide +kernel
theorem dL_law_332 : decode cL_law 332 = .ok (.aload 8, 2) := by decide +kernel
theorem dL_law_334 : decode cL_law 334 = .ok (.aload 9, 2) := by decide +kernel
theorem dL_law_336 : decode cL_law 336 = .ok (.aload 10, 2) := by decide +kernel
theorem dL_law_338 : decode cL_law 338 = .ok (.aload 12, 2) := by decide +kernel
theorem dL_law_340 : decode cL_law 340 = .ok (.aload 13, 2) := by decide +kernel
theorem dL_law_342 : decode cL_law 342 = .ok (.invokestatic 246, 3) := by decide +kernel
theorem dL_law_345 : decode cL_law 345 = .ok (.goto 35, 3) := by decide +kernel
theorem dL_law_348 : decode cL_law 348 = .ok (.aload_n 1, 1) := by decide +kernel
theorem dL_law_349 : decode cL_law 349 = .ok (.iload 18, 2) := by decide +kernel
theorem dL_law_351 : decode cL_law 351 = .ok (.bipush 25, 2) := by decide +kernel
theorem dL_law_353 : decode cL_law 353 = .ok (.isub, 1) := by decide +kernel
theorem dL_law_354 : decode cL_law 354 = .ok (.iload 16, 2) := by decide +kernel
theorem dL_law_356 : decode cL_law 356 = .ok (.iload 17, 2) := by decide +kernel
theorem dL_law_358 : decode cL_law 358 = .ok (.aload_n 3, 1) := by decide +kernel
theorem dL_law_359 : decode cL_law 359 = .ok (.aload 4, 2) := by decide +kernel
theorem dL_law_361 : decode cL_law 361 = .ok (.aload 5, 2) := by decide +kernel
theorem dL_law_363 : decode cL_law 363 = .ok (.aload 6, 2) := by decide +kernel
theorem dL_law_365 : decode cL_law 365 = .ok (.aload 7, 2) := by decide +kernel
theorem dL_law_367 : decode cL_law 367 = .ok (.aload 8, 2) := by decide +kernel
theorem dL_law_369 : decode cL_law 369 = .ok (.aload 9, 2) := by decide +kernel
theorem dL_law_371 : decode cL_law 371 = .ok (.aload 10, 2) := by decide +kernel
theorem dL_law_373 : decode cL_law 373 = .ok (.aload 11, 2) := by decide +kernel
theorem dL_law_375 : decode cL_law 375 = .ok (.aload 13, 2) := by decide +kernel
theorem dL_law_377 : decode cL_law 377 = .ok (.invokestatic 249, 3) := by decide +kernel
theorem dL_law_380 : decode cL_law 380 = .ok (.istore 19, 2) := by decide +kernel
theorem dL_law_382 : decode cL_law 382 = .ok (.iload 19, 2) := by decide +kernel
theorem dL_law_384 : decode cL_law 384 = .ok (.ifCond .eq 38, 3) := by decide +kernel
theorem dL_law_387 : decode cL_law 387 = .ok (.aload_n 1, 1) := by decide +kernel
theorem dL_law_388 : decode cL_law 388 = .ok (.iload 15, 2) := by decide +kernel
theorem dL_law_390 : decode cL_law 390 = .ok (.iconst 5, 1) := by decide +kernel
theorem dL_law_391 : decode cL_law 391 = .ok (.ishr, 1) := by decide +kernel
theorem dL_law_392 : decode cL_law 392 = .ok (.iload 16, 2) := by decide +kernel
theorem dL_law_394 : decode cL_law 394 = .ok (.ixor, 1) := by decide +kernel
theorem dL_law_395 : decode cL_law 395 = .ok (.aload_n 3, 1) := by decide +kernel
theorem dL_law_396 : decode cL_law 396 = .ok (.aload 4, 2) := by decide +kernel
theorem dL_law_398 : decode cL_law 398 = .ok (.aload 5, 2) := by decide +kernel
theorem dL_law_400 : decode cL_law 400 = .ok (.aload 6, 2) := by decide +kernel
theorem dL_law_402 : decode cL_law 402 = .ok (.aload 7, 2) := by decide +kernel
theorem dL_law_404 : decode cL_law 404 = .ok (.aload 8, 2) := by decide +kernel
theorem dL_law_406 : decode cL_law 406 = .ok (.aload 9, 2) := by decide +kernel
theorem dL_law_408 : decode cL_law 408 = .ok (.aload 10, 2) := by decide +kernel
theorem dL_law_410 : decode cL_law 410 = .ok (.aload 11, 2) := by decide +kernel
theorem dL_law_412 : decode cL_law 412 = .ok (.aload 12, 2) := by decide +kernel
theorem dL_law_414 : decode cL_law 414 = .ok (.aload 13, 2) := by decide +kernel
theorem dL_law_416 : decode cL_law 416 = .ok (.invokestatic 235, 3) := by decide +kernel
theorem dL_law_419 : decode cL_law 419 = .ok (.ifCond .ne 5, 3) := by decide +kernel
theorem dL_law_422 : decode cL_law 422 = .ok (.iconst 0, 1) := by decide +kernel
theorem dL_law_423 : decode cL_law 423 = .ok (.ireturn, 1) := by decide +kernel
theorem dL_law_424 : decode cL_law 424 = .ok (.iinc 14 1, 3) := by decide +kernel
theorem dL_law_427 : decode cL_law 427 = .ok (.goto (-297), 3) := by decide +kernel
theorem dL_law_430 : decode cL_law 430 = .ok (.iconst 1, 1) := by decide +kernel
theorem dL_law_431 : decode cL_law 431 = .ok (.ireturn, 1) := by decide +kernel


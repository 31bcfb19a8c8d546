/-! rows of days -/
theorem dL_days_0 : decode cL_days 0 = .ok (.iconst 0, 1) := by decide +kernel
theorem dL_days_1 : decode cL_days 1 = .ok (.istore 13, 2) := by decide +kernel
theorem dL_days_3 : decode cL_days 3 = .ok (.iconst 0, 1) := by decide +kernel
theorem dL_days_4 : decode cL_days 4 = .ok (.istore 14, 2) := by decide +kernel
theorem dL_days_6 : decode cL_days 6 = .ok (.iload 14, 2) := by decide +kernel
theorem dL_days_8 : decode cL_days 8 = .ok (.iload_n 1, 1) := by decide +kernel
theorem dL_days_9 : decode cL_days 9 = .ok (.if_icmp .ge 281, 3) := by decide +kernel
theorem dL_days_12 : decode cL_days 12 = .ok (.aload 12, 2) := by decide +kernel
theorem dL_days_14 : decode cL_days 14 = .ok (.iconst 0, 1) := by decide +kernel
theorem dL_days_15 : decode cL_days 15 = .ok (.dup2, 1) := by decide +kernel
theorem dL_days_16 : decode cL_days 16 = .ok (.iaload, 1) := by decide +kernel
theorem dL_days_17 : decode cL_days 17 = .ok (.iconst 1, 1) := by decide +kernel
theorem dL_days_18 : decode cL_days 18 = .ok (.iadd, 1) := by decide +kernel
theorem dL_days_19 : decode cL_days 19 = .ok (.iastore, 1) := by decide +kernel
theorem dL_days_20 : decode cL_days 20 = .ok (.iconst 0, 1) := by decide +kernel
theorem dL_days_21 : decode cL_days 21 = .ok (.istore 15, 2) := by decide +kernel
theorem dL_days_23 : decode cL_days 23 = .ok (.iload 15, 2) := by decide +kernel
theorem dL_days_25 : decode cL_days 25 = .ok (.bipush 16, 2) := by decide +kernel
theorem dL_days_27 : decode cL_days 27 = .ok (.if_icmp .ge 102, 3) := by decide +kernel
theorem dL_days_30 : decode cL_days 30 = .ok (.iload 15, 2) := by decide +kernel
theorem dL_days_32 : decode cL_days 32 = .ok (.bipush 8, 2) := by decide +kernel
theorem dL_days_34 : decode cL_days 34 = .ok (.idiv, 1) := by decide +kernel
theorem dL_days_35 : decode cL_days 35 = .ok (.aload 12, 2) := by decide +kernel
theorem dL_days_37 : decode cL_days 37 = .ok (.iconst 1, 1) := by decide +kernel
theorem dL_days_38 : decode cL_days 38 = .ok (.iaload, 1) := by decide +kernel
theorem dL_days_39 : decode cL_days 39 = .ok (.if_icmp .ge 84, 3) := by decide +kernel
theorem dL_days_42 : decode cL_days 42 = .ok (.aload_n 3, 1) := by decide +kernel
theorem dL_days_43 : decode cL_days 43 = .ok (.iload 15, 2) := by decide +kernel
theorem dL_days_45 : decode cL_days 45 = .ok (.bipush 8, 2) := by decide +kernel
theorem dL_days_47 : decode cL_days 47 = .ok (.idiv, 1) := by decide +kernel
theorem dL_days_48 : decode cL_days 48 = .ok (.iaload, 1) := by decide +kernel
theorem dL_days_49 : decode cL_days 49 = .ok (.sipush 1023, 3) := by decide +kernel
theorem dL_days_52 : decode cL_days 52 = .ok (.iand, 1) := by decide +kernel
theorem dL_days_53 : decode cL_days 53 = .ok (.aload 12, 2) := by decide +kernel
theorem dL_days_55 : decode cL_days 55 = .ok (.iconst 0, 1) := by decide +kernel
theorem dL_days_56 : decode cL_days 56 = .ok (.iaload, 1) := by decide +kernel
theorem dL_days_57 : decode cL_days 57 = .ok (.if_icmp .eq 6, 3) := by decide +kernel
theorem dL_days_60 : decode cL_days 60 = .ok (.goto 63, 3) := by decide +kernel
theorem dL_days_63 : decode cL_days 63 = .ok (.iconst 0, 1) := by decide +kernel
theorem dL_days_64 : decode cL_days 64 = .ok (.istore 16, 2) := by decide +kernel
theorem dL_days_66 : decode cL_days 66 = .ok (.iload 16, 2) := by decide +kernel
theorem dL_days_68 : decode cL_days 68 = .ok (.bipush 6, 2) := by decide +kernel
theorem dL_days_70 : decode cL_days 70 = .ok (.if_icmp .ge 53, 3) := by decide +kernel
theorem dL_days_73 : decode cL_days 73 = .ok (.aload_n 3, 1) := by decide +kernel
theorem dL_days_74 : decode cL_days 74 = .ok (.iload 15, 2) := by decide +kernel
theorem dL_days_76 : decode cL_days 76 = .ok (.bipush 8, 2) := by decide +kernel
theorem dL_days_78 : decode cL_days 78 = .ok (.idiv, 1) := by decide +kernel
theorem dL_days_79 : decode cL_days 79 = .ok (.iaload, 1) := by decide +kernel
theorem dL_days_80 : decode cL_days 80 = .ok (.bipush 10, 2) := by decide +kernel
theorem dL_days_82 : decode cL_days 82 = .ok (.iload 16, 2) := by decide +kernel
theorem dL_days_84 : decode cL_days 84 = .ok (.iadd, 1) := by decide +kernel
theorem dL_days_85 : decode cL_days 85 = .ok (.ishr, 1) := by decide +kernel
theorem dL_days_86 : decode cL_days 86 = .ok (.iconst 1, 1) := by decide +kernel
theorem dL_days_87 : decode cL_days 87 = .ok (.iand, 1) := by decide +kernel
theorem dL_days_88 : decode cL_days 88 = .ok (.iconst 1, 1) := by decide +kernel
theorem dL_days_89 : decode cL_days 89 = .ok (.if_icmp .ne 28, 3) := by decide +kernel
theorem dL_days_92 : decode cL_days 92 = .ok (.aload_n 2, 1) := by decide +kernel
theorem dL_days_93 : decode cL_days 93 = .ok (.bipush 6, 2) := by decide +kernel
theorem dL_days_95 : decode cL_days 95 = .ok (.iload 15, 2) := by decide +kernel
theorem dL_days_97 : decode cL_days 97 = .ok (.iconst 4, 1) := by decide +kernel
theorem dL_days_98 : decode cL_days 98 = .ok (.irem, 1) := by decide +kernel
theorem dL_days_99 : decode cL_days 99 = .ok (.imul, 1) := by decide +kernel
theorem dL_days_100 : decode cL_days 100 = .ok (.iload 16, 2) := by decide +kernel
theorem dL_days_102 : decode cL_days 102 = .ok (.iadd, 1) := by decide +kernel
theorem dL_days_103 : decode cL_days 103 = .ok (.iaload, 1) := by decide +kernel
theorem dL_days_104 : decode cL_days 104 = .ok (.aload 12, 2) := by decide +kernel
theorem dL_days_106 : decode cL_days 106 = .ok (.iconst 0, 1) := by decide +kernel
theorem dL_days_107 : decode cL_days 107 = .ok (.iaload, 1) := by decide +kernel
theorem dL_days_108 : decode cL_days 108 = .ok (.if_icmp .gt 9, 3) := by decide +kernel
theorem dL_days_111 : decode cL_days 111 = .ok (.aload 7, 2) := by decide +kernel
theorem dL_days_113 : decode cL_days 113 = .ok (.iload 15, 2) := by decide +kernel
theorem dL_days_115 : decode cL_days 115 = .ok (.iconst 1, 1) := by decide +kernel
theorem dL_days_116 : decode cL_days 116 = .ok (.iastore, 1) := by decide +kernel
theorem dL_days_117 : decode cL_days 117 = .ok (.iinc 16 1, 3) := by decide +kernel
theorem dL_days_120 : decode cL_days 120 = .ok (.goto (-54), 3) := by decide +kernel
theorem dL_days_123 : decode cL_days 123 = .ok (.iinc 15 1, 3) := by decide +kernel
theorem dL_days_126 : decode cL_days 126 = .ok (.goto (-103), 3) := by decide +kernel
theorem dL_days_129 : decode cL_days 129 = .ok (.aload 12, 2) := by decide +kernel
theorem dL_days_131 : decode cL_days 131 = .ok (.iconst 4, 1) := by decide +kernel
theorem dL_days_132 : decode cL_days 132 = .ok (.iaload, 1) := by decide +kernel
theorem dL_days_133 : decode cL_days 133 = .ok (.istore 15, 2) := by decide +kernel
theorem dL_days_135 : decode cL_days 135 = .ok (.iconst 0, 1) := by decide +kernel
theorem dL_days_136 : decode cL_days 136 = .ok (.istore 16, 2) := by decide +kernel
theorem dL_days_138 : decode cL_days 138 = .ok (.iload 16, 2) := by decide +kernel
theorem dL_days_140 : decode cL_days 140 = .ok (.iload 15, 2) := by decide +kernel
theorem dL_days_142 : decode cL_days 142 = .ok (.if_icmp .ge 142, 3) := by decide +kernel
theorem dL_days_145 : decode cL_days 145 = .ok (.aload 9, 2) := by decide +kernel
theorem dL_days_147 : decode cL_days 147 = .ok (.iload 16, 2) := by decide +kernel
theorem dL_days_149 : decode cL_days 149 = .ok (.iaload, 1) := by decide +kernel
theorem dL_days_150 : decode cL_days 150 = .ok (.bipush 17, 2) := by decide +kernel
theorem dL_days_152 : decode cL_days 152 = .ok (.ishr, 1) := by decide +kernel
theorem dL_days_153 : decode cL_days 153 = .ok (.ifCond .gt 125, 3) := by decide +kernel
theorem dL_days_156 : decode cL_days 156 = .ok (.aload_n 3, 1) := by decide +kernel
theorem dL_days_157 : decode cL_days 157 = .ok (.aload 9, 2) := by decide +kernel
theorem dL_days_159 : decode cL_days 159 = .ok (.aload 10, 2) := by decide +kernel
theorem dL_days_161 : decode cL_days 161 = .ok (.aload 12, 2) := by decide +kernel
theorem dL_days_163 : decode cL_days 163 = .ok (.iload 16, 2) := by decide +kernel
theorem dL_days_165 : decode cL_days 165 = .ok (.invokestatic 168, 3) := by decide +kernel
theorem dL_days_168 : decode cL_days 168 = .ok (.ifCond .eq 110, 3) := by decide +kernel
theorem dL_days_171 : decode cL_days 171 = .ok (.aload 12, 2) := by decide +kernel
theorem dL_days_173 : decode cL_days 173 = .ok (.iconst 0, 1) := by decide +kernel
theorem dL_days_174 : decode cL_days 174 = .ok (.iaload, 1) := by decide +kernel
theorem dL_days_175 : decode cL_days 175 = .ok (.aload_n 3, 1) := by decide +kernel
theorem dL_days_176 : decode cL_days 176 = .ok (.aload 9, 2) := by decide +kernel
theorem dL_days_178 : decode cL_days 178 = .ok (.iload 16, 2) := by decide +kernel
theorem dL_days_180 : decode cL_days 180 = .ok (.invokestatic 138, 3) := by decide +kernel
theorem dL_days_183 : decode cL_days 183 = .ok (.bipush 30, 2) := by decide +kernel
theorem dL_days_185 : decode cL_days 185 = .ok (.iadd, 1) := by decide +kernel
theorem dL_days_186 : decode cL_days 186 = .ok (.if_icmp .ge 6, 3) := by decide +kernel
theorem dL_days_189 : decode cL_days 189 = .ok (.goto 89, 3) := by decide +kernel
theorem dL_days_192 : decode cL_days 192 = .ok (.aload 9, 2) := by decide +kernel
theorem dL_days_194 : decode cL_days 194 = .ok (.iload 16, 2) := by decide +kernel
theorem dL_days_196 : decode cL_days 196 = .ok (.dup2, 1) := by decide +kernel
theorem dL_days_197 : decode cL_days 197 = .ok (.iaload, 1) := by decide +kernel
theorem dL_days_198 : decode cL_days 198 = .ok (.ldc 172, 2) := by decide +kernel
theorem dL_days_200 : decode cL_days 200 = .ok (.ior, 1) := by decide +kernel
theorem dL_days_201 : decode cL_days 201 = .ok (.iastore, 1) := by decide +kernel
theorem dL_days_202 : decode cL_days 202 = .ok (.aload 11, 2) := by decide +kernel
theorem dL_days_204 : decode cL_days 204 = .ok (.aload 9, 2) := by decide +kernel
theorem dL_days_206 : decode cL_days 206 = .ok (.iload 16, 2) := by decide +kernel
theorem dL_days_208 : decode cL_days 208 = .ok (.iaload, 1) := by decide +kernel
theorem dL_days_209 : decode cL_days 209 = .ok (.iconst 2, 1) := by decide +kernel
theorem dL_days_210 : decode cL_days 210 = .ok (.ishr, 1) := by decide +kernel
theorem dL_days_211 : decode cL_days 211 = .ok (.iconst 3, 1) := by decide +kernel
theorem dL_days_212 : decode cL_days 212 = .ok (.iand, 1) := by decide +kernel
theorem dL_days_213 : decode cL_days 213 = .ok (.dup2, 1) := by decide +kernel
theorem dL_days_214 : decode cL_days 214 = .ok (.iaload, 1) := by decide +kernel
theorem dL_days_215 : decode cL_days 215 = .ok (.aload 4, 2) := by decide +kernel
theorem dL_days_217 : decode cL_days 217 = .ok (.aload 9, 2) := by decide +kernel
theorem dL_days_219 : decode cL_days 219 = .ok (.iload 16, 2) := by decide +kernel
theorem dL_days_221 : decode cL_days 221 = .ok (.iaload, 1) := by decide +kernel
theorem dL_days_222 : decode cL_days 222 = .ok (.iconst 3, 1) := by decide +kernel
theorem dL_days_223 : decode cL_days 223 = .ok (.iand, 1) := by decide +kernel
theorem dL_days_224 : decode cL_days 224 = .ok (.iaload, 1) := by decide +kernel
theorem dL_days_225 : decode cL_days 225 = .ok (.iadd, 1) := by decide +kernel
theorem dL_days_226 : decode cL_days 226 = .ok (.iastore, 1) := by decide +kernel
theorem dL_days_227 : decode cL_days 227 = .ok (.aload 8, 2) := by decide +kernel
theorem dL_days_229 : decode cL_days 229 = .ok (.aload 12, 2) := by decide +kernel
theorem dL_days_231 : decode cL_days 231 = .ok (.iconst 3, 1) := by decide +kernel
theorem dL_days_232 : decode cL_days 232 = .ok (.iaload, 1) := by decide +kernel
theorem dL_days_233 : decode cL_days 233 = .ok (.iconst 4, 1) := by decide +kernel
theorem dL_days_234 : decode cL_days 234 = .ok (.aload 9, 2) := by decide +kernel
theorem dL_days_236 : decode cL_days 236 = .ok (.iload 16, 2) := by decide +kernel
theorem dL_days_238 : decode cL_days 238 = .ok (.invokestatic 173, 3) := by decide +kernel
theorem dL_days_241 : decode cL_days 241 = .ok (.imul, 1) := by decide +kernel
theorem dL_days_242 : decode cL_days 242 = .ok (.iastore, 1) := by decide +kernel
theorem dL_days_243 : decode cL_days 243 = .ok (.aload 12, 2) := by decide +kernel
theorem dL_days_245 : decode cL_days 245 = .ok (.iconst 3, 1) := by decide +kernel
theorem dL_days_246 : decode cL_days 246 = .ok (.dup2, 1) := by decide +kernel
theorem dL_days_247 : decode cL_days 247 = .ok (.iaload, 1) := by decide +kernel
theorem dL_days_248 : decode cL_days 248 = .ok (.iconst 1, 1) := by decide +kernel
theorem dL_days_249 : decode cL_days 249 = .ok (.iadd, 1) := by decide +kernel
theorem dL_days_250 : decode cL_days 250 = .ok (.iastore, 1) := by decide +kernel
theorem dL_days_251 : decode cL_days 251 = .ok (.iinc 13 1, 3) := by decide +kernel
theorem dL_days_254 : decode cL_days 254 = .ok (.aload_n 3, 1) := by decide +kernel
theorem dL_days_255 : decode cL_days 255 = .ok (.aload 5, 2) := by decide +kernel
theorem dL_days_257 : decode cL_days 257 = .ok (.aload 6, 2) := by decide +kernel
theorem dL_days_259 : decode cL_days 259 = .ok (.aload 7, 2) := by decide +kernel
theorem dL_days_261 : decode cL_days 261 = .ok (.aload 8, 2) := by decide +kernel
theorem dL_days_263 : decode cL_days 263 = .ok (.aload 9, 2) := by decide +kernel
theorem dL_days_265 : decode cL_days 265 = .ok (.aload 12, 2) := by decide +kernel
theorem dL_days_267 : decode cL_days 267 = .ok (.aload 9, 2) := by decide +kernel
theorem dL_days_269 : decode cL_days 269 = .ok (.iload 16, 2) := by decide +kernel
theorem dL_days_271 : decode cL_days 271 = .ok (.iaload, 1) := by decide +kernel
theorem dL_days_272 : decode cL_days 272 = .ok (.iconst 3, 1) := by decide +kernel
theorem dL_days_273 : decode cL_days 273 = .ok (.iand, 1) := by decide +kernel
theorem dL_days_274 : decode cL_days 274 = .ok (.invokestatic 176, 3) := by decide +kernel
theorem dL_days_277 : decode cL_days 277 = .ok (.pop, 1) := by decide +kernel
theorem dL_days_278 : decode cL_days 278 = .ok (.iinc 16 1, 3) := by decide +kernel
theorem dL_days_281 : decode cL_days 281 = .ok (.goto (-143), 3) := by decide +kernel
theorem dL_days_284 : decode cL_days 284 = .ok (.iinc 14 1, 3) := by decide +kernel
theorem dL_days_287 : decode cL_days 287 = .ok (.goto (-281), 3) := by decide +kernel
theorem dL_days_290 : decode cL_days 290 = .ok (.aload_n 0, 1) := by decide +kernel
theorem dL_days_291 : decode cL_days 291 = .ok (.iconst 0, 1) := by decide +kernel
theorem dL_days_292 : decode cL_days 292 = .ok (.invokestatic 180, 3) := by decide +kernel
theorem dL_days_295 : decode cL_days 295 = .ok (.sipush (-7200), 3) := by decide +kernel
theorem dL_days_298 : decode cL_days 298 = .ok (.if_icmp .ne 29, 3) := by decide +kernel
theorem dL_days_301 : decode cL_days 301 = .ok (.aload_n 0, 1) := by decide +kernel
theorem dL_days_302 : decode cL_days 302 = .ok (.bipush 101, 2) := by decide +kernel
theorem dL_days_304 : decode cL_days 304 = .ok (.invokestatic 180, 3) := by decide +kernel
theorem dL_days_307 : decode cL_days 307 = .ok (.sipush (-7200), 3) := by decide +kernel
theorem dL_days_310 : decode cL_days 310 = .ok (.if_icmp .ne 17, 3) := by decide +kernel
theorem dL_days_313 : decode cL_days 313 = .ok (.aload_n 0, 1) := by decide +kernel
theorem dL_days_314 : decode cL_days 314 = .ok (.iload_n 1, 1) := by decide +kernel
theorem dL_days_315 : decode cL_days 315 = .ok (.invokestatic 180, 3) := by decide +kernel
theorem dL_days_318 : decode cL_days 318 = .ok (.iload 13, 2) := by decide +kernel
theorem dL_days_320 : decode cL_days 320 = .ok (.if_icmp .ne 7, 3) := by decide +kernel
theorem dL_days_323 : decode cL_days 323 = .ok (.iconst 1, 1) := by decide +kernel
theorem dL_days_324 : decode cL_days 324 = .ok (.goto 4, 3) := by decide +kernel
theorem dL_days_327 : decode cL_days 327 = .ok (.iconst 0, 1) := by decide +kernel
theorem dL_days_328 : decode cL_days 328 = .ok (.ireturn, 1) := by decide +kernel

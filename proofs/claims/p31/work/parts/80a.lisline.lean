/-! rows of isLine -/
theorem dL_isLine_0 : decode cL_isLine 0 = .ok (.iload_n 1, 1) := by decide +kernel
theorem dL_isLine_1 : decode cL_isLine 1 = .ok (.bipush 9, 2) := by decide +kernel
theorem dL_isLine_3 : decode cL_isLine 3 = .ok (.if_icmp .le 7, 3) := by decide +kernel
theorem dL_isLine_6 : decode cL_isLine 6 = .ok (.iconst 1, 1) := by decide +kernel
theorem dL_isLine_7 : decode cL_isLine 7 = .ok (.goto 4, 3) := by decide +kernel
theorem dL_isLine_10 : decode cL_isLine 10 = .ok (.iconst 0, 1) := by decide +kernel
theorem dL_isLine_11 : decode cL_isLine 11 = .ok (.istore 6, 2) := by decide +kernel
theorem dL_isLine_13 : decode cL_isLine 13 = .ok (.aload_n 3, 1) := by decide +kernel
theorem dL_isLine_14 : decode cL_isLine 14 = .ok (.iload_n 1, 1) := by decide +kernel
theorem dL_isLine_15 : decode cL_isLine 15 = .ok (.iaload, 1) := by decide +kernel
theorem dL_isLine_16 : decode cL_isLine 16 = .ok (.istore 7, 2) := by decide +kernel
theorem dL_isLine_18 : decode cL_isLine 18 = .ok (.aload_n 3, 1) := by decide +kernel
theorem dL_isLine_19 : decode cL_isLine 19 = .ok (.iload_n 1, 1) := by decide +kernel
theorem dL_isLine_20 : decode cL_isLine 20 = .ok (.invokestatic 130, 3) := by decide +kernel
theorem dL_isLine_23 : decode cL_isLine 23 = .ok (.ifCond .eq 8, 3) := by decide +kernel
theorem dL_isLine_26 : decode cL_isLine 26 = .ok (.bipush 86, 2) := by decide +kernel
theorem dL_isLine_28 : decode cL_isLine 28 = .ok (.goto 35, 3) := by decide +kernel
theorem dL_isLine_31 : decode cL_isLine 31 = .ok (.iload 7, 2) := by decide +kernel
theorem dL_isLine_33 : decode cL_isLine 33 = .ok (.bipush 17, 2) := by decide +kernel
theorem dL_isLine_35 : decode cL_isLine 35 = .ok (.ishr, 1) := by decide +kernel
theorem dL_isLine_36 : decode cL_isLine 36 = .ok (.ifCond .le 8, 3) := by decide +kernel
theorem dL_isLine_39 : decode cL_isLine 39 = .ok (.bipush 83, 2) := by decide +kernel
theorem dL_isLine_41 : decode cL_isLine 41 = .ok (.goto 22, 3) := by decide +kernel
theorem dL_isLine_44 : decode cL_isLine 44 = .ok (.aload_n 2, 1) := by decide +kernel
theorem dL_isLine_45 : decode cL_isLine 45 = .ok (.aload_n 3, 1) := by decide +kernel
theorem dL_isLine_46 : decode cL_isLine 46 = .ok (.aload 4, 2) := by decide +kernel
theorem dL_isLine_48 : decode cL_isLine 48 = .ok (.aload 5, 2) := by decide +kernel
theorem dL_isLine_50 : decode cL_isLine 50 = .ok (.iload_n 1, 1) := by decide +kernel
theorem dL_isLine_51 : decode cL_isLine 51 = .ok (.invokestatic 168, 3) := by decide +kernel
theorem dL_isLine_54 : decode cL_isLine 54 = .ok (.ifCond .eq 8, 3) := by decide +kernel
theorem dL_isLine_57 : decode cL_isLine 57 = .ok (.bipush 70, 2) := by decide +kernel
theorem dL_isLine_59 : decode cL_isLine 59 = .ok (.goto 4, 3) := by decide +kernel
theorem dL_isLine_62 : decode cL_isLine 62 = .ok (.iconst 0, 1) := by decide +kernel
theorem dL_isLine_63 : decode cL_isLine 63 = .ok (.istore 8, 2) := by decide +kernel
theorem dL_isLine_65 : decode cL_isLine 65 = .ok (.aload_n 0, 1) := by decide +kernel
theorem dL_isLine_66 : decode cL_isLine 66 = .ok (.iload_n 1, 1) := by decide +kernel
theorem dL_isLine_67 : decode cL_isLine 67 = .ok (.invokestatic 207, 3) := by decide +kernel
theorem dL_isLine_70 : decode cL_isLine 70 = .ok (.bipush 10, 2) := by decide +kernel
theorem dL_isLine_72 : decode cL_isLine 72 = .ok (.iload 6, 2) := by decide +kernel
theorem dL_isLine_74 : decode cL_isLine 74 = .ok (.iadd, 1) := by decide +kernel
theorem dL_isLine_75 : decode cL_isLine 75 = .ok (.iload 8, 2) := by decide +kernel
theorem dL_isLine_77 : decode cL_isLine 77 = .ok (.ifCond .le 7, 3) := by decide +kernel
theorem dL_isLine_80 : decode cL_isLine 80 = .ok (.iconst 1, 1) := by decide +kernel
theorem dL_isLine_81 : decode cL_isLine 81 = .ok (.goto 4, 3) := by decide +kernel
theorem dL_isLine_84 : decode cL_isLine 84 = .ok (.iconst 0, 1) := by decide +kernel
theorem dL_isLine_85 : decode cL_isLine 85 = .ok (.iadd, 1) := by decide +kernel
theorem dL_isLine_86 : decode cL_isLine 86 = .ok (.if_icmp .ne 83, 3) := by decide +kernel
theorem dL_isLine_89 : decode cL_isLine 89 = .ok (.aload_n 0, 1) := by decide +kernel
theorem dL_isLine_90 : decode cL_isLine 90 = .ok (.iload_n 1, 1) := by decide +kernel
theorem dL_isLine_91 : decode cL_isLine 91 = .ok (.iconst 0, 1) := by decide +kernel
theorem dL_isLine_92 : decode cL_isLine 92 = .ok (.invokestatic 209, 3) := by decide +kernel
theorem dL_isLine_95 : decode cL_isLine 95 = .ok (.bipush 35, 2) := by decide +kernel
theorem dL_isLine_97 : decode cL_isLine 97 = .ok (.if_icmp .ne 72, 3) := by decide +kernel
theorem dL_isLine_100 : decode cL_isLine 100 = .ok (.iload 6, 2) := by decide +kernel
theorem dL_isLine_102 : decode cL_isLine 102 = .ok (.iconst 1, 1) := by decide +kernel
theorem dL_isLine_103 : decode cL_isLine 103 = .ok (.if_icmp .ne 19, 3) := by decide +kernel
theorem dL_isLine_106 : decode cL_isLine 106 = .ok (.aload_n 0, 1) := by decide +kernel
theorem dL_isLine_107 : decode cL_isLine 107 = .ok (.iload_n 1, 1) := by decide +kernel
theorem dL_isLine_108 : decode cL_isLine 108 = .ok (.iconst 1, 1) := by decide +kernel
theorem dL_isLine_109 : decode cL_isLine 109 = .ok (.invokestatic 209, 3) := by decide +kernel
theorem dL_isLine_112 : decode cL_isLine 112 = .ok (.bipush 48, 2) := by decide +kernel
theorem dL_isLine_114 : decode cL_isLine 114 = .ok (.iload_n 1, 1) := by decide +kernel
theorem dL_isLine_115 : decode cL_isLine 115 = .ok (.bipush 10, 2) := by decide +kernel
theorem dL_isLine_117 : decode cL_isLine 117 = .ok (.idiv, 1) := by decide +kernel
theorem dL_isLine_118 : decode cL_isLine 118 = .ok (.iadd, 1) := by decide +kernel
theorem dL_isLine_119 : decode cL_isLine 119 = .ok (.if_icmp .ne 50, 3) := by decide +kernel
theorem dL_isLine_122 : decode cL_isLine 122 = .ok (.aload_n 0, 1) := by decide +kernel
theorem dL_isLine_123 : decode cL_isLine 123 = .ok (.iload_n 1, 1) := by decide +kernel
theorem dL_isLine_124 : decode cL_isLine 124 = .ok (.iconst 1, 1) := by decide +kernel
theorem dL_isLine_125 : decode cL_isLine 125 = .ok (.iload 6, 2) := by decide +kernel
theorem dL_isLine_127 : decode cL_isLine 127 = .ok (.iadd, 1) := by decide +kernel
theorem dL_isLine_128 : decode cL_isLine 128 = .ok (.invokestatic 209, 3) := by decide +kernel
theorem dL_isLine_131 : decode cL_isLine 131 = .ok (.bipush 48, 2) := by decide +kernel
theorem dL_isLine_133 : decode cL_isLine 133 = .ok (.iload_n 1, 1) := by decide +kernel
theorem dL_isLine_134 : decode cL_isLine 134 = .ok (.bipush 10, 2) := by decide +kernel
theorem dL_isLine_136 : decode cL_isLine 136 = .ok (.irem, 1) := by decide +kernel
theorem dL_isLine_137 : decode cL_isLine 137 = .ok (.iadd, 1) := by decide +kernel
theorem dL_isLine_138 : decode cL_isLine 138 = .ok (.if_icmp .ne 31, 3) := by decide +kernel
theorem dL_isLine_141 : decode cL_isLine 141 = .ok (.aload_n 0, 1) := by decide +kernel
theorem dL_isLine_142 : decode cL_isLine 142 = .ok (.iload_n 1, 1) := by decide +kernel
theorem dL_isLine_143 : decode cL_isLine 143 = .ok (.iconst 2, 1) := by decide +kernel
theorem dL_isLine_144 : decode cL_isLine 144 = .ok (.iload 6, 2) := by decide +kernel
theorem dL_isLine_146 : decode cL_isLine 146 = .ok (.iadd, 1) := by decide +kernel
theorem dL_isLine_147 : decode cL_isLine 147 = .ok (.invokestatic 209, 3) := by decide +kernel
theorem dL_isLine_150 : decode cL_isLine 150 = .ok (.bipush 32, 2) := by decide +kernel
theorem dL_isLine_152 : decode cL_isLine 152 = .ok (.if_icmp .ne 17, 3) := by decide +kernel
theorem dL_isLine_155 : decode cL_isLine 155 = .ok (.aload_n 0, 1) := by decide +kernel
theorem dL_isLine_156 : decode cL_isLine 156 = .ok (.iload_n 1, 1) := by decide +kernel
theorem dL_isLine_157 : decode cL_isLine 157 = .ok (.iconst 3, 1) := by decide +kernel
theorem dL_isLine_158 : decode cL_isLine 158 = .ok (.iload 6, 2) := by decide +kernel
theorem dL_isLine_160 : decode cL_isLine 160 = .ok (.iadd, 1) := by decide +kernel
theorem dL_isLine_161 : decode cL_isLine 161 = .ok (.invokestatic 209, 3) := by decide +kernel
theorem dL_isLine_164 : decode cL_isLine 164 = .ok (.bipush 84, 2) := by decide +kernel
theorem dL_isLine_166 : decode cL_isLine 166 = .ok (.if_icmp .eq 5, 3) := by decide +kernel
theorem dL_isLine_169 : decode cL_isLine 169 = .ok (.iconst 0, 1) := by decide +kernel
theorem dL_isLine_170 : decode cL_isLine 170 = .ok (.ireturn, 1) := by decide +kernel
theorem dL_isLine_171 : decode cL_isLine 171 = .ok (.aload_n 0, 1) := by decide +kernel
theorem dL_isLine_172 : decode cL_isLine 172 = .ok (.iload_n 1, 1) := by decide +kernel
theorem dL_isLine_173 : decode cL_isLine 173 = .ok (.iconst 4, 1) := by decide +kernel
theorem dL_isLine_174 : decode cL_isLine 174 = .ok (.iload 6, 2) := by decide +kernel
theorem dL_isLine_176 : decode cL_isLine 176 = .ok (.iadd, 1) := by decide +kernel
theorem dL_isLine_177 : decode cL_isLine 177 = .ok (.invokestatic 209, 3) := by decide +kernel
theorem dL_isLine_180 : decode cL_isLine 180 = .ok (.bipush 48, 2) := by decide +kernel
theorem dL_isLine_182 : decode cL_isLine 182 = .ok (.iload 7, 2) := by decide +kernel
theorem dL_isLine_184 : decode cL_isLine 184 = .ok (.iconst 3, 1) := by decide +kernel
theorem dL_isLine_185 : decode cL_isLine 185 = .ok (.iand, 1) := by decide +kernel
theorem dL_isLine_186 : decode cL_isLine 186 = .ok (.iconst 2, 1) := by decide +kernel
theorem dL_isLine_187 : decode cL_isLine 187 = .ok (.idiv, 1) := by decide +kernel
theorem dL_isLine_188 : decode cL_isLine 188 = .ok (.iadd, 1) := by decide +kernel
theorem dL_isLine_189 : decode cL_isLine 189 = .ok (.if_icmp .ne 135, 3) := by decide +kernel
theorem dL_isLine_192 : decode cL_isLine 192 = .ok (.aload_n 0, 1) := by decide +kernel
theorem dL_isLine_193 : decode cL_isLine 193 = .ok (.iload_n 1, 1) := by decide +kernel
theorem dL_isLine_194 : decode cL_isLine 194 = .ok (.iconst 5, 1) := by decide +kernel
theorem dL_isLine_195 : decode cL_isLine 195 = .ok (.iload 6, 2) := by decide +kernel
theorem dL_isLine_197 : decode cL_isLine 197 = .ok (.iadd, 1) := by decide +kernel
theorem dL_isLine_198 : decode cL_isLine 198 = .ok (.invokestatic 209, 3) := by decide +kernel
theorem dL_isLine_201 : decode cL_isLine 201 = .ok (.bipush 76, 2) := by decide +kernel
theorem dL_isLine_203 : decode cL_isLine 203 = .ok (.if_icmp .ne 121, 3) := by decide +kernel
theorem dL_isLine_206 : decode cL_isLine 206 = .ok (.aload_n 0, 1) := by decide +kernel
theorem dL_isLine_207 : decode cL_isLine 207 = .ok (.iload_n 1, 1) := by decide +kernel
theorem dL_isLine_208 : decode cL_isLine 208 = .ok (.bipush 6, 2) := by decide +kernel
theorem dL_isLine_210 : decode cL_isLine 210 = .ok (.iload 6, 2) := by decide +kernel
theorem dL_isLine_212 : decode cL_isLine 212 = .ok (.iadd, 1) := by decide +kernel
theorem dL_isLine_213 : decode cL_isLine 213 = .ok (.invokestatic 209, 3) := by decide +kernel
theorem dL_isLine_216 : decode cL_isLine 216 = .ok (.bipush 48, 2) := by decide +kernel
theorem dL_isLine_218 : decode cL_isLine 218 = .ok (.iload 7, 2) := by decide +kernel
theorem dL_isLine_220 : decode cL_isLine 220 = .ok (.iconst 1, 1) := by decide +kernel
theorem dL_isLine_221 : decode cL_isLine 221 = .ok (.iand, 1) := by decide +kernel
theorem dL_isLine_222 : decode cL_isLine 222 = .ok (.iadd, 1) := by decide +kernel
theorem dL_isLine_223 : decode cL_isLine 223 = .ok (.if_icmp .ne 101, 3) := by decide +kernel
theorem dL_isLine_226 : decode cL_isLine 226 = .ok (.aload_n 0, 1) := by decide +kernel
theorem dL_isLine_227 : decode cL_isLine 227 = .ok (.iload_n 1, 1) := by decide +kernel
theorem dL_isLine_228 : decode cL_isLine 228 = .ok (.bipush 7, 2) := by decide +kernel
theorem dL_isLine_230 : decode cL_isLine 230 = .ok (.iload 6, 2) := by decide +kernel
theorem dL_isLine_232 : decode cL_isLine 232 = .ok (.iadd, 1) := by decide +kernel
theorem dL_isLine_233 : decode cL_isLine 233 = .ok (.invokestatic 209, 3) := by decide +kernel
theorem dL_isLine_236 : decode cL_isLine 236 = .ok (.bipush 32, 2) := by decide +kernel
theorem dL_isLine_238 : decode cL_isLine 238 = .ok (.if_icmp .ne 86, 3) := by decide +kernel
theorem dL_isLine_241 : decode cL_isLine 241 = .ok (.aload_n 0, 1) := by decide +kernel
theorem dL_isLine_242 : decode cL_isLine 242 = .ok (.iload_n 1, 1) := by decide +kernel
theorem dL_isLine_243 : decode cL_isLine 243 = .ok (.bipush 8, 2) := by decide +kernel
theorem dL_isLine_245 : decode cL_isLine 245 = .ok (.iload 6, 2) := by decide +kernel
theorem dL_isLine_247 : decode cL_isLine 247 = .ok (.iadd, 1) := by decide +kernel
theorem dL_isLine_248 : decode cL_isLine 248 = .ok (.invokestatic 209, 3) := by decide +kernel
theorem dL_isLine_251 : decode cL_isLine 251 = .ok (.bipush 66, 2) := by decide +kernel
theorem dL_isLine_253 : decode cL_isLine 253 = .ok (.if_icmp .ne 71, 3) := by decide +kernel
theorem dL_isLine_256 : decode cL_isLine 256 = .ok (.aload_n 0, 1) := by decide +kernel
theorem dL_isLine_257 : decode cL_isLine 257 = .ok (.iload_n 1, 1) := by decide +kernel
theorem dL_isLine_258 : decode cL_isLine 258 = .ok (.bipush 9, 2) := by decide +kernel
theorem dL_isLine_260 : decode cL_isLine 260 = .ok (.iload 6, 2) := by decide +kernel
theorem dL_isLine_262 : decode cL_isLine 262 = .ok (.iadd, 1) := by decide +kernel
theorem dL_isLine_263 : decode cL_isLine 263 = .ok (.invokestatic 209, 3) := by decide +kernel
theorem dL_isLine_266 : decode cL_isLine 266 = .ok (.bipush 48, 2) := by decide +kernel
theorem dL_isLine_268 : decode cL_isLine 268 = .ok (.iload 7, 2) := by decide +kernel
theorem dL_isLine_270 : decode cL_isLine 270 = .ok (.iconst 2, 1) := by decide +kernel
theorem dL_isLine_271 : decode cL_isLine 271 = .ok (.ishr, 1) := by decide +kernel
theorem dL_isLine_272 : decode cL_isLine 272 = .ok (.iconst 3, 1) := by decide +kernel
theorem dL_isLine_273 : decode cL_isLine 273 = .ok (.iand, 1) := by decide +kernel
theorem dL_isLine_274 : decode cL_isLine 274 = .ok (.iadd, 1) := by decide +kernel
theorem dL_isLine_275 : decode cL_isLine 275 = .ok (.if_icmp .ne 49, 3) := by decide +kernel
theorem dL_isLine_278 : decode cL_isLine 278 = .ok (.aload_n 0, 1) := by decide +kernel
theorem dL_isLine_279 : decode cL_isLine 279 = .ok (.iload_n 1, 1) := by decide +kernel
theorem dL_isLine_280 : decode cL_isLine 280 = .ok (.bipush 10, 2) := by decide +kernel
theorem dL_isLine_282 : decode cL_isLine 282 = .ok (.iload 6, 2) := by decide +kernel
theorem dL_isLine_284 : decode cL_isLine 284 = .ok (.iadd, 1) := by decide +kernel
theorem dL_isLine_285 : decode cL_isLine 285 = .ok (.invokestatic 209, 3) := by decide +kernel
theorem dL_isLine_288 : decode cL_isLine 288 = .ok (.iload 8, 2) := by decide +kernel
theorem dL_isLine_290 : decode cL_isLine 290 = .ok (.ifCond .le 8, 3) := by decide +kernel
theorem dL_isLine_293 : decode cL_isLine 293 = .ok (.iload 8, 2) := by decide +kernel
theorem dL_isLine_295 : decode cL_isLine 295 = .ok (.goto 6, 3) := by decide +kernel
theorem dL_isLine_298 : decode cL_isLine 298 = .ok (.sipush (-7100), 3) := by decide +kernel
theorem dL_isLine_301 : decode cL_isLine 301 = .ok (.if_icmp .ne 23, 3) := by decide +kernel
theorem dL_isLine_304 : decode cL_isLine 304 = .ok (.aload_n 0, 1) := by decide +kernel
theorem dL_isLine_305 : decode cL_isLine 305 = .ok (.iload_n 1, 1) := by decide +kernel
theorem dL_isLine_306 : decode cL_isLine 306 = .ok (.bipush 11, 2) := by decide +kernel
theorem dL_isLine_308 : decode cL_isLine 308 = .ok (.iload 6, 2) := by decide +kernel
theorem dL_isLine_310 : decode cL_isLine 310 = .ok (.iadd, 1) := by decide +kernel
theorem dL_isLine_311 : decode cL_isLine 311 = .ok (.invokestatic 209, 3) := by decide +kernel
theorem dL_isLine_314 : decode cL_isLine 314 = .ok (.sipush (-7100), 3) := by decide +kernel
theorem dL_isLine_317 : decode cL_isLine 317 = .ok (.if_icmp .ne 7, 3) := by decide +kernel
theorem dL_isLine_320 : decode cL_isLine 320 = .ok (.iconst 1, 1) := by decide +kernel
theorem dL_isLine_321 : decode cL_isLine 321 = .ok (.goto 4, 3) := by decide +kernel
theorem dL_isLine_324 : decode cL_isLine 324 = .ok (.iconst 0, 1) := by decide +kernel
theorem dL_isLine_325 : decode cL_isLine 325 = .ok (.ireturn, 1) := by decide +kernel

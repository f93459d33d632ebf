theorem dL_acts_0 : decode cL_acts 0 = .ok (.iload 5, 2) := by decide +kernel
theorem dL_acts_2 : decode cL_acts 2 = .ok (.bipush 30, 2) := by decide +kernel
theorem dL_acts_4 : decode cL_acts 4 = .ok (.invokestatic 149, 3) := by decide +kernel
theorem dL_acts_7 : decode cL_acts 7 = .ok (.istore 7, 2) := by decide +kernel
theorem dL_acts_9 : decode cL_acts 9 = .ok (.aload 4, 2) := by decide +kernel
theorem dL_acts_11 : decode cL_acts 11 = .ok (.iconst 0, 1) := by decide +kernel
theorem dL_acts_12 : decode cL_acts 12 = .ok (.iaload, 1) := by decide +kernel
theorem dL_acts_13 : decode cL_acts 13 = .ok (.iconst 5, 1) := by decide +kernel
theorem dL_acts_14 : decode cL_acts 14 = .ok (.if_icmp .lt 9, 3) := by decide +kernel
theorem dL_acts_17 : decode cL_acts 17 = .ok (.iload 7, 2) := by decide +kernel
theorem dL_acts_19 : decode cL_acts 19 = .ok (.iconst 5, 1) := by decide +kernel
theorem dL_acts_20 : decode cL_acts 20 = .ok (.if_icmp .ge 18, 3) := by decide +kernel
theorem dL_acts_23 : decode cL_acts 23 = .ok (.aload_n 0, 1) := by decide +kernel
theorem dL_acts_24 : decode cL_acts 24 = .ok (.aload_n 1, 1) := by decide +kernel
theorem dL_acts_25 : decode cL_acts 25 = .ok (.aload_n 2, 1) := by decide +kernel
theorem dL_acts_26 : decode cL_acts 26 = .ok (.aload 4, 2) := by decide +kernel
theorem dL_acts_28 : decode cL_acts 28 = .ok (.iload 5, 2) := by decide +kernel
theorem dL_acts_30 : decode cL_acts 30 = .ok (.iconst 5, 1) := by decide +kernel
theorem dL_acts_31 : decode cL_acts 31 = .ok (.ishr, 1) := by decide +kernel
theorem dL_acts_32 : decode cL_acts 32 = .ok (.iload 6, 2) := by decide +kernel
theorem dL_acts_34 : decode cL_acts 34 = .ok (.invokestatic 191, 3) := by decide +kernel
theorem dL_acts_37 : decode cL_acts 37 = .ok (.ireturn, 1) := by decide +kernel
theorem dL_acts_38 : decode cL_acts 38 = .ok (.iload 7, 2) := by decide +kernel
theorem dL_acts_40 : decode cL_acts 40 = .ok (.iconst 5, 1) := by decide +kernel
theorem dL_acts_41 : decode cL_acts 41 = .ok (.if_icmp .ne 99, 3) := by decide +kernel
theorem dL_acts_44 : decode cL_acts 44 = .ok (.iconst 1, 1) := by decide +kernel
theorem dL_acts_45 : decode cL_acts 45 = .ok (.iload 6, 2) := by decide +kernel
theorem dL_acts_47 : decode cL_acts 47 = .ok (.iconst 4, 1) := by decide +kernel
theorem dL_acts_48 : decode cL_acts 48 = .ok (.invokestatic 149, 3) := by decide +kernel
theorem dL_acts_51 : decode cL_acts 51 = .ok (.iadd, 1) := by decide +kernel
theorem dL_acts_52 : decode cL_acts 52 = .ok (.istore 8, 2) := by decide +kernel
theorem dL_acts_54 : decode cL_acts 54 = .ok (.aload 4, 2) := by decide +kernel
theorem dL_acts_56 : decode cL_acts 56 = .ok (.iconst 3, 1) := by decide +kernel
theorem dL_acts_57 : decode cL_acts 57 = .ok (.iconst 1, 1) := by decide +kernel
theorem dL_acts_58 : decode cL_acts 58 = .ok (.iload 8, 2) := by decide +kernel
theorem dL_acts_60 : decode cL_acts 60 = .ok (.ishl, 1) := by decide +kernel
theorem dL_acts_61 : decode cL_acts 61 = .ok (.iastore, 1) := by decide +kernel
theorem dL_acts_62 : decode cL_acts 62 = .ok (.aload_n 0, 1) := by decide +kernel
theorem dL_acts_63 : decode cL_acts 63 = .ok (.iload 8, 2) := by decide +kernel
theorem dL_acts_65 : decode cL_acts 65 = .ok (.iload 6, 2) := by decide +kernel
theorem dL_acts_67 : decode cL_acts 67 = .ok (.iconst 2, 1) := by decide +kernel
theorem dL_acts_68 : decode cL_acts 68 = .ok (.ishr, 1) := by decide +kernel
theorem dL_acts_69 : decode cL_acts 69 = .ok (.iconst 1, 1) := by decide +kernel
theorem dL_acts_70 : decode cL_acts 70 = .ok (.iconst 2, 1) := by decide +kernel
theorem dL_acts_71 : decode cL_acts 71 = .ok (.iload 8, 2) := by decide +kernel
theorem dL_acts_73 : decode cL_acts 73 = .ok (.imul, 1) := by decide +kernel
theorem dL_acts_74 : decode cL_acts 74 = .ok (.ishl, 1) := by decide +kernel
theorem dL_acts_75 : decode cL_acts 75 = .ok (.invokestatic 149, 3) := by decide +kernel
theorem dL_acts_78 : decode cL_acts 78 = .ok (.invokestatic 195, 3) := by decide +kernel
theorem dL_acts_81 : decode cL_acts 81 = .ok (.aload 4, 2) := by decide +kernel
theorem dL_acts_83 : decode cL_acts 83 = .ok (.invokestatic 100, 3) := by decide +kernel
theorem dL_acts_86 : decode cL_acts 86 = .ok (.if_icmp .ne 52, 3) := by decide +kernel
theorem dL_acts_89 : decode cL_acts 89 = .ok (.aload_n 0, 1) := by decide +kernel
theorem dL_acts_90 : decode cL_acts 90 = .ok (.iconst 0, 1) := by decide +kernel
theorem dL_acts_91 : decode cL_acts 91 = .ok (.iconst 0, 1) := by decide +kernel
theorem dL_acts_92 : decode cL_acts 92 = .ok (.invokestatic 195, 3) := by decide +kernel
theorem dL_acts_95 : decode cL_acts 95 = .ok (.ldc 21, 2) := by decide +kernel
theorem dL_acts_97 : decode cL_acts 97 = .ok (.if_icmp .ne 41, 3) := by decide +kernel
theorem dL_acts_100 : decode cL_acts 100 = .ok (.aload_n 0, 1) := by decide +kernel
theorem dL_acts_101 : decode cL_acts 101 = .ok (.iconst 5, 1) := by decide +kernel
theorem dL_acts_102 : decode cL_acts 102 = .ok (.iconst 0, 1) := by decide +kernel
theorem dL_acts_103 : decode cL_acts 103 = .ok (.invokestatic 195, 3) := by decide +kernel
theorem dL_acts_106 : decode cL_acts 106 = .ok (.ldc 21, 2) := by decide +kernel
theorem dL_acts_108 : decode cL_acts 108 = .ok (.if_icmp .ne 30, 3) := by decide +kernel
theorem dL_acts_111 : decode cL_acts 111 = .ok (.aload_n 0, 1) := by decide +kernel
theorem dL_acts_112 : decode cL_acts 112 = .ok (.iconst 2, 1) := by decide +kernel
theorem dL_acts_113 : decode cL_acts 113 = .ok (.bipush 16, 2) := by decide +kernel
theorem dL_acts_115 : decode cL_acts 115 = .ok (.invokestatic 195, 3) := by decide +kernel
theorem dL_acts_118 : decode cL_acts 118 = .ok (.ldc 21, 2) := by decide +kernel
theorem dL_acts_120 : decode cL_acts 120 = .ok (.if_icmp .ne 18, 3) := by decide +kernel
theorem dL_acts_123 : decode cL_acts 123 = .ok (.aload_n 0, 1) := by decide +kernel
theorem dL_acts_124 : decode cL_acts 124 = .ok (.iconst 2, 1) := by decide +kernel
theorem dL_acts_125 : decode cL_acts 125 = .ok (.iconst (-1), 1) := by decide +kernel
theorem dL_acts_126 : decode cL_acts 126 = .ok (.invokestatic 195, 3) := by decide +kernel
theorem dL_acts_129 : decode cL_acts 129 = .ok (.ldc 21, 2) := by decide +kernel
theorem dL_acts_131 : decode cL_acts 131 = .ok (.if_icmp .ne 7, 3) := by decide +kernel
theorem dL_acts_134 : decode cL_acts 134 = .ok (.iconst 1, 1) := by decide +kernel
theorem dL_acts_135 : decode cL_acts 135 = .ok (.goto 4, 3) := by decide +kernel
theorem dL_acts_138 : decode cL_acts 138 = .ok (.iconst 0, 1) := by decide +kernel
theorem dL_acts_139 : decode cL_acts 139 = .ok (.ireturn, 1) := by decide +kernel
theorem dL_acts_140 : decode cL_acts 140 = .ok (.iload 7, 2) := by decide +kernel
theorem dL_acts_142 : decode cL_acts 142 = .ok (.bipush 12, 2) := by decide +kernel
theorem dL_acts_144 : decode cL_acts 144 = .ok (.if_icmp .ge 19, 3) := by decide +kernel
theorem dL_acts_147 : decode cL_acts 147 = .ok (.aload_n 0, 1) := by decide +kernel
theorem dL_acts_148 : decode cL_acts 148 = .ok (.aload_n 1, 1) := by decide +kernel
theorem dL_acts_149 : decode cL_acts 149 = .ok (.aload_n 2, 1) := by decide +kernel
theorem dL_acts_150 : decode cL_acts 150 = .ok (.aload_n 3, 1) := by decide +kernel
theorem dL_acts_151 : decode cL_acts 151 = .ok (.aload 4, 2) := by decide +kernel
theorem dL_acts_153 : decode cL_acts 153 = .ok (.iload 5, 2) := by decide +kernel
theorem dL_acts_155 : decode cL_acts 155 = .ok (.iconst 5, 1) := by decide +kernel
theorem dL_acts_156 : decode cL_acts 156 = .ok (.ishr, 1) := by decide +kernel
theorem dL_acts_157 : decode cL_acts 157 = .ok (.iload 6, 2) := by decide +kernel
theorem dL_acts_159 : decode cL_acts 159 = .ok (.invokestatic 197, 3) := by decide +kernel
theorem dL_acts_162 : decode cL_acts 162 = .ok (.ireturn, 1) := by decide +kernel
theorem dL_acts_163 : decode cL_acts 163 = .ok (.iload 7, 2) := by decide +kernel
theorem dL_acts_165 : decode cL_acts 165 = .ok (.bipush 16, 2) := by decide +kernel
theorem dL_acts_167 : decode cL_acts 167 = .ok (.if_icmp .ge 64, 3) := by decide +kernel
theorem dL_acts_170 : decode cL_acts 170 = .ok (.aload_n 0, 1) := by decide +kernel
theorem dL_acts_171 : decode cL_acts 171 = .ok (.aload_n 1, 1) := by decide +kernel
theorem dL_acts_172 : decode cL_acts 172 = .ok (.aload_n 2, 1) := by decide +kernel
theorem dL_acts_173 : decode cL_acts 173 = .ok (.aload_n 3, 1) := by decide +kernel
theorem dL_acts_174 : decode cL_acts 174 = .ok (.aload 4, 2) := by decide +kernel
theorem dL_acts_176 : decode cL_acts 176 = .ok (.iload 6, 2) := by decide +kernel
theorem dL_acts_178 : decode cL_acts 178 = .ok (.aload 4, 2) := by decide +kernel
theorem dL_acts_180 : decode cL_acts 180 = .ok (.iconst 0, 1) := by decide +kernel
theorem dL_acts_181 : decode cL_acts 181 = .ok (.iaload, 1) := by decide +kernel
theorem dL_acts_182 : decode cL_acts 182 = .ok (.invokestatic 149, 3) := by decide +kernel
theorem dL_acts_185 : decode cL_acts 185 = .ok (.iload 6, 2) := by decide +kernel
theorem dL_acts_187 : decode cL_acts 187 = .ok (.iconst 5, 1) := by decide +kernel
theorem dL_acts_188 : decode cL_acts 188 = .ok (.ishr, 1) := by decide +kernel
theorem dL_acts_189 : decode cL_acts 189 = .ok (.iconst 4, 1) := by decide +kernel
theorem dL_acts_190 : decode cL_acts 190 = .ok (.invokestatic 149, 3) := by decide +kernel
theorem dL_acts_193 : decode cL_acts 193 = .ok (.iload 6, 2) := by decide +kernel
theorem dL_acts_195 : decode cL_acts 195 = .ok (.bipush 7, 2) := by decide +kernel
theorem dL_acts_197 : decode cL_acts 197 = .ok (.ishr, 1) := by decide +kernel
theorem dL_acts_198 : decode cL_acts 198 = .ok (.iconst 2, 1) := by decide +kernel
theorem dL_acts_199 : decode cL_acts 199 = .ok (.invokestatic 149, 3) := by decide +kernel
theorem dL_acts_202 : decode cL_acts 202 = .ok (.ifCond .ne 7, 3) := by decide +kernel
theorem dL_acts_205 : decode cL_acts 205 = .ok (.iconst 1, 1) := by decide +kernel
theorem dL_acts_206 : decode cL_acts 206 = .ok (.goto 4, 3) := by decide +kernel
theorem dL_acts_209 : decode cL_acts 209 = .ok (.iconst 0, 1) := by decide +kernel
theorem dL_acts_210 : decode cL_acts 210 = .ok (.iload 6, 2) := by decide +kernel
theorem dL_acts_212 : decode cL_acts 212 = .ok (.bipush 8, 2) := by decide +kernel
theorem dL_acts_214 : decode cL_acts 214 = .ok (.ishr, 1) := by decide +kernel
theorem dL_acts_215 : decode cL_acts 215 = .ok (.iconst 4, 1) := by decide +kernel
theorem dL_acts_216 : decode cL_acts 216 = .ok (.invokestatic 149, 3) := by decide +kernel
theorem dL_acts_219 : decode cL_acts 219 = .ok (.ifCond .le 7, 3) := by decide +kernel
theorem dL_acts_222 : decode cL_acts 222 = .ok (.iconst 1, 1) := by decide +kernel
theorem dL_acts_223 : decode cL_acts 223 = .ok (.goto 4, 3) := by decide +kernel
theorem dL_acts_226 : decode cL_acts 226 = .ok (.iconst 0, 1) := by decide +kernel
theorem dL_acts_227 : decode cL_acts 227 = .ok (.invokestatic 201, 3) := by decide +kernel
theorem dL_acts_230 : decode cL_acts 230 = .ok (.ireturn, 1) := by decide +kernel
theorem dL_acts_231 : decode cL_acts 231 = .ok (.iload 7, 2) := by decide +kernel
theorem dL_acts_233 : decode cL_acts 233 = .ok (.bipush 22, 2) := by decide +kernel
theorem dL_acts_235 : decode cL_acts 235 = .ok (.if_icmp .ge 98, 3) := by decide +kernel
theorem dL_acts_238 : decode cL_acts 238 = .ok (.iconst 1, 1) := by decide +kernel
theorem dL_acts_239 : decode cL_acts 239 = .ok (.istore 8, 2) := by decide +kernel
theorem dL_acts_241 : decode cL_acts 241 = .ok (.iconst 0, 1) := by decide +kernel
theorem dL_acts_242 : decode cL_acts 242 = .ok (.istore 9, 2) := by decide +kernel
theorem dL_acts_244 : decode cL_acts 244 = .ok (.iload 9, 2) := by decide +kernel
theorem dL_acts_246 : decode cL_acts 246 = .ok (.bipush 8, 2) := by decide +kernel
theorem dL_acts_248 : decode cL_acts 248 = .ok (.if_icmp .ge 82, 3) := by decide +kernel
theorem dL_acts_251 : decode cL_acts 251 = .ok (.iload 8, 2) := by decide +kernel
theorem dL_acts_253 : decode cL_acts 253 = .ok (.ifCond .eq 77, 3) := by decide +kernel
theorem dL_acts_256 : decode cL_acts 256 = .ok (.iload 6, 2) := by decide +kernel
theorem dL_acts_258 : decode cL_acts 258 = .ok (.aload 4, 2) := by decide +kernel
theorem dL_acts_260 : decode cL_acts 260 = .ok (.iconst 0, 1) := by decide +kernel
theorem dL_acts_261 : decode cL_acts 261 = .ok (.iaload, 1) := by decide +kernel
theorem dL_acts_262 : decode cL_acts 262 = .ok (.invokestatic 149, 3) := by decide +kernel
theorem dL_acts_265 : decode cL_acts 265 = .ok (.iload 9, 2) := by decide +kernel
theorem dL_acts_267 : decode cL_acts 267 = .ok (.iconst 4, 1) := by decide +kernel
theorem dL_acts_268 : decode cL_acts 268 = .ok (.idiv, 1) := by decide +kernel
theorem dL_acts_269 : decode cL_acts 269 = .ok (.iadd, 1) := by decide +kernel
theorem dL_acts_270 : decode cL_acts 270 = .ok (.aload 4, 2) := by decide +kernel
theorem dL_acts_272 : decode cL_acts 272 = .ok (.iconst 0, 1) := by decide +kernel
theorem dL_acts_273 : decode cL_acts 273 = .ok (.iaload, 1) := by decide +kernel
theorem dL_acts_274 : decode cL_acts 274 = .ok (.irem, 1) := by decide +kernel
theorem dL_acts_275 : decode cL_acts 275 = .ok (.istore 10, 2) := by decide +kernel
theorem dL_acts_277 : decode cL_acts 277 = .ok (.aload_n 0, 1) := by decide +kernel
theorem dL_acts_278 : decode cL_acts 278 = .ok (.aload_n 1, 1) := by decide +kernel
theorem dL_acts_279 : decode cL_acts 279 = .ok (.aload_n 2, 1) := by decide +kernel
theorem dL_acts_280 : decode cL_acts 280 = .ok (.aload_n 3, 1) := by decide +kernel
theorem dL_acts_281 : decode cL_acts 281 = .ok (.aload 4, 2) := by decide +kernel
theorem dL_acts_283 : decode cL_acts 283 = .ok (.iload 10, 2) := by decide +kernel
theorem dL_acts_285 : decode cL_acts 285 = .ok (.iload 9, 2) := by decide +kernel
theorem dL_acts_287 : decode cL_acts 287 = .ok (.iconst 4, 1) := by decide +kernel
theorem dL_acts_288 : decode cL_acts 288 = .ok (.irem, 1) := by decide +kernel
theorem dL_acts_289 : decode cL_acts 289 = .ok (.iconst 0, 1) := by decide +kernel
theorem dL_acts_290 : decode cL_acts 290 = .ok (.iconst 0, 1) := by decide +kernel
theorem dL_acts_291 : decode cL_acts 291 = .ok (.invokestatic 201, 3) := by decide +kernel
theorem dL_acts_294 : decode cL_acts 294 = .ok (.ifCond .eq 27, 3) := by decide +kernel
theorem dL_acts_297 : decode cL_acts 297 = .ok (.aload_n 0, 1) := by decide +kernel
theorem dL_acts_298 : decode cL_acts 298 = .ok (.aload_n 1, 1) := by decide +kernel
theorem dL_acts_299 : decode cL_acts 299 = .ok (.aload_n 2, 1) := by decide +kernel
theorem dL_acts_300 : decode cL_acts 300 = .ok (.aload_n 3, 1) := by decide +kernel
theorem dL_acts_301 : decode cL_acts 301 = .ok (.aload 4, 2) := by decide +kernel
theorem dL_acts_303 : decode cL_acts 303 = .ok (.iload 10, 2) := by decide +kernel
theorem dL_acts_305 : decode cL_acts 305 = .ok (.iload 9, 2) := by decide +kernel
theorem dL_acts_307 : decode cL_acts 307 = .ok (.iconst 4, 1) := by decide +kernel
theorem dL_acts_308 : decode cL_acts 308 = .ok (.irem, 1) := by decide +kernel
theorem dL_acts_309 : decode cL_acts 309 = .ok (.iconst 1, 1) := by decide +kernel
theorem dL_acts_310 : decode cL_acts 310 = .ok (.iconst 1, 1) := by decide +kernel
theorem dL_acts_311 : decode cL_acts 311 = .ok (.invokestatic 201, 3) := by decide +kernel
theorem dL_acts_314 : decode cL_acts 314 = .ok (.ifCond .eq 7, 3) := by decide +kernel
theorem dL_acts_317 : decode cL_acts 317 = .ok (.iconst 1, 1) := by decide +kernel
theorem dL_acts_318 : decode cL_acts 318 = .ok (.goto 4, 3) := by decide +kernel
theorem dL_acts_321 : decode cL_acts 321 = .ok (.iconst 0, 1) := by decide +kernel
theorem dL_acts_322 : decode cL_acts 322 = .ok (.istore 8, 2) := by decide +kernel
theorem dL_acts_324 : decode cL_acts 324 = .ok (.iinc 9 1, 3) := by decide +kernel
theorem dL_acts_327 : decode cL_acts 327 = .ok (.goto (-83), 3) := by decide +kernel
theorem dL_acts_330 : decode cL_acts 330 = .ok (.iload 8, 2) := by decide +kernel
theorem dL_acts_332 : decode cL_acts 332 = .ok (.ireturn, 1) := by decide +kernel
theorem dL_acts_333 : decode cL_acts 333 = .ok (.aload_n 0, 1) := by decide +kernel
theorem dL_acts_334 : decode cL_acts 334 = .ok (.aload_n 1, 1) := by decide +kernel
theorem dL_acts_335 : decode cL_acts 335 = .ok (.aload_n 2, 1) := by decide +kernel
theorem dL_acts_336 : decode cL_acts 336 = .ok (.aload_n 3, 1) := by decide +kernel
theorem dL_acts_337 : decode cL_acts 337 = .ok (.aload 4, 2) := by decide +kernel
theorem dL_acts_339 : decode cL_acts 339 = .ok (.iload 5, 2) := by decide +kernel
theorem dL_acts_341 : decode cL_acts 341 = .ok (.iconst 5, 1) := by decide +kernel
theorem dL_acts_342 : decode cL_acts 342 = .ok (.ishr, 1) := by decide +kernel
theorem dL_acts_343 : decode cL_acts 343 = .ok (.iload 6, 2) := by decide +kernel
theorem dL_acts_345 : decode cL_acts 345 = .ok (.invokestatic 205, 3) := by decide +kernel
theorem dL_acts_348 : decode cL_acts 348 = .ok (.ireturn, 1) := by decide +kernel

theorem dL_orders_0 : decode cL_orders 0 = .ok (.iload 5, 2) := by decide +kernel
theorem dL_orders_2 : decode cL_orders 2 = .ok (.iconst 3, 1) := by decide +kernel
theorem dL_orders_3 : decode cL_orders 3 = .ok (.invokestatic 149, 3) := by decide +kernel
theorem dL_orders_6 : decode cL_orders 6 = .ok (.ifCond .ne 7, 3) := by decide +kernel
theorem dL_orders_9 : decode cL_orders 9 = .ok (.iconst 0, 1) := by decide +kernel
theorem dL_orders_10 : decode cL_orders 10 = .ok (.goto 26, 3) := by decide +kernel
theorem dL_orders_13 : decode cL_orders 13 = .ok (.iconst 1, 1) := by decide +kernel
theorem dL_orders_14 : decode cL_orders 14 = .ok (.iload 5, 2) := by decide +kernel
theorem dL_orders_16 : decode cL_orders 16 = .ok (.iconst 2, 1) := by decide +kernel
theorem dL_orders_17 : decode cL_orders 17 = .ok (.ishr, 1) := by decide +kernel
theorem dL_orders_18 : decode cL_orders 18 = .ok (.bipush 8, 2) := by decide +kernel
theorem dL_orders_20 : decode cL_orders 20 = .ok (.invokestatic 149, 3) := by decide +kernel
theorem dL_orders_23 : decode cL_orders 23 = .ok (.ishl, 1) := by decide +kernel
theorem dL_orders_24 : decode cL_orders 24 = .ok (.iconst 1, 1) := by decide +kernel
theorem dL_orders_25 : decode cL_orders 25 = .ok (.iload 5, 2) := by decide +kernel
theorem dL_orders_27 : decode cL_orders 27 = .ok (.iconst 5, 1) := by decide +kernel
theorem dL_orders_28 : decode cL_orders 28 = .ok (.ishr, 1) := by decide +kernel
theorem dL_orders_29 : decode cL_orders 29 = .ok (.bipush 8, 2) := by decide +kernel
theorem dL_orders_31 : decode cL_orders 31 = .ok (.invokestatic 149, 3) := by decide +kernel
theorem dL_orders_34 : decode cL_orders 34 = .ok (.ishl, 1) := by decide +kernel
theorem dL_orders_35 : decode cL_orders 35 = .ok (.ior, 1) := by decide +kernel
theorem dL_orders_36 : decode cL_orders 36 = .ok (.istore 6, 2) := by decide +kernel
theorem dL_orders_38 : decode cL_orders 38 = .ok (.iload 5, 2) := by decide +kernel
theorem dL_orders_40 : decode cL_orders 40 = .ok (.bipush 8, 2) := by decide +kernel
theorem dL_orders_42 : decode cL_orders 42 = .ok (.ishr, 1) := by decide +kernel
theorem dL_orders_43 : decode cL_orders 43 = .ok (.bipush 16, 2) := by decide +kernel
theorem dL_orders_45 : decode cL_orders 45 = .ok (.invokestatic 149, 3) := by decide +kernel
theorem dL_orders_48 : decode cL_orders 48 = .ok (.istore 7, 2) := by decide +kernel
theorem dL_orders_50 : decode cL_orders 50 = .ok (.iload 4, 2) := by decide +kernel
theorem dL_orders_52 : decode cL_orders 52 = .ok (.bipush 10, 2) := by decide +kernel
theorem dL_orders_54 : decode cL_orders 54 = .ok (.invokestatic 149, 3) := by decide +kernel
theorem dL_orders_57 : decode cL_orders 57 = .ok (.istore 8, 2) := by decide +kernel
theorem dL_orders_59 : decode cL_orders 59 = .ok (.aload_n 3, 1) := by decide +kernel
theorem dL_orders_60 : decode cL_orders 60 = .ok (.iconst 0, 1) := by decide +kernel
theorem dL_orders_61 : decode cL_orders 61 = .ok (.iaload, 1) := by decide +kernel
theorem dL_orders_62 : decode cL_orders 62 = .ok (.iconst 5, 1) := by decide +kernel
theorem dL_orders_63 : decode cL_orders 63 = .ok (.if_icmp .lt 17, 3) := by decide +kernel
theorem dL_orders_66 : decode cL_orders 66 = .ok (.iload 8, 2) := by decide +kernel
theorem dL_orders_68 : decode cL_orders 68 = .ok (.iconst 3, 1) := by decide +kernel
theorem dL_orders_69 : decode cL_orders 69 = .ok (.if_icmp .ge 201, 3) := by decide +kernel
theorem dL_orders_72 : decode cL_orders 72 = .ok (.aload_n 3, 1) := by decide +kernel
theorem dL_orders_73 : decode cL_orders 73 = .ok (.iconst 0, 1) := by decide +kernel
theorem dL_orders_74 : decode cL_orders 74 = .ok (.iaload, 1) := by decide +kernel
theorem dL_orders_75 : decode cL_orders 75 = .ok (.bipush 24, 2) := by decide +kernel
theorem dL_orders_77 : decode cL_orders 77 = .ok (.if_icmp .ge 193, 3) := by decide +kernel
theorem dL_orders_80 : decode cL_orders 80 = .ok (.iload 4, 2) := by decide +kernel
theorem dL_orders_82 : decode cL_orders 82 = .ok (.iconst 4, 1) := by decide +kernel
theorem dL_orders_83 : decode cL_orders 83 = .ok (.ishr, 1) := by decide +kernel
theorem dL_orders_84 : decode cL_orders 84 = .ok (.aload_n 3, 1) := by decide +kernel
theorem dL_orders_85 : decode cL_orders 85 = .ok (.iconst 0, 1) := by decide +kernel
theorem dL_orders_86 : decode cL_orders 86 = .ok (.iaload, 1) := by decide +kernel
theorem dL_orders_87 : decode cL_orders 87 = .ok (.iconst 1, 1) := by decide +kernel
theorem dL_orders_88 : decode cL_orders 88 = .ok (.iadd, 1) := by decide +kernel
theorem dL_orders_89 : decode cL_orders 89 = .ok (.invokestatic 149, 3) := by decide +kernel
theorem dL_orders_92 : decode cL_orders 92 = .ok (.istore 9, 2) := by decide +kernel
theorem dL_orders_94 : decode cL_orders 94 = .ok (.aload_n 3, 1) := by decide +kernel
theorem dL_orders_95 : decode cL_orders 95 = .ok (.iconst 1, 1) := by decide +kernel
theorem dL_orders_96 : decode cL_orders 96 = .ok (.iaload, 1) := by decide +kernel
theorem dL_orders_97 : decode cL_orders 97 = .ok (.bipush 100, 2) := by decide +kernel
theorem dL_orders_99 : decode cL_orders 99 = .ok (.if_icmp .ge 7, 3) := by decide +kernel
theorem dL_orders_102 : decode cL_orders 102 = .ok (.iconst 1, 1) := by decide +kernel
theorem dL_orders_103 : decode cL_orders 103 = .ok (.goto 4, 3) := by decide +kernel
theorem dL_orders_106 : decode cL_orders 106 = .ok (.iconst 0, 1) := by decide +kernel
theorem dL_orders_107 : decode cL_orders 107 = .ok (.istore 10, 2) := by decide +kernel
theorem dL_orders_109 : decode cL_orders 109 = .ok (.aload_n 3, 1) := by decide +kernel
theorem dL_orders_110 : decode cL_orders 110 = .ok (.iconst 0, 1) := by decide +kernel
theorem dL_orders_111 : decode cL_orders 111 = .ok (.iaload, 1) := by decide +kernel
theorem dL_orders_112 : decode cL_orders 112 = .ok (.istore 11, 2) := by decide +kernel
theorem dL_orders_114 : decode cL_orders 114 = .ok (.iload 11, 2) := by decide +kernel
theorem dL_orders_116 : decode cL_orders 116 = .ok (.iload 9, 2) := by decide +kernel
theorem dL_orders_118 : decode cL_orders 118 = .ok (.if_icmp .le 34, 3) := by decide +kernel
theorem dL_orders_121 : decode cL_orders 121 = .ok (.iload 10, 2) := by decide +kernel
theorem dL_orders_123 : decode cL_orders 123 = .ok (.ifCond .eq 29, 3) := by decide +kernel
theorem dL_orders_126 : decode cL_orders 126 = .ok (.aload_n 1, 1) := by decide +kernel
theorem dL_orders_127 : decode cL_orders 127 = .ok (.iload 11, 2) := by decide +kernel
theorem dL_orders_129 : decode cL_orders 129 = .ok (.aload_n 1, 1) := by decide +kernel
theorem dL_orders_130 : decode cL_orders 130 = .ok (.iload 11, 2) := by decide +kernel
theorem dL_orders_132 : decode cL_orders 132 = .ok (.iconst 1, 1) := by decide +kernel
theorem dL_orders_133 : decode cL_orders 133 = .ok (.isub, 1) := by decide +kernel
theorem dL_orders_134 : decode cL_orders 134 = .ok (.iaload, 1) := by decide +kernel
theorem dL_orders_135 : decode cL_orders 135 = .ok (.iastore, 1) := by decide +kernel
theorem dL_orders_136 : decode cL_orders 136 = .ok (.aload_n 2, 1) := by decide +kernel
theorem dL_orders_137 : decode cL_orders 137 = .ok (.iload 11, 2) := by decide +kernel
theorem dL_orders_139 : decode cL_orders 139 = .ok (.aload_n 2, 1) := by decide +kernel
theorem dL_orders_140 : decode cL_orders 140 = .ok (.iload 11, 2) := by decide +kernel
theorem dL_orders_142 : decode cL_orders 142 = .ok (.iconst 1, 1) := by decide +kernel
theorem dL_orders_143 : decode cL_orders 143 = .ok (.isub, 1) := by decide +kernel
theorem dL_orders_144 : decode cL_orders 144 = .ok (.iaload, 1) := by decide +kernel
theorem dL_orders_145 : decode cL_orders 145 = .ok (.iastore, 1) := by decide +kernel
theorem dL_orders_146 : decode cL_orders 146 = .ok (.iinc 11 (-1), 3) := by decide +kernel
theorem dL_orders_149 : decode cL_orders 149 = .ok (.goto (-35), 3) := by decide +kernel
theorem dL_orders_152 : decode cL_orders 152 = .ok (.iload 10, 2) := by decide +kernel
theorem dL_orders_154 : decode cL_orders 154 = .ok (.ifCond .eq 39, 3) := by decide +kernel
theorem dL_orders_157 : decode cL_orders 157 = .ok (.aload_n 1, 1) := by decide +kernel
theorem dL_orders_158 : decode cL_orders 158 = .ok (.iload 9, 2) := by decide +kernel
theorem dL_orders_160 : decode cL_orders 160 = .ok (.iload 6, 2) := by decide +kernel
theorem dL_orders_162 : decode cL_orders 162 = .ok (.sipush 256, 3) := by decide +kernel
theorem dL_orders_165 : decode cL_orders 165 = .ok (.iload 7, 2) := by decide +kernel
theorem dL_orders_167 : decode cL_orders 167 = .ok (.imul, 1) := by decide +kernel
theorem dL_orders_168 : decode cL_orders 168 = .ok (.iadd, 1) := by decide +kernel
theorem dL_orders_169 : decode cL_orders 169 = .ok (.sipush 4096, 3) := by decide +kernel
theorem dL_orders_172 : decode cL_orders 172 = .ok (.iadd, 1) := by decide +kernel
theorem dL_orders_173 : decode cL_orders 173 = .ok (.iastore, 1) := by decide +kernel
theorem dL_orders_174 : decode cL_orders 174 = .ok (.aload_n 2, 1) := by decide +kernel
theorem dL_orders_175 : decode cL_orders 175 = .ok (.iload 9, 2) := by decide +kernel
theorem dL_orders_177 : decode cL_orders 177 = .ok (.iconst 0, 1) := by decide +kernel
theorem dL_orders_178 : decode cL_orders 178 = .ok (.iastore, 1) := by decide +kernel
theorem dL_orders_179 : decode cL_orders 179 = .ok (.aload_n 3, 1) := by decide +kernel
theorem dL_orders_180 : decode cL_orders 180 = .ok (.iconst 0, 1) := by decide +kernel
theorem dL_orders_181 : decode cL_orders 181 = .ok (.dup2, 1) := by decide +kernel
theorem dL_orders_182 : decode cL_orders 182 = .ok (.iaload, 1) := by decide +kernel
theorem dL_orders_183 : decode cL_orders 183 = .ok (.iconst 1, 1) := by decide +kernel
theorem dL_orders_184 : decode cL_orders 184 = .ok (.iadd, 1) := by decide +kernel
theorem dL_orders_185 : decode cL_orders 185 = .ok (.iastore, 1) := by decide +kernel
theorem dL_orders_186 : decode cL_orders 186 = .ok (.aload_n 3, 1) := by decide +kernel
theorem dL_orders_187 : decode cL_orders 187 = .ok (.iconst 1, 1) := by decide +kernel
theorem dL_orders_188 : decode cL_orders 188 = .ok (.dup2, 1) := by decide +kernel
theorem dL_orders_189 : decode cL_orders 189 = .ok (.iaload, 1) := by decide +kernel
theorem dL_orders_190 : decode cL_orders 190 = .ok (.iconst 1, 1) := by decide +kernel
theorem dL_orders_191 : decode cL_orders 191 = .ok (.iadd, 1) := by decide +kernel
theorem dL_orders_192 : decode cL_orders 192 = .ok (.iastore, 1) := by decide +kernel
theorem dL_orders_193 : decode cL_orders 193 = .ok (.aload_n 0, 1) := by decide +kernel
theorem dL_orders_194 : decode cL_orders 194 = .ok (.iload 9, 2) := by decide +kernel
theorem dL_orders_196 : decode cL_orders 196 = .ok (.iload 6, 2) := by decide +kernel
theorem dL_orders_198 : decode cL_orders 198 = .ok (.iload 7, 2) := by decide +kernel
theorem dL_orders_200 : decode cL_orders 200 = .ok (.invokestatic 152, 3) := by decide +kernel
theorem dL_orders_203 : decode cL_orders 203 = .ok (.iload 10, 2) := by decide +kernel
theorem dL_orders_205 : decode cL_orders 205 = .ok (.ifCond .eq 9, 3) := by decide +kernel
theorem dL_orders_208 : decode cL_orders 208 = .ok (.aload_n 3, 1) := by decide +kernel
theorem dL_orders_209 : decode cL_orders 209 = .ok (.iconst 0, 1) := by decide +kernel
theorem dL_orders_210 : decode cL_orders 210 = .ok (.iaload, 1) := by decide +kernel
theorem dL_orders_211 : decode cL_orders 211 = .ok (.goto 5, 3) := by decide +kernel
theorem dL_orders_214 : decode cL_orders 214 = .ok (.ldc 24, 2) := by decide +kernel
theorem dL_orders_216 : decode cL_orders 216 = .ok (.if_icmp .ne 52, 3) := by decide +kernel
theorem dL_orders_219 : decode cL_orders 219 = .ok (.aload_n 0, 1) := by decide +kernel
theorem dL_orders_220 : decode cL_orders 220 = .ok (.aload_n 3, 1) := by decide +kernel
theorem dL_orders_221 : decode cL_orders 221 = .ok (.iconst 0, 1) := by decide +kernel
theorem dL_orders_222 : decode cL_orders 222 = .ok (.iaload, 1) := by decide +kernel
theorem dL_orders_223 : decode cL_orders 223 = .ok (.iconst 1, 1) := by decide +kernel
theorem dL_orders_224 : decode cL_orders 224 = .ok (.iadd, 1) := by decide +kernel
theorem dL_orders_225 : decode cL_orders 225 = .ok (.sipush 256, 3) := by decide +kernel
theorem dL_orders_228 : decode cL_orders 228 = .ok (.iconst 0, 1) := by decide +kernel
theorem dL_orders_229 : decode cL_orders 229 = .ok (.invokestatic 152, 3) := by decide +kernel
theorem dL_orders_232 : decode cL_orders 232 = .ok (.ldc 18, 2) := by decide +kernel
theorem dL_orders_234 : decode cL_orders 234 = .ok (.if_icmp .ne 34, 3) := by decide +kernel
theorem dL_orders_237 : decode cL_orders 237 = .ok (.aload_n 0, 1) := by decide +kernel
theorem dL_orders_238 : decode cL_orders 238 = .ok (.iconst 0, 1) := by decide +kernel
theorem dL_orders_239 : decode cL_orders 239 = .ok (.sipush 256, 3) := by decide +kernel
theorem dL_orders_242 : decode cL_orders 242 = .ok (.iconst 0, 1) := by decide +kernel
theorem dL_orders_243 : decode cL_orders 243 = .ok (.invokestatic 152, 3) := by decide +kernel
theorem dL_orders_246 : decode cL_orders 246 = .ok (.ldc 21, 2) := by decide +kernel
theorem dL_orders_248 : decode cL_orders 248 = .ok (.if_icmp .ne 20, 3) := by decide +kernel
theorem dL_orders_251 : decode cL_orders 251 = .ok (.aload_n 0, 1) := by decide +kernel
theorem dL_orders_252 : decode cL_orders 252 = .ok (.iconst 0, 1) := by decide +kernel
theorem dL_orders_253 : decode cL_orders 253 = .ok (.iconst 0, 1) := by decide +kernel
theorem dL_orders_254 : decode cL_orders 254 = .ok (.bipush 16, 2) := by decide +kernel
theorem dL_orders_256 : decode cL_orders 256 = .ok (.invokestatic 152, 3) := by decide +kernel
theorem dL_orders_259 : decode cL_orders 259 = .ok (.ldc 21, 2) := by decide +kernel
theorem dL_orders_261 : decode cL_orders 261 = .ok (.if_icmp .ne 7, 3) := by decide +kernel
theorem dL_orders_264 : decode cL_orders 264 = .ok (.iconst 1, 1) := by decide +kernel
theorem dL_orders_265 : decode cL_orders 265 = .ok (.goto 4, 3) := by decide +kernel
theorem dL_orders_268 : decode cL_orders 268 = .ok (.iconst 0, 1) := by decide +kernel
theorem dL_orders_269 : decode cL_orders 269 = .ok (.ireturn, 1) := by decide +kernel
theorem dL_orders_270 : decode cL_orders 270 = .ok (.aload_n 3, 1) := by decide +kernel
theorem dL_orders_271 : decode cL_orders 271 = .ok (.iconst 0, 1) := by decide +kernel
theorem dL_orders_272 : decode cL_orders 272 = .ok (.iaload, 1) := by decide +kernel
theorem dL_orders_273 : decode cL_orders 273 = .ok (.ifCond .ne 19, 3) := by decide +kernel
theorem dL_orders_276 : decode cL_orders 276 = .ok (.aload_n 0, 1) := by decide +kernel
theorem dL_orders_277 : decode cL_orders 277 = .ok (.iconst 0, 1) := by decide +kernel
theorem dL_orders_278 : decode cL_orders 278 = .ok (.invokestatic 155, 3) := by decide +kernel
theorem dL_orders_281 : decode cL_orders 281 = .ok (.ldc 18, 2) := by decide +kernel
theorem dL_orders_283 : decode cL_orders 283 = .ok (.if_icmp .ne 7, 3) := by decide +kernel
theorem dL_orders_286 : decode cL_orders 286 = .ok (.iconst 1, 1) := by decide +kernel
theorem dL_orders_287 : decode cL_orders 287 = .ok (.goto 4, 3) := by decide +kernel
theorem dL_orders_290 : decode cL_orders 290 = .ok (.iconst 0, 1) := by decide +kernel
theorem dL_orders_291 : decode cL_orders 291 = .ok (.ireturn, 1) := by decide +kernel
theorem dL_orders_292 : decode cL_orders 292 = .ok (.iload 4, 2) := by decide +kernel
theorem dL_orders_294 : decode cL_orders 294 = .ok (.iconst 4, 1) := by decide +kernel
theorem dL_orders_295 : decode cL_orders 295 = .ok (.ishr, 1) := by decide +kernel
theorem dL_orders_296 : decode cL_orders 296 = .ok (.aload_n 3, 1) := by decide +kernel
theorem dL_orders_297 : decode cL_orders 297 = .ok (.iconst 0, 1) := by decide +kernel
theorem dL_orders_298 : decode cL_orders 298 = .ok (.iaload, 1) := by decide +kernel
theorem dL_orders_299 : decode cL_orders 299 = .ok (.invokestatic 149, 3) := by decide +kernel
theorem dL_orders_302 : decode cL_orders 302 = .ok (.istore 9, 2) := by decide +kernel
theorem dL_orders_304 : decode cL_orders 304 = .ok (.iload 8, 2) := by decide +kernel
theorem dL_orders_306 : decode cL_orders 306 = .ok (.iconst 4, 1) := by decide +kernel
theorem dL_orders_307 : decode cL_orders 307 = .ok (.if_icmp .ge 78, 3) := by decide +kernel
theorem dL_orders_310 : decode cL_orders 310 = .ok (.aload_n 3, 1) := by decide +kernel
theorem dL_orders_311 : decode cL_orders 311 = .ok (.iconst 0, 1) := by decide +kernel
theorem dL_orders_312 : decode cL_orders 312 = .ok (.dup2, 1) := by decide +kernel
theorem dL_orders_313 : decode cL_orders 313 = .ok (.iaload, 1) := by decide +kernel
theorem dL_orders_314 : decode cL_orders 314 = .ok (.iconst 1, 1) := by decide +kernel
theorem dL_orders_315 : decode cL_orders 315 = .ok (.isub, 1) := by decide +kernel
theorem dL_orders_316 : decode cL_orders 316 = .ok (.iastore, 1) := by decide +kernel
theorem dL_orders_317 : decode cL_orders 317 = .ok (.iload 9, 2) := by decide +kernel
theorem dL_orders_319 : decode cL_orders 319 = .ok (.istore 10, 2) := by decide +kernel
theorem dL_orders_321 : decode cL_orders 321 = .ok (.iload 10, 2) := by decide +kernel
theorem dL_orders_323 : decode cL_orders 323 = .ok (.aload_n 3, 1) := by decide +kernel
theorem dL_orders_324 : decode cL_orders 324 = .ok (.iconst 0, 1) := by decide +kernel
theorem dL_orders_325 : decode cL_orders 325 = .ok (.iaload, 1) := by decide +kernel
theorem dL_orders_326 : decode cL_orders 326 = .ok (.if_icmp .ge 29, 3) := by decide +kernel
theorem dL_orders_329 : decode cL_orders 329 = .ok (.aload_n 1, 1) := by decide +kernel
theorem dL_orders_330 : decode cL_orders 330 = .ok (.iload 10, 2) := by decide +kernel
theorem dL_orders_332 : decode cL_orders 332 = .ok (.aload_n 1, 1) := by decide +kernel
theorem dL_orders_333 : decode cL_orders 333 = .ok (.iload 10, 2) := by decide +kernel
theorem dL_orders_335 : decode cL_orders 335 = .ok (.iconst 1, 1) := by decide +kernel
theorem dL_orders_336 : decode cL_orders 336 = .ok (.iadd, 1) := by decide +kernel
theorem dL_orders_337 : decode cL_orders 337 = .ok (.iaload, 1) := by decide +kernel
theorem dL_orders_338 : decode cL_orders 338 = .ok (.iastore, 1) := by decide +kernel
theorem dL_orders_339 : decode cL_orders 339 = .ok (.aload_n 2, 1) := by decide +kernel
theorem dL_orders_340 : decode cL_orders 340 = .ok (.iload 10, 2) := by decide +kernel
theorem dL_orders_342 : decode cL_orders 342 = .ok (.aload_n 2, 1) := by decide +kernel
theorem dL_orders_343 : decode cL_orders 343 = .ok (.iload 10, 2) := by decide +kernel
theorem dL_orders_345 : decode cL_orders 345 = .ok (.iconst 1, 1) := by decide +kernel
theorem dL_orders_346 : decode cL_orders 346 = .ok (.iadd, 1) := by decide +kernel
theorem dL_orders_347 : decode cL_orders 347 = .ok (.iaload, 1) := by decide +kernel
theorem dL_orders_348 : decode cL_orders 348 = .ok (.iastore, 1) := by decide +kernel
theorem dL_orders_349 : decode cL_orders 349 = .ok (.iinc 10 1, 3) := by decide +kernel
theorem dL_orders_352 : decode cL_orders 352 = .ok (.goto (-31), 3) := by decide +kernel
theorem dL_orders_355 : decode cL_orders 355 = .ok (.aload_n 0, 1) := by decide +kernel
theorem dL_orders_356 : decode cL_orders 356 = .ok (.iload 9, 2) := by decide +kernel
theorem dL_orders_358 : decode cL_orders 358 = .ok (.invokestatic 155, 3) := by decide +kernel
theorem dL_orders_361 : decode cL_orders 361 = .ok (.aload_n 3, 1) := by decide +kernel
theorem dL_orders_362 : decode cL_orders 362 = .ok (.iconst 0, 1) := by decide +kernel
theorem dL_orders_363 : decode cL_orders 363 = .ok (.iaload, 1) := by decide +kernel
theorem dL_orders_364 : decode cL_orders 364 = .ok (.if_icmp .ne 19, 3) := by decide +kernel
theorem dL_orders_367 : decode cL_orders 367 = .ok (.aload_n 0, 1) := by decide +kernel
theorem dL_orders_368 : decode cL_orders 368 = .ok (.aload_n 3, 1) := by decide +kernel
theorem dL_orders_369 : decode cL_orders 369 = .ok (.iconst 0, 1) := by decide +kernel
theorem dL_orders_370 : decode cL_orders 370 = .ok (.iaload, 1) := by decide +kernel
theorem dL_orders_371 : decode cL_orders 371 = .ok (.invokestatic 155, 3) := by decide +kernel
theorem dL_orders_374 : decode cL_orders 374 = .ok (.ldc 18, 2) := by decide +kernel

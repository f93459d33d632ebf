theorem dL_proves_0 : decode cL_proves 0 = .ok (.aload_n 1, 1) := by decide +kernel
theorem dL_proves_1 : decode cL_proves 1 = .ok (.iload 5, 2) := by decide +kernel
theorem dL_proves_3 : decode cL_proves 3 = .ok (.iaload, 1) := by decide +kernel
theorem dL_proves_4 : decode cL_proves 4 = .ok (.bipush 8, 2) := by decide +kernel
theorem dL_proves_6 : decode cL_proves 6 = .ok (.iload 6, 2) := by decide +kernel
theorem dL_proves_8 : decode cL_proves 8 = .ok (.iadd, 1) := by decide +kernel
theorem dL_proves_9 : decode cL_proves 9 = .ok (.ishr, 1) := by decide +kernel
theorem dL_proves_10 : decode cL_proves 10 = .ok (.iconst 1, 1) := by decide +kernel
theorem dL_proves_11 : decode cL_proves 11 = .ok (.iand, 1) := by decide +kernel
theorem dL_proves_12 : decode cL_proves 12 = .ok (.iconst 1, 1) := by decide +kernel
theorem dL_proves_13 : decode cL_proves 13 = .ok (.if_icmp .ne 7, 3) := by decide +kernel
theorem dL_proves_16 : decode cL_proves 16 = .ok (.iconst 1, 1) := by decide +kernel
theorem dL_proves_17 : decode cL_proves 17 = .ok (.goto 4, 3) := by decide +kernel
theorem dL_proves_20 : decode cL_proves 20 = .ok (.iconst 0, 1) := by decide +kernel
theorem dL_proves_21 : decode cL_proves 21 = .ok (.istore 9, 2) := by decide +kernel
theorem dL_proves_23 : decode cL_proves 23 = .ok (.aload_n 2, 1) := by decide +kernel
theorem dL_proves_24 : decode cL_proves 24 = .ok (.iload 5, 2) := by decide +kernel
theorem dL_proves_26 : decode cL_proves 26 = .ok (.iaload, 1) := by decide +kernel
theorem dL_proves_27 : decode cL_proves 27 = .ok (.iconst 2, 1) := by decide +kernel
theorem dL_proves_28 : decode cL_proves 28 = .ok (.iload 6, 2) := by decide +kernel
theorem dL_proves_30 : decode cL_proves 30 = .ok (.imul, 1) := by decide +kernel
theorem dL_proves_31 : decode cL_proves 31 = .ok (.ishr, 1) := by decide +kernel
theorem dL_proves_32 : decode cL_proves 32 = .ok (.iconst 3, 1) := by decide +kernel
theorem dL_proves_33 : decode cL_proves 33 = .ok (.iand, 1) := by decide +kernel
theorem dL_proves_34 : decode cL_proves 34 = .ok (.istore 10, 2) := by decide +kernel
theorem dL_proves_36 : decode cL_proves 36 = .ok (.iload 7, 2) := by decide +kernel
theorem dL_proves_38 : decode cL_proves 38 = .ok (.ifCond .eq 107, 3) := by decide +kernel
theorem dL_proves_41 : decode cL_proves 41 = .ok (.iload 10, 2) := by decide +kernel
theorem dL_proves_43 : decode cL_proves 43 = .ok (.iconst 1, 1) := by decide +kernel
theorem dL_proves_44 : decode cL_proves 44 = .ok (.if_icmp .ne 25, 3) := by decide +kernel
theorem dL_proves_47 : decode cL_proves 47 = .ok (.aload_n 2, 1) := by decide +kernel
theorem dL_proves_48 : decode cL_proves 48 = .ok (.iload 5, 2) := by decide +kernel
theorem dL_proves_50 : decode cL_proves 50 = .ok (.dup2, 1) := by decide +kernel
theorem dL_proves_51 : decode cL_proves 51 = .ok (.iaload, 1) := by decide +kernel
theorem dL_proves_52 : decode cL_proves 52 = .ok (.iload 8, 2) := by decide +kernel
theorem dL_proves_54 : decode cL_proves 54 = .ok (.ifCond .eq 7, 3) := by decide +kernel
theorem dL_proves_57 : decode cL_proves 57 = .ok (.iconst 1, 1) := by decide +kernel
theorem dL_proves_58 : decode cL_proves 58 = .ok (.goto 4, 3) := by decide +kernel
theorem dL_proves_61 : decode cL_proves 61 = .ok (.iconst 2, 1) := by decide +kernel
theorem dL_proves_62 : decode cL_proves 62 = .ok (.iconst 2, 1) := by decide +kernel
theorem dL_proves_63 : decode cL_proves 63 = .ok (.iload 6, 2) := by decide +kernel
theorem dL_proves_65 : decode cL_proves 65 = .ok (.imul, 1) := by decide +kernel
theorem dL_proves_66 : decode cL_proves 66 = .ok (.ishl, 1) := by decide +kernel
theorem dL_proves_67 : decode cL_proves 67 = .ok (.iadd, 1) := by decide +kernel
theorem dL_proves_68 : decode cL_proves 68 = .ok (.iastore, 1) := by decide +kernel
theorem dL_proves_69 : decode cL_proves 69 = .ok (.aload_n 0, 1) := by decide +kernel
theorem dL_proves_70 : decode cL_proves 70 = .ok (.iload 5, 2) := by decide +kernel
theorem dL_proves_72 : decode cL_proves 72 = .ok (.iload 6, 2) := by decide +kernel
theorem dL_proves_74 : decode cL_proves 74 = .ok (.iload 8, 2) := by decide +kernel
theorem dL_proves_76 : decode cL_proves 76 = .ok (.invokestatic 180, 3) := by decide +kernel
theorem dL_proves_79 : decode cL_proves 79 = .ok (.iload 10, 2) := by decide +kernel
theorem dL_proves_81 : decode cL_proves 81 = .ok (.iconst 1, 1) := by decide +kernel
theorem dL_proves_82 : decode cL_proves 82 = .ok (.if_icmp .eq 8, 3) := by decide +kernel
theorem dL_proves_85 : decode cL_proves 85 = .ok (.ldc 24, 2) := by decide +kernel
theorem dL_proves_87 : decode cL_proves 87 = .ok (.goto 21, 3) := by decide +kernel
theorem dL_proves_90 : decode cL_proves 90 = .ok (.aload_n 1, 1) := by decide +kernel
theorem dL_proves_91 : decode cL_proves 91 = .ok (.aload_n 2, 1) := by decide +kernel
theorem dL_proves_92 : decode cL_proves 92 = .ok (.aload_n 3, 1) := by decide +kernel
theorem dL_proves_93 : decode cL_proves 93 = .ok (.aload 4, 2) := by decide +kernel
theorem dL_proves_95 : decode cL_proves 95 = .ok (.iload 5, 2) := by decide +kernel
theorem dL_proves_97 : decode cL_proves 97 = .ok (.invokestatic 104, 3) := by decide +kernel
theorem dL_proves_100 : decode cL_proves 100 = .ok (.ifCond .eq 7, 3) := by decide +kernel
theorem dL_proves_103 : decode cL_proves 103 = .ok (.iconst 1, 1) := by decide +kernel
theorem dL_proves_104 : decode cL_proves 104 = .ok (.goto 4, 3) := by decide +kernel
theorem dL_proves_107 : decode cL_proves 107 = .ok (.iconst 0, 1) := by decide +kernel
theorem dL_proves_108 : decode cL_proves 108 = .ok (.if_icmp .ne 35, 3) := by decide +kernel
theorem dL_proves_111 : decode cL_proves 111 = .ok (.aload_n 0, 1) := by decide +kernel
theorem dL_proves_112 : decode cL_proves 112 = .ok (.iload 5, 2) := by decide +kernel
theorem dL_proves_114 : decode cL_proves 114 = .ok (.iconst 4, 1) := by decide +kernel
theorem dL_proves_115 : decode cL_proves 115 = .ok (.iconst 1, 1) := by decide +kernel
theorem dL_proves_116 : decode cL_proves 116 = .ok (.invokestatic 180, 3) := by decide +kernel
theorem dL_proves_119 : decode cL_proves 119 = .ok (.ldc 21, 2) := by decide +kernel
theorem dL_proves_121 : decode cL_proves 121 = .ok (.if_icmp .ne 22, 3) := by decide +kernel
theorem dL_proves_124 : decode cL_proves 124 = .ok (.aload_n 0, 1) := by decide +kernel
theorem dL_proves_125 : decode cL_proves 125 = .ok (.aload 4, 2) := by decide +kernel
theorem dL_proves_127 : decode cL_proves 127 = .ok (.iconst 0, 1) := by decide +kernel
theorem dL_proves_128 : decode cL_proves 128 = .ok (.iaload, 1) := by decide +kernel
theorem dL_proves_129 : decode cL_proves 129 = .ok (.iconst 4, 1) := by decide +kernel
theorem dL_proves_130 : decode cL_proves 130 = .ok (.iconst 1, 1) := by decide +kernel
theorem dL_proves_131 : decode cL_proves 131 = .ok (.invokestatic 180, 3) := by decide +kernel
theorem dL_proves_134 : decode cL_proves 134 = .ok (.ldc 18, 2) := by decide +kernel
theorem dL_proves_136 : decode cL_proves 136 = .ok (.if_icmp .ne 7, 3) := by decide +kernel
theorem dL_proves_139 : decode cL_proves 139 = .ok (.iconst 1, 1) := by decide +kernel
theorem dL_proves_140 : decode cL_proves 140 = .ok (.goto 4, 3) := by decide +kernel
theorem dL_proves_143 : decode cL_proves 143 = .ok (.iconst 0, 1) := by decide +kernel
theorem dL_proves_144 : decode cL_proves 144 = .ok (.ireturn, 1) := by decide +kernel
theorem dL_proves_145 : decode cL_proves 145 = .ok (.iload 9, 2) := by decide +kernel
theorem dL_proves_147 : decode cL_proves 147 = .ok (.ifCond .eq 18, 3) := by decide +kernel
theorem dL_proves_150 : decode cL_proves 150 = .ok (.iload 10, 2) := by decide +kernel
theorem dL_proves_152 : decode cL_proves 152 = .ok (.ifCond .eq 9, 3) := by decide +kernel
theorem dL_proves_155 : decode cL_proves 155 = .ok (.iload 10, 2) := by decide +kernel
theorem dL_proves_157 : decode cL_proves 157 = .ok (.iconst 3, 1) := by decide +kernel
theorem dL_proves_158 : decode cL_proves 158 = .ok (.if_icmp .ne 7, 3) := by decide +kernel
theorem dL_proves_161 : decode cL_proves 161 = .ok (.iconst 1, 1) := by decide +kernel
theorem dL_proves_162 : decode cL_proves 162 = .ok (.goto 4, 3) := by decide +kernel
theorem dL_proves_165 : decode cL_proves 165 = .ok (.iconst 0, 1) := by decide +kernel
theorem dL_proves_166 : decode cL_proves 166 = .ok (.istore 11, 2) := by decide +kernel
theorem dL_proves_168 : decode cL_proves 168 = .ok (.iconst 0, 1) := by decide +kernel
theorem dL_proves_169 : decode cL_proves 169 = .ok (.istore 12, 2) := by decide +kernel
theorem dL_proves_171 : decode cL_proves 171 = .ok (.iload 12, 2) := by decide +kernel
theorem dL_proves_173 : decode cL_proves 173 = .ok (.bipush 8, 2) := by decide +kernel
theorem dL_proves_175 : decode cL_proves 175 = .ok (.if_icmp .ge 44, 3) := by decide +kernel
theorem dL_proves_178 : decode cL_proves 178 = .ok (.iload 11, 2) := by decide +kernel
theorem dL_proves_180 : decode cL_proves 180 = .ok (.ifCond .eq 30, 3) := by decide +kernel
theorem dL_proves_183 : decode cL_proves 183 = .ok (.aload_n 1, 1) := by decide +kernel
theorem dL_proves_184 : decode cL_proves 184 = .ok (.iload 5, 2) := by decide +kernel
theorem dL_proves_186 : decode cL_proves 186 = .ok (.iaload, 1) := by decide +kernel
theorem dL_proves_187 : decode cL_proves 187 = .ok (.iload 12, 2) := by decide +kernel
theorem dL_proves_189 : decode cL_proves 189 = .ok (.ishr, 1) := by decide +kernel
theorem dL_proves_190 : decode cL_proves 190 = .ok (.iconst 1, 1) := by decide +kernel
theorem dL_proves_191 : decode cL_proves 191 = .ok (.iand, 1) := by decide +kernel
theorem dL_proves_192 : decode cL_proves 192 = .ok (.ifCond .eq 14, 3) := by decide +kernel
theorem dL_proves_195 : decode cL_proves 195 = .ok (.aload_n 3, 1) := by decide +kernel
theorem dL_proves_196 : decode cL_proves 196 = .ok (.aload 4, 2) := by decide +kernel
theorem dL_proves_198 : decode cL_proves 198 = .ok (.iload 12, 2) := by decide +kernel
theorem dL_proves_200 : decode cL_proves 200 = .ok (.invokestatic 94, 3) := by decide +kernel
theorem dL_proves_203 : decode cL_proves 203 = .ok (.ifCond .eq 7, 3) := by decide +kernel
theorem dL_proves_206 : decode cL_proves 206 = .ok (.iconst 1, 1) := by decide +kernel
theorem dL_proves_207 : decode cL_proves 207 = .ok (.goto 4, 3) := by decide +kernel
theorem dL_proves_210 : decode cL_proves 210 = .ok (.iconst 0, 1) := by decide +kernel
theorem dL_proves_211 : decode cL_proves 211 = .ok (.istore 11, 2) := by decide +kernel
theorem dL_proves_213 : decode cL_proves 213 = .ok (.iinc 12 1, 3) := by decide +kernel
theorem dL_proves_216 : decode cL_proves 216 = .ok (.goto (-45), 3) := by decide +kernel
theorem dL_proves_219 : decode cL_proves 219 = .ok (.iconst 0, 1) := by decide +kernel
theorem dL_proves_220 : decode cL_proves 220 = .ok (.istore 12, 2) := by decide +kernel
theorem dL_proves_222 : decode cL_proves 222 = .ok (.aload_n 2, 1) := by decide +kernel
theorem dL_proves_223 : decode cL_proves 223 = .ok (.iload 5, 2) := by decide +kernel
theorem dL_proves_225 : decode cL_proves 225 = .ok (.iload 11, 2) := by decide +kernel
theorem dL_proves_227 : decode cL_proves 227 = .ok (.ifCond .eq 26, 3) := by decide +kernel
theorem dL_proves_230 : decode cL_proves 230 = .ok (.aload_n 2, 1) := by decide +kernel
theorem dL_proves_231 : decode cL_proves 231 = .ok (.iload 5, 2) := by decide +kernel
theorem dL_proves_233 : decode cL_proves 233 = .ok (.iaload, 1) := by decide +kernel
theorem dL_proves_234 : decode cL_proves 234 = .ok (.iconst 3, 1) := by decide +kernel
theorem dL_proves_235 : decode cL_proves 235 = .ok (.iconst 2, 1) := by decide +kernel
theorem dL_proves_236 : decode cL_proves 236 = .ok (.iload 6, 2) := by decide +kernel
theorem dL_proves_238 : decode cL_proves 238 = .ok (.imul, 1) := by decide +kernel
theorem dL_proves_239 : decode cL_proves 239 = .ok (.ishl, 1) := by decide +kernel
theorem dL_proves_240 : decode cL_proves 240 = .ok (.iconst (-1), 1) := by decide +kernel
theorem dL_proves_241 : decode cL_proves 241 = .ok (.ixor, 1) := by decide +kernel
theorem dL_proves_242 : decode cL_proves 242 = .ok (.iand, 1) := by decide +kernel
theorem dL_proves_243 : decode cL_proves 243 = .ok (.iconst 1, 1) := by decide +kernel
theorem dL_proves_244 : decode cL_proves 244 = .ok (.iconst 2, 1) := by decide +kernel
theorem dL_proves_245 : decode cL_proves 245 = .ok (.iload 6, 2) := by decide +kernel
theorem dL_proves_247 : decode cL_proves 247 = .ok (.imul, 1) := by decide +kernel
theorem dL_proves_248 : decode cL_proves 248 = .ok (.ishl, 1) := by decide +kernel
theorem dL_proves_249 : decode cL_proves 249 = .ok (.ior, 1) := by decide +kernel
theorem dL_proves_250 : decode cL_proves 250 = .ok (.goto 7, 3) := by decide +kernel
theorem dL_proves_253 : decode cL_proves 253 = .ok (.aload_n 2, 1) := by decide +kernel
theorem dL_proves_254 : decode cL_proves 254 = .ok (.iload 5, 2) := by decide +kernel
theorem dL_proves_256 : decode cL_proves 256 = .ok (.iaload, 1) := by decide +kernel
theorem dL_proves_257 : decode cL_proves 257 = .ok (.iastore, 1) := by decide +kernel
theorem dL_proves_258 : decode cL_proves 258 = .ok (.iconst 0, 1) := by decide +kernel
theorem dL_proves_259 : decode cL_proves 259 = .ok (.istore 13, 2) := by decide +kernel
theorem dL_proves_261 : decode cL_proves 261 = .ok (.iload 13, 2) := by decide +kernel
theorem dL_proves_263 : decode cL_proves 263 = .ok (.iconst 4, 1) := by decide +kernel
theorem dL_proves_264 : decode cL_proves 264 = .ok (.if_icmp .ge 44, 3) := by decide +kernel
theorem dL_proves_267 : decode cL_proves 267 = .ok (.aload_n 2, 1) := by decide +kernel
theorem dL_proves_268 : decode cL_proves 268 = .ok (.iload 5, 2) := by decide +kernel
theorem dL_proves_270 : decode cL_proves 270 = .ok (.iaload, 1) := by decide +kernel
theorem dL_proves_271 : decode cL_proves 271 = .ok (.iconst 2, 1) := by decide +kernel
theorem dL_proves_272 : decode cL_proves 272 = .ok (.iload 13, 2) := by decide +kernel
theorem dL_proves_274 : decode cL_proves 274 = .ok (.imul, 1) := by decide +kernel
theorem dL_proves_275 : decode cL_proves 275 = .ok (.ishr, 1) := by decide +kernel
theorem dL_proves_276 : decode cL_proves 276 = .ok (.iconst 3, 1) := by decide +kernel
theorem dL_proves_277 : decode cL_proves 277 = .ok (.iand, 1) := by decide +kernel
theorem dL_proves_278 : decode cL_proves 278 = .ok (.istore 14, 2) := by decide +kernel
theorem dL_proves_280 : decode cL_proves 280 = .ok (.iload 12, 2) := by decide +kernel
theorem dL_proves_282 : decode cL_proves 282 = .ok (.iload 14, 2) := by decide +kernel
theorem dL_proves_284 : decode cL_proves 284 = .ok (.iconst 1, 1) := by decide +kernel
theorem dL_proves_285 : decode cL_proves 285 = .ok (.if_icmp .eq 9, 3) := by decide +kernel
theorem dL_proves_288 : decode cL_proves 288 = .ok (.iload 14, 2) := by decide +kernel
theorem dL_proves_290 : decode cL_proves 290 = .ok (.iconst 2, 1) := by decide +kernel
theorem dL_proves_291 : decode cL_proves 291 = .ok (.if_icmp .ne 7, 3) := by decide +kernel
theorem dL_proves_294 : decode cL_proves 294 = .ok (.iconst 1, 1) := by decide +kernel
theorem dL_proves_295 : decode cL_proves 295 = .ok (.goto 4, 3) := by decide +kernel
theorem dL_proves_298 : decode cL_proves 298 = .ok (.iconst 0, 1) := by decide +kernel
theorem dL_proves_299 : decode cL_proves 299 = .ok (.iadd, 1) := by decide +kernel
theorem dL_proves_300 : decode cL_proves 300 = .ok (.istore 12, 2) := by decide +kernel
theorem dL_proves_302 : decode cL_proves 302 = .ok (.iinc 13 1, 3) := by decide +kernel
theorem dL_proves_305 : decode cL_proves 305 = .ok (.goto (-44), 3) := by decide +kernel
theorem dL_proves_308 : decode cL_proves 308 = .ok (.aload_n 0, 1) := by decide +kernel
theorem dL_proves_309 : decode cL_proves 309 = .ok (.iload 5, 2) := by decide +kernel
theorem dL_proves_311 : decode cL_proves 311 = .ok (.iload 6, 2) := by decide +kernel
theorem dL_proves_313 : decode cL_proves 313 = .ok (.invokestatic 183, 3) := by decide +kernel
theorem dL_proves_316 : decode cL_proves 316 = .ok (.iload 11, 2) := by decide +kernel
theorem dL_proves_318 : decode cL_proves 318 = .ok (.ifCond .eq 8, 3) := by decide +kernel
theorem dL_proves_321 : decode cL_proves 321 = .ok (.iload 12, 2) := by decide +kernel
theorem dL_proves_323 : decode cL_proves 323 = .ok (.goto 5, 3) := by decide +kernel
theorem dL_proves_326 : decode cL_proves 326 = .ok (.ldc 24, 2) := by decide +kernel
theorem dL_proves_328 : decode cL_proves 328 = .ok (.if_icmp .ne 34, 3) := by decide +kernel
theorem dL_proves_331 : decode cL_proves 331 = .ok (.aload_n 0, 1) := by decide +kernel
theorem dL_proves_332 : decode cL_proves 332 = .ok (.iload 5, 2) := by decide +kernel
theorem dL_proves_334 : decode cL_proves 334 = .ok (.iconst (-1), 1) := by decide +kernel
theorem dL_proves_335 : decode cL_proves 335 = .ok (.invokestatic 183, 3) := by decide +kernel
theorem dL_proves_338 : decode cL_proves 338 = .ok (.ldc 21, 2) := by decide +kernel
theorem dL_proves_340 : decode cL_proves 340 = .ok (.if_icmp .ne 22, 3) := by decide +kernel
theorem dL_proves_343 : decode cL_proves 343 = .ok (.aload_n 0, 1) := by decide +kernel
theorem dL_proves_344 : decode cL_proves 344 = .ok (.aload 4, 2) := by decide +kernel
theorem dL_proves_346 : decode cL_proves 346 = .ok (.iconst 0, 1) := by decide +kernel
theorem dL_proves_347 : decode cL_proves 347 = .ok (.iaload, 1) := by decide +kernel
theorem dL_proves_348 : decode cL_proves 348 = .ok (.bipush 9, 2) := by decide +kernel
theorem dL_proves_350 : decode cL_proves 350 = .ok (.invokestatic 183, 3) := by decide +kernel
theorem dL_proves_353 : decode cL_proves 353 = .ok (.ldc 18, 2) := by decide +kernel
theorem dL_proves_355 : decode cL_proves 355 = .ok (.if_icmp .ne 7, 3) := by decide +kernel
theorem dL_proves_358 : decode cL_proves 358 = .ok (.iconst 1, 1) := by decide +kernel
theorem dL_proves_359 : decode cL_proves 359 = .ok (.goto 4, 3) := by decide +kernel
theorem dL_proves_362 : decode cL_proves 362 = .ok (.iconst 0, 1) := by decide +kernel
theorem dL_proves_363 : decode cL_proves 363 = .ok (.ireturn, 1) := by decide +kernel

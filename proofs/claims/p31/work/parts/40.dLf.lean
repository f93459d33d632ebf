theorem dL_rights_0 : decode cL_rights 0 = .ok (.aload_n 1, 1) := by decide +kernel
theorem dL_rights_1 : decode cL_rights 1 = .ok (.aload_n 2, 1) := by decide +kernel
theorem dL_rights_2 : decode cL_rights 2 = .ok (.aload_n 3, 1) := by decide +kernel
theorem dL_rights_3 : decode cL_rights 3 = .ok (.aload 4, 2) := by decide +kernel
theorem dL_rights_5 : decode cL_rights 5 = .ok (.invokestatic 108, 3) := by decide +kernel
theorem dL_rights_8 : decode cL_rights 8 = .ok (.istore 7, 2) := by decide +kernel
theorem dL_rights_10 : decode cL_rights 10 = .ok (.aload_n 3, 1) := by decide +kernel
theorem dL_rights_11 : decode cL_rights 11 = .ok (.aload 4, 2) := by decide +kernel
theorem dL_rights_13 : decode cL_rights 13 = .ok (.invokestatic 163, 3) := by decide +kernel
theorem dL_rights_16 : decode cL_rights 16 = .ok (.istore 8, 2) := by decide +kernel
theorem dL_rights_18 : decode cL_rights 18 = .ok (.iload 6, 2) := by decide +kernel
theorem dL_rights_20 : decode cL_rights 20 = .ok (.bipush 8, 2) := by decide +kernel
theorem dL_rights_22 : decode cL_rights 22 = .ok (.invokestatic 149, 3) := by decide +kernel
theorem dL_rights_25 : decode cL_rights 25 = .ok (.istore 9, 2) := by decide +kernel
theorem dL_rights_27 : decode cL_rights 27 = .ok (.iconst 0, 1) := by decide +kernel
theorem dL_rights_28 : decode cL_rights 28 = .ok (.istore 10, 2) := by decide +kernel
theorem dL_rights_30 : decode cL_rights 30 = .ok (.iload 5, 2) := by decide +kernel
theorem dL_rights_32 : decode cL_rights 32 = .ok (.iconst 5, 1) := by decide +kernel
theorem dL_rights_33 : decode cL_rights 33 = .ok (.invokestatic 149, 3) := by decide +kernel
theorem dL_rights_36 : decode cL_rights 36 = .ok (.iconst 3, 1) := by decide +kernel
theorem dL_rights_37 : decode cL_rights 37 = .ok (.if_icmp .ge 85, 3) := by decide +kernel
theorem dL_rights_40 : decode cL_rights 40 = .ok (.iload 6, 2) := by decide +kernel
theorem dL_rights_42 : decode cL_rights 42 = .ok (.iconst 3, 1) := by decide +kernel
theorem dL_rights_43 : decode cL_rights 43 = .ok (.ishr, 1) := by decide +kernel
theorem dL_rights_44 : decode cL_rights 44 = .ok (.iconst 3, 1) := by decide +kernel
theorem dL_rights_45 : decode cL_rights 45 = .ok (.invokestatic 149, 3) := by decide +kernel
theorem dL_rights_48 : decode cL_rights 48 = .ok (.ifCond .le 7, 3) := by decide +kernel
theorem dL_rights_51 : decode cL_rights 51 = .ok (.iconst 0, 1) := by decide +kernel
theorem dL_rights_52 : decode cL_rights 52 = .ok (.goto 16, 3) := by decide +kernel
theorem dL_rights_55 : decode cL_rights 55 = .ok (.aload 4, 2) := by decide +kernel
theorem dL_rights_57 : decode cL_rights 57 = .ok (.iconst 2, 1) := by decide +kernel
theorem dL_rights_58 : decode cL_rights 58 = .ok (.iaload, 1) := by decide +kernel
theorem dL_rights_59 : decode cL_rights 59 = .ok (.iload 6, 2) := by decide +kernel
theorem dL_rights_61 : decode cL_rights 61 = .ok (.iconst 5, 1) := by decide +kernel
theorem dL_rights_62 : decode cL_rights 62 = .ok (.ishr, 1) := by decide +kernel
theorem dL_rights_63 : decode cL_rights 63 = .ok (.iconst 4, 1) := by decide +kernel
theorem dL_rights_64 : decode cL_rights 64 = .ok (.invokestatic 149, 3) := by decide +kernel
theorem dL_rights_67 : decode cL_rights 67 = .ok (.iadd, 1) := by decide +kernel
theorem dL_rights_68 : decode cL_rights 68 = .ok (.istore 11, 2) := by decide +kernel
theorem dL_rights_70 : decode cL_rights 70 = .ok (.iload 11, 2) := by decide +kernel
theorem dL_rights_72 : decode cL_rights 72 = .ok (.aload 4, 2) := by decide +kernel
theorem dL_rights_74 : decode cL_rights 74 = .ok (.iconst 2, 1) := by decide +kernel
theorem dL_rights_75 : decode cL_rights 75 = .ok (.iaload, 1) := by decide +kernel
theorem dL_rights_76 : decode cL_rights 76 = .ok (.iadd, 1) := by decide +kernel
theorem dL_rights_77 : decode cL_rights 77 = .ok (.iload 6, 2) := by decide +kernel
theorem dL_rights_79 : decode cL_rights 79 = .ok (.bipush 7, 2) := by decide +kernel
theorem dL_rights_81 : decode cL_rights 81 = .ok (.ishr, 1) := by decide +kernel
theorem dL_rights_82 : decode cL_rights 82 = .ok (.bipush 90, 2) := by decide +kernel
theorem dL_rights_84 : decode cL_rights 84 = .ok (.invokestatic 149, 3) := by decide +kernel
theorem dL_rights_87 : decode cL_rights 87 = .ok (.iadd, 1) := by decide +kernel
theorem dL_rights_88 : decode cL_rights 88 = .ok (.istore 12, 2) := by decide +kernel
theorem dL_rights_90 : decode cL_rights 90 = .ok (.aload_n 3, 1) := by decide +kernel
theorem dL_rights_91 : decode cL_rights 91 = .ok (.iload 9, 2) := by decide +kernel
theorem dL_rights_93 : decode cL_rights 93 = .ok (.iconst 1, 1) := by decide +kernel
theorem dL_rights_94 : decode cL_rights 94 = .ok (.iload 11, 2) := by decide +kernel
theorem dL_rights_96 : decode cL_rights 96 = .ok (.iadd, 1) := by decide +kernel
theorem dL_rights_97 : decode cL_rights 97 = .ok (.iastore, 1) := by decide +kernel
theorem dL_rights_98 : decode cL_rights 98 = .ok (.aload_n 3, 1) := by decide +kernel
theorem dL_rights_99 : decode cL_rights 99 = .ok (.bipush 8, 2) := by decide +kernel
theorem dL_rights_101 : decode cL_rights 101 = .ok (.iload 9, 2) := by decide +kernel
theorem dL_rights_103 : decode cL_rights 103 = .ok (.iadd, 1) := by decide +kernel
theorem dL_rights_104 : decode cL_rights 104 = .ok (.iload 12, 2) := by decide +kernel
theorem dL_rights_106 : decode cL_rights 106 = .ok (.iastore, 1) := by decide +kernel
theorem dL_rights_107 : decode cL_rights 107 = .ok (.aload_n 0, 1) := by decide +kernel
theorem dL_rights_108 : decode cL_rights 108 = .ok (.iload 9, 2) := by decide +kernel
theorem dL_rights_110 : decode cL_rights 110 = .ok (.iload 11, 2) := by decide +kernel
theorem dL_rights_112 : decode cL_rights 112 = .ok (.iload 12, 2) := by decide +kernel
theorem dL_rights_114 : decode cL_rights 114 = .ok (.invokestatic 167, 3) := by decide +kernel
theorem dL_rights_117 : decode cL_rights 117 = .ok (.istore 10, 2) := by decide +kernel
theorem dL_rights_119 : decode cL_rights 119 = .ok (.goto 132, 3) := by decide +kernel
theorem dL_rights_122 : decode cL_rights 122 = .ok (.iload 5, 2) := by decide +kernel
theorem dL_rights_124 : decode cL_rights 124 = .ok (.iconst 5, 1) := by decide +kernel
theorem dL_rights_125 : decode cL_rights 125 = .ok (.invokestatic 149, 3) := by decide +kernel
theorem dL_rights_128 : decode cL_rights 128 = .ok (.iconst 3, 1) := by decide +kernel
theorem dL_rights_129 : decode cL_rights 129 = .ok (.if_icmp .ne 54, 3) := by decide +kernel
theorem dL_rights_132 : decode cL_rights 132 = .ok (.aload_n 3, 1) := by decide +kernel
theorem dL_rights_133 : decode cL_rights 133 = .ok (.iload 9, 2) := by decide +kernel
theorem dL_rights_135 : decode cL_rights 135 = .ok (.iaload, 1) := by decide +kernel
theorem dL_rights_136 : decode cL_rights 136 = .ok (.ifCond .ne 31, 3) := by decide +kernel
theorem dL_rights_139 : decode cL_rights 139 = .ok (.aload_n 0, 1) := by decide +kernel
theorem dL_rights_140 : decode cL_rights 140 = .ok (.iload 9, 2) := by decide +kernel
theorem dL_rights_142 : decode cL_rights 142 = .ok (.invokestatic 169, 3) := by decide +kernel
theorem dL_rights_145 : decode cL_rights 145 = .ok (.ldc 24, 2) := by decide +kernel
theorem dL_rights_147 : decode cL_rights 147 = .ok (.if_icmp .ne 18, 3) := by decide +kernel
theorem dL_rights_150 : decode cL_rights 150 = .ok (.aload_n 0, 1) := by decide +kernel
theorem dL_rights_151 : decode cL_rights 151 = .ok (.bipush 8, 2) := by decide +kernel
theorem dL_rights_153 : decode cL_rights 153 = .ok (.invokestatic 169, 3) := by decide +kernel
theorem dL_rights_156 : decode cL_rights 156 = .ok (.ldc 21, 2) := by decide +kernel
theorem dL_rights_158 : decode cL_rights 158 = .ok (.if_icmp .ne 7, 3) := by decide +kernel
theorem dL_rights_161 : decode cL_rights 161 = .ok (.iconst 1, 1) := by decide +kernel
theorem dL_rights_162 : decode cL_rights 162 = .ok (.goto 4, 3) := by decide +kernel
theorem dL_rights_165 : decode cL_rights 165 = .ok (.iconst 0, 1) := by decide +kernel
theorem dL_rights_166 : decode cL_rights 166 = .ok (.ireturn, 1) := by decide +kernel
theorem dL_rights_167 : decode cL_rights 167 = .ok (.aload_n 3, 1) := by decide +kernel
theorem dL_rights_168 : decode cL_rights 168 = .ok (.iload 9, 2) := by decide +kernel
theorem dL_rights_170 : decode cL_rights 170 = .ok (.iconst 0, 1) := by decide +kernel
theorem dL_rights_171 : decode cL_rights 171 = .ok (.iastore, 1) := by decide +kernel
theorem dL_rights_172 : decode cL_rights 172 = .ok (.aload_n 0, 1) := by decide +kernel
theorem dL_rights_173 : decode cL_rights 173 = .ok (.iload 9, 2) := by decide +kernel
theorem dL_rights_175 : decode cL_rights 175 = .ok (.invokestatic 169, 3) := by decide +kernel
theorem dL_rights_178 : decode cL_rights 178 = .ok (.istore 10, 2) := by decide +kernel
theorem dL_rights_180 : decode cL_rights 180 = .ok (.goto 71, 3) := by decide +kernel
theorem dL_rights_183 : decode cL_rights 183 = .ok (.iconst 1, 1) := by decide +kernel
theorem dL_rights_184 : decode cL_rights 184 = .ok (.iload 6, 2) := by decide +kernel
theorem dL_rights_186 : decode cL_rights 186 = .ok (.iconst 4, 1) := by decide +kernel
theorem dL_rights_187 : decode cL_rights 187 = .ok (.invokestatic 149, 3) := by decide +kernel
theorem dL_rights_190 : decode cL_rights 190 = .ok (.iadd, 1) := by decide +kernel
theorem dL_rights_191 : decode cL_rights 191 = .ok (.istore 11, 2) := by decide +kernel
theorem dL_rights_193 : decode cL_rights 193 = .ok (.aload_n 0, 1) := by decide +kernel
theorem dL_rights_194 : decode cL_rights 194 = .ok (.iload 11, 2) := by decide +kernel
theorem dL_rights_196 : decode cL_rights 196 = .ok (.invokestatic 171, 3) := by decide +kernel
theorem dL_rights_199 : decode cL_rights 199 = .ok (.istore 10, 2) := by decide +kernel
theorem dL_rights_201 : decode cL_rights 201 = .ok (.iconst 0, 1) := by decide +kernel
theorem dL_rights_202 : decode cL_rights 202 = .ok (.istore 12, 2) := by decide +kernel
theorem dL_rights_204 : decode cL_rights 204 = .ok (.iload 12, 2) := by decide +kernel
theorem dL_rights_206 : decode cL_rights 206 = .ok (.iload 11, 2) := by decide +kernel
theorem dL_rights_208 : decode cL_rights 208 = .ok (.if_icmp .ge 35, 3) := by decide +kernel
theorem dL_rights_211 : decode cL_rights 211 = .ok (.aload_n 3, 1) := by decide +kernel
theorem dL_rights_212 : decode cL_rights 212 = .ok (.aload 4, 2) := by decide +kernel
theorem dL_rights_214 : decode cL_rights 214 = .ok (.invokestatic 163, 3) := by decide +kernel
theorem dL_rights_217 : decode cL_rights 217 = .ok (.istore 8, 2) := by decide +kernel
theorem dL_rights_219 : decode cL_rights 219 = .ok (.aload 4, 2) := by decide +kernel
theorem dL_rights_221 : decode cL_rights 221 = .ok (.iconst 2, 1) := by decide +kernel
theorem dL_rights_222 : decode cL_rights 222 = .ok (.dup2, 1) := by decide +kernel
theorem dL_rights_223 : decode cL_rights 223 = .ok (.iaload, 1) := by decide +kernel
theorem dL_rights_224 : decode cL_rights 224 = .ok (.iconst 1, 1) := by decide +kernel
theorem dL_rights_225 : decode cL_rights 225 = .ok (.iadd, 1) := by decide +kernel
theorem dL_rights_226 : decode cL_rights 226 = .ok (.iastore, 1) := by decide +kernel
theorem dL_rights_227 : decode cL_rights 227 = .ok (.aload_n 1, 1) := by decide +kernel
theorem dL_rights_228 : decode cL_rights 228 = .ok (.aload_n 2, 1) := by decide +kernel
theorem dL_rights_229 : decode cL_rights 229 = .ok (.aload_n 3, 1) := by decide +kernel
theorem dL_rights_230 : decode cL_rights 230 = .ok (.aload 4, 2) := by decide +kernel
theorem dL_rights_232 : decode cL_rights 232 = .ok (.iload 8, 2) := by decide +kernel
theorem dL_rights_234 : decode cL_rights 234 = .ok (.invokestatic 173, 3) := by decide +kernel
theorem dL_rights_237 : decode cL_rights 237 = .ok (.iinc 12 1, 3) := by decide +kernel
theorem dL_rights_240 : decode cL_rights 240 = .ok (.goto (-36), 3) := by decide +kernel
theorem dL_rights_243 : decode cL_rights 243 = .ok (.aload_n 3, 1) := by decide +kernel
theorem dL_rights_244 : decode cL_rights 244 = .ok (.aload 4, 2) := by decide +kernel
theorem dL_rights_246 : decode cL_rights 246 = .ok (.invokestatic 163, 3) := by decide +kernel
theorem dL_rights_249 : decode cL_rights 249 = .ok (.istore 8, 2) := by decide +kernel
theorem dL_rights_251 : decode cL_rights 251 = .ok (.aload_n 1, 1) := by decide +kernel
theorem dL_rights_252 : decode cL_rights 252 = .ok (.aload_n 2, 1) := by decide +kernel
theorem dL_rights_253 : decode cL_rights 253 = .ok (.aload_n 3, 1) := by decide +kernel
theorem dL_rights_254 : decode cL_rights 254 = .ok (.aload 4, 2) := by decide +kernel
theorem dL_rights_256 : decode cL_rights 256 = .ok (.iload 8, 2) := by decide +kernel
theorem dL_rights_258 : decode cL_rights 258 = .ok (.invokestatic 173, 3) := by decide +kernel
theorem dL_rights_261 : decode cL_rights 261 = .ok (.iload 10, 2) := by decide +kernel
theorem dL_rights_263 : decode cL_rights 263 = .ok (.iload 7, 2) := by decide +kernel
theorem dL_rights_265 : decode cL_rights 265 = .ok (.aload_n 1, 1) := by decide +kernel
theorem dL_rights_266 : decode cL_rights 266 = .ok (.aload_n 2, 1) := by decide +kernel
theorem dL_rights_267 : decode cL_rights 267 = .ok (.aload_n 3, 1) := by decide +kernel
theorem dL_rights_268 : decode cL_rights 268 = .ok (.aload 4, 2) := by decide +kernel
theorem dL_rights_270 : decode cL_rights 270 = .ok (.invokestatic 108, 3) := by decide +kernel
theorem dL_rights_273 : decode cL_rights 273 = .ok (.iconst (-1), 1) := by decide +kernel
theorem dL_rights_274 : decode cL_rights 274 = .ok (.ixor, 1) := by decide +kernel
theorem dL_rights_275 : decode cL_rights 275 = .ok (.iand, 1) := by decide +kernel
theorem dL_rights_276 : decode cL_rights 276 = .ok (.invokestatic 177, 3) := by decide +kernel
theorem dL_rights_279 : decode cL_rights 279 = .ok (.if_icmp .ne 79, 3) := by decide +kernel
theorem dL_rights_282 : decode cL_rights 282 = .ok (.aload_n 0, 1) := by decide +kernel
theorem dL_rights_283 : decode cL_rights 283 = .ok (.bipush 8, 2) := by decide +kernel
theorem dL_rights_285 : decode cL_rights 285 = .ok (.iconst 0, 1) := by decide +kernel
theorem dL_rights_286 : decode cL_rights 286 = .ok (.iconst 0, 1) := by decide +kernel
theorem dL_rights_287 : decode cL_rights 287 = .ok (.invokestatic 167, 3) := by decide +kernel
theorem dL_rights_290 : decode cL_rights 290 = .ok (.ldc 21, 2) := by decide +kernel
theorem dL_rights_292 : decode cL_rights 292 = .ok (.if_icmp .ne 66, 3) := by decide +kernel
theorem dL_rights_295 : decode cL_rights 295 = .ok (.aload_n 0, 1) := by decide +kernel
theorem dL_rights_296 : decode cL_rights 296 = .ok (.iconst 0, 1) := by decide +kernel
theorem dL_rights_297 : decode cL_rights 297 = .ok (.iconst 5, 1) := by decide +kernel
theorem dL_rights_298 : decode cL_rights 298 = .ok (.iconst 4, 1) := by decide +kernel
theorem dL_rights_299 : decode cL_rights 299 = .ok (.invokestatic 167, 3) := by decide +kernel
theorem dL_rights_302 : decode cL_rights 302 = .ok (.ldc 21, 2) := by decide +kernel
theorem dL_rights_304 : decode cL_rights 304 = .ok (.if_icmp .ne 54, 3) := by decide +kernel
theorem dL_rights_307 : decode cL_rights 307 = .ok (.aload_n 0, 1) := by decide +kernel
theorem dL_rights_308 : decode cL_rights 308 = .ok (.iconst 0, 1) := by decide +kernel
theorem dL_rights_309 : decode cL_rights 309 = .ok (.iconst 0, 1) := by decide +kernel
theorem dL_rights_310 : decode cL_rights 310 = .ok (.sipush 10000, 3) := by decide +kernel
theorem dL_rights_313 : decode cL_rights 313 = .ok (.invokestatic 167, 3) := by decide +kernel
theorem dL_rights_316 : decode cL_rights 316 = .ok (.ldc 21, 2) := by decide +kernel
theorem dL_rights_318 : decode cL_rights 318 = .ok (.if_icmp .ne 40, 3) := by decide +kernel
theorem dL_rights_321 : decode cL_rights 321 = .ok (.aload_n 0, 1) := by decide +kernel
theorem dL_rights_322 : decode cL_rights 322 = .ok (.iconst 0, 1) := by decide +kernel
theorem dL_rights_323 : decode cL_rights 323 = .ok (.iconst (-1), 1) := by decide +kernel
theorem dL_rights_324 : decode cL_rights 324 = .ok (.iconst 4, 1) := by decide +kernel
theorem dL_rights_325 : decode cL_rights 325 = .ok (.invokestatic 167, 3) := by decide +kernel
theorem dL_rights_328 : decode cL_rights 328 = .ok (.ldc 21, 2) := by decide +kernel
theorem dL_rights_330 : decode cL_rights 330 = .ok (.if_icmp .ne 28, 3) := by decide +kernel
theorem dL_rights_333 : decode cL_rights 333 = .ok (.aload_n 0, 1) := by decide +kernel
theorem dL_rights_334 : decode cL_rights 334 = .ok (.iconst 0, 1) := by decide +kernel
theorem dL_rights_335 : decode cL_rights 335 = .ok (.invokestatic 171, 3) := by decide +kernel
theorem dL_rights_338 : decode cL_rights 338 = .ok (.ldc 21, 2) := by decide +kernel
theorem dL_rights_340 : decode cL_rights 340 = .ok (.if_icmp .ne 18, 3) := by decide +kernel
theorem dL_rights_343 : decode cL_rights 343 = .ok (.aload_n 0, 1) := by decide +kernel
theorem dL_rights_344 : decode cL_rights 344 = .ok (.bipush 101, 2) := by decide +kernel
theorem dL_rights_346 : decode cL_rights 346 = .ok (.invokestatic 171, 3) := by decide +kernel
theorem dL_rights_349 : decode cL_rights 349 = .ok (.ldc 21, 2) := by decide +kernel
theorem dL_rights_351 : decode cL_rights 351 = .ok (.if_icmp .ne 7, 3) := by decide +kernel
theorem dL_rights_354 : decode cL_rights 354 = .ok (.iconst 1, 1) := by decide +kernel
theorem dL_rights_355 : decode cL_rights 355 = .ok (.goto 4, 3) := by decide +kernel
theorem dL_rights_358 : decode cL_rights 358 = .ok (.iconst 0, 1) := by decide +kernel
theorem dL_rights_359 : decode cL_rights 359 = .ok (.ireturn, 1) := by decide +kernel

theorem dL_prints_0 : decode cL_prints 0 = .ok (.aload 4, 2) := by decide +kernel
theorem dL_prints_2 : decode cL_prints 2 = .ok (.iconst 0, 1) := by decide +kernel
theorem dL_prints_3 : decode cL_prints 3 = .ok (.iaload, 1) := by decide +kernel
theorem dL_prints_4 : decode cL_prints 4 = .ok (.ifCond .ne 42, 3) := by decide +kernel
theorem dL_prints_7 : decode cL_prints 7 = .ok (.aload_n 0, 1) := by decide +kernel
theorem dL_prints_8 : decode cL_prints 8 = .ok (.iconst 0, 1) := by decide +kernel
theorem dL_prints_9 : decode cL_prints 9 = .ok (.invokestatic 185, 3) := by decide +kernel
theorem dL_prints_12 : decode cL_prints 12 = .ok (.ldc 18, 2) := by decide +kernel
theorem dL_prints_14 : decode cL_prints 14 = .ok (.if_icmp .ne 30, 3) := by decide +kernel
theorem dL_prints_17 : decode cL_prints 17 = .ok (.aload_n 0, 1) := by decide +kernel
theorem dL_prints_18 : decode cL_prints 18 = .ok (.iconst 0, 1) := by decide +kernel
theorem dL_prints_19 : decode cL_prints 19 = .ok (.iconst 0, 1) := by decide +kernel
theorem dL_prints_20 : decode cL_prints 20 = .ok (.invokestatic 187, 3) := by decide +kernel
theorem dL_prints_23 : decode cL_prints 23 = .ok (.ldc 18, 2) := by decide +kernel
theorem dL_prints_25 : decode cL_prints 25 = .ok (.if_icmp .ne 19, 3) := by decide +kernel
theorem dL_prints_28 : decode cL_prints 28 = .ok (.aload_n 0, 1) := by decide +kernel
theorem dL_prints_29 : decode cL_prints 29 = .ok (.iconst 0, 1) := by decide +kernel
theorem dL_prints_30 : decode cL_prints 30 = .ok (.iconst 2, 1) := by decide +kernel
theorem dL_prints_31 : decode cL_prints 31 = .ok (.iconst 0, 1) := by decide +kernel
theorem dL_prints_32 : decode cL_prints 32 = .ok (.invokestatic 189, 3) := by decide +kernel
theorem dL_prints_35 : decode cL_prints 35 = .ok (.ldc 18, 2) := by decide +kernel
theorem dL_prints_37 : decode cL_prints 37 = .ok (.if_icmp .ne 7, 3) := by decide +kernel
theorem dL_prints_40 : decode cL_prints 40 = .ok (.iconst 1, 1) := by decide +kernel
theorem dL_prints_41 : decode cL_prints 41 = .ok (.goto 4, 3) := by decide +kernel
theorem dL_prints_44 : decode cL_prints 44 = .ok (.iconst 0, 1) := by decide +kernel
theorem dL_prints_45 : decode cL_prints 45 = .ok (.ireturn, 1) := by decide +kernel
theorem dL_prints_46 : decode cL_prints 46 = .ok (.iload 5, 2) := by decide +kernel
theorem dL_prints_48 : decode cL_prints 48 = .ok (.aload 4, 2) := by decide +kernel
theorem dL_prints_50 : decode cL_prints 50 = .ok (.invokestatic 100, 3) := by decide +kernel
theorem dL_prints_53 : decode cL_prints 53 = .ok (.invokestatic 149, 3) := by decide +kernel
theorem dL_prints_56 : decode cL_prints 56 = .ok (.istore 7, 2) := by decide +kernel
theorem dL_prints_58 : decode cL_prints 58 = .ok (.aload_n 1, 1) := by decide +kernel
theorem dL_prints_59 : decode cL_prints 59 = .ok (.aload_n 2, 1) := by decide +kernel
theorem dL_prints_60 : decode cL_prints 60 = .ok (.aload_n 3, 1) := by decide +kernel
theorem dL_prints_61 : decode cL_prints 61 = .ok (.aload 4, 2) := by decide +kernel
theorem dL_prints_63 : decode cL_prints 63 = .ok (.invokestatic 108, 3) := by decide +kernel
theorem dL_prints_66 : decode cL_prints 66 = .ok (.iload 7, 2) := by decide +kernel
theorem dL_prints_68 : decode cL_prints 68 = .ok (.ishr, 1) := by decide +kernel
theorem dL_prints_69 : decode cL_prints 69 = .ok (.iconst 1, 1) := by decide +kernel
theorem dL_prints_70 : decode cL_prints 70 = .ok (.iand, 1) := by decide +kernel
theorem dL_prints_71 : decode cL_prints 71 = .ok (.iconst 1, 1) := by decide +kernel
theorem dL_prints_72 : decode cL_prints 72 = .ok (.if_icmp .ne 7, 3) := by decide +kernel
theorem dL_prints_75 : decode cL_prints 75 = .ok (.iconst 1, 1) := by decide +kernel
theorem dL_prints_76 : decode cL_prints 76 = .ok (.goto 4, 3) := by decide +kernel
theorem dL_prints_79 : decode cL_prints 79 = .ok (.iconst 0, 1) := by decide +kernel
theorem dL_prints_80 : decode cL_prints 80 = .ok (.istore 8, 2) := by decide +kernel
theorem dL_prints_82 : decode cL_prints 82 = .ok (.iconst 1, 1) := by decide +kernel
theorem dL_prints_83 : decode cL_prints 83 = .ok (.iload 6, 2) := by decide +kernel
theorem dL_prints_85 : decode cL_prints 85 = .ok (.sipush 500, 3) := by decide +kernel
theorem dL_prints_88 : decode cL_prints 88 = .ok (.invokestatic 149, 3) := by decide +kernel
theorem dL_prints_91 : decode cL_prints 91 = .ok (.iadd, 1) := by decide +kernel
theorem dL_prints_92 : decode cL_prints 92 = .ok (.istore 9, 2) := by decide +kernel
theorem dL_prints_94 : decode cL_prints 94 = .ok (.iconst 0, 1) := by decide +kernel
theorem dL_prints_95 : decode cL_prints 95 = .ok (.istore 10, 2) := by decide +kernel
theorem dL_prints_97 : decode cL_prints 97 = .ok (.iconst 0, 1) := by decide +kernel
theorem dL_prints_98 : decode cL_prints 98 = .ok (.istore 11, 2) := by decide +kernel
theorem dL_prints_100 : decode cL_prints 100 = .ok (.iload 8, 2) := by decide +kernel
theorem dL_prints_102 : decode cL_prints 102 = .ok (.istore 12, 2) := by decide +kernel
theorem dL_prints_104 : decode cL_prints 104 = .ok (.bipush 8, 2) := by decide +kernel
theorem dL_prints_106 : decode cL_prints 106 = .ok (.newarray .int, 2) := by decide +kernel
theorem dL_prints_108 : decode cL_prints 108 = .ok (.astore 13, 2) := by decide +kernel
theorem dL_prints_110 : decode cL_prints 110 = .ok (.iconst 2, 1) := by decide +kernel
theorem dL_prints_111 : decode cL_prints 111 = .ok (.aload 4, 2) := by decide +kernel
theorem dL_prints_113 : decode cL_prints 113 = .ok (.iconst 3, 1) := by decide +kernel
theorem dL_prints_114 : decode cL_prints 114 = .ok (.iaload, 1) := by decide +kernel
theorem dL_prints_115 : decode cL_prints 115 = .ok (.imul, 1) := by decide +kernel
theorem dL_prints_116 : decode cL_prints 116 = .ok (.iload 7, 2) := by decide +kernel
theorem dL_prints_118 : decode cL_prints 118 = .ok (.imul, 1) := by decide +kernel
theorem dL_prints_119 : decode cL_prints 119 = .ok (.istore 14, 2) := by decide +kernel
theorem dL_prints_121 : decode cL_prints 121 = .ok (.iload 14, 2) := by decide +kernel
theorem dL_prints_123 : decode cL_prints 123 = .ok (.iconst 2, 1) := by decide +kernel
theorem dL_prints_124 : decode cL_prints 124 = .ok (.aload 4, 2) := by decide +kernel
theorem dL_prints_126 : decode cL_prints 126 = .ok (.iconst 3, 1) := by decide +kernel
theorem dL_prints_127 : decode cL_prints 127 = .ok (.iaload, 1) := by decide +kernel
theorem dL_prints_128 : decode cL_prints 128 = .ok (.imul, 1) := by decide +kernel
theorem dL_prints_129 : decode cL_prints 129 = .ok (.iload 7, 2) := by decide +kernel
theorem dL_prints_131 : decode cL_prints 131 = .ok (.iconst 1, 1) := by decide +kernel
theorem dL_prints_132 : decode cL_prints 132 = .ok (.iadd, 1) := by decide +kernel
theorem dL_prints_133 : decode cL_prints 133 = .ok (.imul, 1) := by decide +kernel
theorem dL_prints_134 : decode cL_prints 134 = .ok (.if_icmp .ge 46, 3) := by decide +kernel
theorem dL_prints_137 : decode cL_prints 137 = .ok (.iload 14, 2) := by decide +kernel
theorem dL_prints_139 : decode cL_prints 139 = .ok (.aload 4, 2) := by decide +kernel
theorem dL_prints_141 : decode cL_prints 141 = .ok (.iconst 0, 1) := by decide +kernel
theorem dL_prints_142 : decode cL_prints 142 = .ok (.iaload, 1) := by decide +kernel
theorem dL_prints_143 : decode cL_prints 143 = .ok (.if_icmp .ge 37, 3) := by decide +kernel
theorem dL_prints_146 : decode cL_prints 146 = .ok (.iload 10, 2) := by decide +kernel
theorem dL_prints_148 : decode cL_prints 148 = .ok (.aload_n 1, 1) := by decide +kernel
theorem dL_prints_149 : decode cL_prints 149 = .ok (.iload 14, 2) := by decide +kernel
theorem dL_prints_151 : decode cL_prints 151 = .ok (.iaload, 1) := by decide +kernel
theorem dL_prints_152 : decode cL_prints 152 = .ok (.sipush 256, 3) := by decide +kernel
theorem dL_prints_155 : decode cL_prints 155 = .ok (.idiv, 1) := by decide +kernel
theorem dL_prints_156 : decode cL_prints 156 = .ok (.bipush 16, 2) := by decide +kernel
theorem dL_prints_158 : decode cL_prints 158 = .ok (.irem, 1) := by decide +kernel
theorem dL_prints_159 : decode cL_prints 159 = .ok (.iconst 4, 1) := by decide +kernel
theorem dL_prints_160 : decode cL_prints 160 = .ok (.aload_n 0, 1) := by decide +kernel
theorem dL_prints_161 : decode cL_prints 161 = .ok (.iload 14, 2) := by decide +kernel
theorem dL_prints_163 : decode cL_prints 163 = .ok (.invokestatic 112, 3) := by decide +kernel
theorem dL_prints_166 : decode cL_prints 166 = .ok (.bipush 16, 2) := by decide +kernel
theorem dL_prints_168 : decode cL_prints 168 = .ok (.idiv, 1) := by decide +kernel
theorem dL_prints_169 : decode cL_prints 169 = .ok (.imul, 1) := by decide +kernel
theorem dL_prints_170 : decode cL_prints 170 = .ok (.ishl, 1) := by decide +kernel
theorem dL_prints_171 : decode cL_prints 171 = .ok (.ior, 1) := by decide +kernel
theorem dL_prints_172 : decode cL_prints 172 = .ok (.istore 10, 2) := by decide +kernel
theorem dL_prints_174 : decode cL_prints 174 = .ok (.iinc 14 1, 3) := by decide +kernel
theorem dL_prints_177 : decode cL_prints 177 = .ok (.goto (-56), 3) := by decide +kernel
theorem dL_prints_180 : decode cL_prints 180 = .ok (.iconst 0, 1) := by decide +kernel
theorem dL_prints_181 : decode cL_prints 181 = .ok (.istore 14, 2) := by decide +kernel
theorem dL_prints_183 : decode cL_prints 183 = .ok (.iload 14, 2) := by decide +kernel
theorem dL_prints_185 : decode cL_prints 185 = .ok (.bipush 8, 2) := by decide +kernel
theorem dL_prints_187 : decode cL_prints 187 = .ok (.if_icmp .ge 57, 3) := by decide +kernel
theorem dL_prints_190 : decode cL_prints 190 = .ok (.aload 13, 2) := by decide +kernel
theorem dL_prints_192 : decode cL_prints 192 = .ok (.iload 14, 2) := by decide +kernel
theorem dL_prints_194 : decode cL_prints 194 = .ok (.aload_n 0, 1) := by decide +kernel
theorem dL_prints_195 : decode cL_prints 195 = .ok (.iload 7, 2) := by decide +kernel
theorem dL_prints_197 : decode cL_prints 197 = .ok (.iload 14, 2) := by decide +kernel
theorem dL_prints_199 : decode cL_prints 199 = .ok (.iconst 4, 1) := by decide +kernel
theorem dL_prints_200 : decode cL_prints 200 = .ok (.idiv, 1) := by decide +kernel
theorem dL_prints_201 : decode cL_prints 201 = .ok (.iload 14, 2) := by decide +kernel
theorem dL_prints_203 : decode cL_prints 203 = .ok (.iconst 4, 1) := by decide +kernel
theorem dL_prints_204 : decode cL_prints 204 = .ok (.irem, 1) := by decide +kernel
theorem dL_prints_205 : decode cL_prints 205 = .ok (.invokestatic 189, 3) := by decide +kernel
theorem dL_prints_208 : decode cL_prints 208 = .ok (.iastore, 1) := by decide +kernel
theorem dL_prints_209 : decode cL_prints 209 = .ok (.iload 11, 2) := by decide +kernel
theorem dL_prints_211 : decode cL_prints 211 = .ok (.iload 10, 2) := by decide +kernel
theorem dL_prints_213 : decode cL_prints 213 = .ok (.iload 14, 2) := by decide +kernel
theorem dL_prints_215 : decode cL_prints 215 = .ok (.ishr, 1) := by decide +kernel
theorem dL_prints_216 : decode cL_prints 216 = .ok (.iconst 1, 1) := by decide +kernel
theorem dL_prints_217 : decode cL_prints 217 = .ok (.iand, 1) := by decide +kernel
theorem dL_prints_218 : decode cL_prints 218 = .ok (.iconst 1, 1) := by decide +kernel
theorem dL_prints_219 : decode cL_prints 219 = .ok (.if_icmp .ne 15, 3) := by decide +kernel
theorem dL_prints_222 : decode cL_prints 222 = .ok (.aload 13, 2) := by decide +kernel
theorem dL_prints_224 : decode cL_prints 224 = .ok (.iload 14, 2) := by decide +kernel
theorem dL_prints_226 : decode cL_prints 226 = .ok (.iaload, 1) := by decide +kernel
theorem dL_prints_227 : decode cL_prints 227 = .ok (.ifCond .ge 7, 3) := by decide +kernel
theorem dL_prints_230 : decode cL_prints 230 = .ok (.iconst 1, 1) := by decide +kernel
theorem dL_prints_231 : decode cL_prints 231 = .ok (.goto 4, 3) := by decide +kernel
theorem dL_prints_234 : decode cL_prints 234 = .ok (.iconst 0, 1) := by decide +kernel
theorem dL_prints_235 : decode cL_prints 235 = .ok (.iadd, 1) := by decide +kernel
theorem dL_prints_236 : decode cL_prints 236 = .ok (.istore 11, 2) := by decide +kernel
theorem dL_prints_238 : decode cL_prints 238 = .ok (.iinc 14 1, 3) := by decide +kernel
theorem dL_prints_241 : decode cL_prints 241 = .ok (.goto (-58), 3) := by decide +kernel
theorem dL_prints_244 : decode cL_prints 244 = .ok (.iload 5, 2) := by decide +kernel
theorem dL_prints_246 : decode cL_prints 246 = .ok (.iconst 5, 1) := by decide +kernel
theorem dL_prints_247 : decode cL_prints 247 = .ok (.ishr, 1) := by decide +kernel
theorem dL_prints_248 : decode cL_prints 248 = .ok (.iconst 2, 1) := by decide +kernel
theorem dL_prints_249 : decode cL_prints 249 = .ok (.invokestatic 149, 3) := by decide +kernel
theorem dL_prints_252 : decode cL_prints 252 = .ok (.ifCond .ne 206, 3) := by decide +kernel
theorem dL_prints_255 : decode cL_prints 255 = .ok (.aload 4, 2) := by decide +kernel
theorem dL_prints_257 : decode cL_prints 257 = .ok (.iconst 4, 1) := by decide +kernel
theorem dL_prints_258 : decode cL_prints 258 = .ok (.dup2, 1) := by decide +kernel
theorem dL_prints_259 : decode cL_prints 259 = .ok (.iaload, 1) := by decide +kernel
theorem dL_prints_260 : decode cL_prints 260 = .ok (.iload 8, 2) := by decide +kernel
theorem dL_prints_262 : decode cL_prints 262 = .ok (.ifCond .eq 8, 3) := by decide +kernel
theorem dL_prints_265 : decode cL_prints 265 = .ok (.iload 11, 2) := by decide +kernel
theorem dL_prints_267 : decode cL_prints 267 = .ok (.goto 4, 3) := by decide +kernel
theorem dL_prints_270 : decode cL_prints 270 = .ok (.iconst 0, 1) := by decide +kernel
theorem dL_prints_271 : decode cL_prints 271 = .ok (.iadd, 1) := by decide +kernel
theorem dL_prints_272 : decode cL_prints 272 = .ok (.iastore, 1) := by decide +kernel
theorem dL_prints_273 : decode cL_prints 273 = .ok (.aload_n 0, 1) := by decide +kernel
theorem dL_prints_274 : decode cL_prints 274 = .ok (.iload 7, 2) := by decide +kernel
theorem dL_prints_276 : decode cL_prints 276 = .ok (.invokestatic 185, 3) := by decide +kernel
theorem dL_prints_279 : decode cL_prints 279 = .ok (.iload 8, 2) := by decide +kernel
theorem dL_prints_281 : decode cL_prints 281 = .ok (.ifCond .eq 8, 3) := by decide +kernel
theorem dL_prints_284 : decode cL_prints 284 = .ok (.iload 11, 2) := by decide +kernel
theorem dL_prints_286 : decode cL_prints 286 = .ok (.goto 5, 3) := by decide +kernel
theorem dL_prints_289 : decode cL_prints 289 = .ok (.ldc 24, 2) := by decide +kernel
theorem dL_prints_291 : decode cL_prints 291 = .ok (.if_icmp .ne 46, 3) := by decide +kernel
theorem dL_prints_294 : decode cL_prints 294 = .ok (.aload_n 0, 1) := by decide +kernel
theorem dL_prints_295 : decode cL_prints 295 = .ok (.invokevirtual 146, 3) := by decide +kernel
theorem dL_prints_298 : decode cL_prints 298 = .ok (.aload 4, 2) := by decide +kernel
theorem dL_prints_300 : decode cL_prints 300 = .ok (.iconst 4, 1) := by decide +kernel
theorem dL_prints_301 : decode cL_prints 301 = .ok (.iaload, 1) := by decide +kernel
theorem dL_prints_302 : decode cL_prints 302 = .ok (.if_icmp .ne 35, 3) := by decide +kernel
theorem dL_prints_305 : decode cL_prints 305 = .ok (.iload 8, 2) := by decide +kernel
theorem dL_prints_307 : decode cL_prints 307 = .ok (.ifCond .eq 12, 3) := by decide +kernel
theorem dL_prints_310 : decode cL_prints 310 = .ok (.aload_n 0, 1) := by decide +kernel
theorem dL_prints_311 : decode cL_prints 311 = .ok (.iload 7, 2) := by decide +kernel
theorem dL_prints_313 : decode cL_prints 313 = .ok (.invokestatic 185, 3) := by decide +kernel
theorem dL_prints_316 : decode cL_prints 316 = .ok (.ifCond .ne 21, 3) := by decide +kernel
theorem dL_prints_319 : decode cL_prints 319 = .ok (.aload_n 0, 1) := by decide +kernel
theorem dL_prints_320 : decode cL_prints 320 = .ok (.aload 4, 2) := by decide +kernel
theorem dL_prints_322 : decode cL_prints 322 = .ok (.invokestatic 100, 3) := by decide +kernel
theorem dL_prints_325 : decode cL_prints 325 = .ok (.invokestatic 185, 3) := by decide +kernel
theorem dL_prints_328 : decode cL_prints 328 = .ok (.ldc 18, 2) := by decide +kernel
theorem dL_prints_330 : decode cL_prints 330 = .ok (.if_icmp .ne 7, 3) := by decide +kernel
theorem dL_prints_333 : decode cL_prints 333 = .ok (.iconst 1, 1) := by decide +kernel
theorem dL_prints_334 : decode cL_prints 334 = .ok (.goto 4, 3) := by decide +kernel
theorem dL_prints_337 : decode cL_prints 337 = .ok (.iconst 0, 1) := by decide +kernel

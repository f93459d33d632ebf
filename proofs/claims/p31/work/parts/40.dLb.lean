theorem dL_areLaid_0 : decode cL_areLaid 0 = .ok (.aload_n 1, 1) := by decide +kernel
theorem dL_areLaid_1 : decode cL_areLaid 1 = .ok (.aload_n 2, 1) := by decide +kernel
theorem dL_areLaid_2 : decode cL_areLaid 2 = .ok (.aload_n 3, 1) := by decide +kernel
theorem dL_areLaid_3 : decode cL_areLaid 3 = .ok (.aload 4, 2) := by decide +kernel
theorem dL_areLaid_5 : decode cL_areLaid 5 = .ok (.invokestatic 108, 3) := by decide +kernel
theorem dL_areLaid_8 : decode cL_areLaid 8 = .ok (.istore 5, 2) := by decide +kernel
theorem dL_areLaid_10 : decode cL_areLaid 10 = .ok (.iconst 0, 1) := by decide +kernel
theorem dL_areLaid_11 : decode cL_areLaid 11 = .ok (.istore 6, 2) := by decide +kernel
theorem dL_areLaid_13 : decode cL_areLaid 13 = .ok (.iload 6, 2) := by decide +kernel
theorem dL_areLaid_15 : decode cL_areLaid 15 = .ok (.aload 4, 2) := by decide +kernel
theorem dL_areLaid_17 : decode cL_areLaid 17 = .ok (.iconst 0, 1) := by decide +kernel
theorem dL_areLaid_18 : decode cL_areLaid 18 = .ok (.iaload, 1) := by decide +kernel
theorem dL_areLaid_19 : decode cL_areLaid 19 = .ok (.if_icmp .ge 294, 3) := by decide +kernel
theorem dL_areLaid_22 : decode cL_areLaid 22 = .ok (.aload_n 0, 1) := by decide +kernel
theorem dL_areLaid_23 : decode cL_areLaid 23 = .ok (.iload 6, 2) := by decide +kernel
theorem dL_areLaid_25 : decode cL_areLaid 25 = .ok (.invokestatic 112, 3) := by decide +kernel
theorem dL_areLaid_28 : decode cL_areLaid 28 = .ok (.istore 7, 2) := by decide +kernel
theorem dL_areLaid_30 : decode cL_areLaid 30 = .ok (.iload 7, 2) := by decide +kernel
theorem dL_areLaid_32 : decode cL_areLaid 32 = .ok (.bipush 16, 2) := by decide +kernel
theorem dL_areLaid_34 : decode cL_areLaid 34 = .ok (.irem, 1) := by decide +kernel
theorem dL_areLaid_35 : decode cL_areLaid 35 = .ok (.aload_n 0, 1) := by decide +kernel
theorem dL_areLaid_36 : decode cL_areLaid 36 = .ok (.invokevirtual 115, 3) := by decide +kernel
theorem dL_areLaid_39 : decode cL_areLaid 39 = .ok (.idiv, 1) := by decide +kernel
theorem dL_areLaid_40 : decode cL_areLaid 40 = .ok (.istore 8, 2) := by decide +kernel
theorem dL_areLaid_42 : decode cL_areLaid 42 = .ok (.iload 7, 2) := by decide +kernel
theorem dL_areLaid_44 : decode cL_areLaid 44 = .ok (.bipush 16, 2) := by decide +kernel
theorem dL_areLaid_46 : decode cL_areLaid 46 = .ok (.irem, 1) := by decide +kernel
theorem dL_areLaid_47 : decode cL_areLaid 47 = .ok (.aload_n 0, 1) := by decide +kernel
theorem dL_areLaid_48 : decode cL_areLaid 48 = .ok (.invokevirtual 115, 3) := by decide +kernel
theorem dL_areLaid_51 : decode cL_areLaid 51 = .ok (.irem, 1) := by decide +kernel
theorem dL_areLaid_52 : decode cL_areLaid 52 = .ok (.istore 9, 2) := by decide +kernel
theorem dL_areLaid_54 : decode cL_areLaid 54 = .ok (.iload 6, 2) := by decide +kernel
theorem dL_areLaid_56 : decode cL_areLaid 56 = .ok (.iconst 2, 1) := by decide +kernel
theorem dL_areLaid_57 : decode cL_areLaid 57 = .ok (.aload 4, 2) := by decide +kernel
theorem dL_areLaid_59 : decode cL_areLaid 59 = .ok (.iconst 3, 1) := by decide +kernel
theorem dL_areLaid_60 : decode cL_areLaid 60 = .ok (.iaload, 1) := by decide +kernel
theorem dL_areLaid_61 : decode cL_areLaid 61 = .ok (.imul, 1) := by decide +kernel
theorem dL_areLaid_62 : decode cL_areLaid 62 = .ok (.idiv, 1) := by decide +kernel
theorem dL_areLaid_63 : decode cL_areLaid 63 = .ok (.istore 10, 2) := by decide +kernel
theorem dL_areLaid_65 : decode cL_areLaid 65 = .ok (.iload 7, 2) := by decide +kernel
theorem dL_areLaid_67 : decode cL_areLaid 67 = .ok (.ifCond .lt 71, 3) := by decide +kernel
theorem dL_areLaid_70 : decode cL_areLaid 70 = .ok (.iload 7, 2) := by decide +kernel
theorem dL_areLaid_72 : decode cL_areLaid 72 = .ok (.bipush 32, 2) := by decide +kernel
theorem dL_areLaid_74 : decode cL_areLaid 74 = .ok (.if_icmp .ge 64, 3) := by decide +kernel
theorem dL_areLaid_77 : decode cL_areLaid 77 = .ok (.aload_n 0, 1) := by decide +kernel
theorem dL_areLaid_78 : decode cL_areLaid 78 = .ok (.iload 10, 2) := by decide +kernel
theorem dL_areLaid_80 : decode cL_areLaid 80 = .ok (.iload 7, 2) := by decide +kernel
theorem dL_areLaid_82 : decode cL_areLaid 82 = .ok (.bipush 16, 2) := by decide +kernel
theorem dL_areLaid_84 : decode cL_areLaid 84 = .ok (.idiv, 1) := by decide +kernel
theorem dL_areLaid_85 : decode cL_areLaid 85 = .ok (.iload 8, 2) := by decide +kernel
theorem dL_areLaid_87 : decode cL_areLaid 87 = .ok (.iload 9, 2) := by decide +kernel
theorem dL_areLaid_89 : decode cL_areLaid 89 = .ok (.invokestatic 119, 3) := by decide +kernel
theorem dL_areLaid_92 : decode cL_areLaid 92 = .ok (.iload 6, 2) := by decide +kernel
theorem dL_areLaid_94 : decode cL_areLaid 94 = .ok (.if_icmp .ne 44, 3) := by decide +kernel
theorem dL_areLaid_97 : decode cL_areLaid 97 = .ok (.aload_n 0, 1) := by decide +kernel
theorem dL_areLaid_98 : decode cL_areLaid 98 = .ok (.iload 10, 2) := by decide +kernel
theorem dL_areLaid_100 : decode cL_areLaid 100 = .ok (.iload 7, 2) := by decide +kernel
theorem dL_areLaid_102 : decode cL_areLaid 102 = .ok (.bipush 16, 2) := by decide +kernel
theorem dL_areLaid_104 : decode cL_areLaid 104 = .ok (.idiv, 1) := by decide +kernel
theorem dL_areLaid_105 : decode cL_areLaid 105 = .ok (.iload 8, 2) := by decide +kernel
theorem dL_areLaid_107 : decode cL_areLaid 107 = .ok (.iload 9, 2) := by decide +kernel
theorem dL_areLaid_109 : decode cL_areLaid 109 = .ok (.invokestatic 122, 3) := by decide +kernel
theorem dL_areLaid_112 : decode cL_areLaid 112 = .ok (.iload 6, 2) := by decide +kernel
theorem dL_areLaid_114 : decode cL_areLaid 114 = .ok (.if_icmp .ne 24, 3) := by decide +kernel
theorem dL_areLaid_117 : decode cL_areLaid 117 = .ok (.aload_n 0, 1) := by decide +kernel
theorem dL_areLaid_118 : decode cL_areLaid 118 = .ok (.iload 6, 2) := by decide +kernel
theorem dL_areLaid_120 : decode cL_areLaid 120 = .ok (.invokestatic 124, 3) := by decide +kernel
theorem dL_areLaid_123 : decode cL_areLaid 123 = .ok (.aload_n 1, 1) := by decide +kernel
theorem dL_areLaid_124 : decode cL_areLaid 124 = .ok (.iload 6, 2) := by decide +kernel
theorem dL_areLaid_126 : decode cL_areLaid 126 = .ok (.iaload, 1) := by decide +kernel
theorem dL_areLaid_127 : decode cL_areLaid 127 = .ok (.sipush 4096, 3) := by decide +kernel
theorem dL_areLaid_130 : decode cL_areLaid 130 = .ok (.idiv, 1) := by decide +kernel
theorem dL_areLaid_131 : decode cL_areLaid 131 = .ok (.if_icmp .ne 7, 3) := by decide +kernel
theorem dL_areLaid_134 : decode cL_areLaid 134 = .ok (.iconst 1, 1) := by decide +kernel
theorem dL_areLaid_135 : decode cL_areLaid 135 = .ok (.goto 4, 3) := by decide +kernel
theorem dL_areLaid_138 : decode cL_areLaid 138 = .ok (.iconst 0, 1) := by decide +kernel
theorem dL_areLaid_139 : decode cL_areLaid 139 = .ok (.istore 11, 2) := by decide +kernel
theorem dL_areLaid_141 : decode cL_areLaid 141 = .ok (.iload 11, 2) := by decide +kernel
theorem dL_areLaid_143 : decode cL_areLaid 143 = .ok (.ifCond .eq 86, 3) := by decide +kernel
theorem dL_areLaid_146 : decode cL_areLaid 146 = .ok (.aload_n 0, 1) := by decide +kernel
theorem dL_areLaid_147 : decode cL_areLaid 147 = .ok (.iload 10, 2) := by decide +kernel
theorem dL_areLaid_149 : decode cL_areLaid 149 = .ok (.iconst 1, 1) := by decide +kernel
theorem dL_areLaid_150 : decode cL_areLaid 150 = .ok (.iload 7, 2) := by decide +kernel
theorem dL_areLaid_152 : decode cL_areLaid 152 = .ok (.bipush 16, 2) := by decide +kernel
theorem dL_areLaid_154 : decode cL_areLaid 154 = .ok (.idiv, 1) := by decide +kernel
theorem dL_areLaid_155 : decode cL_areLaid 155 = .ok (.isub, 1) := by decide +kernel
theorem dL_areLaid_156 : decode cL_areLaid 156 = .ok (.iload 8, 2) := by decide +kernel
theorem dL_areLaid_158 : decode cL_areLaid 158 = .ok (.iload 9, 2) := by decide +kernel
theorem dL_areLaid_160 : decode cL_areLaid 160 = .ok (.invokestatic 119, 3) := by decide +kernel
theorem dL_areLaid_163 : decode cL_areLaid 163 = .ok (.iload 6, 2) := by decide +kernel
theorem dL_areLaid_165 : decode cL_areLaid 165 = .ok (.iconst 1, 1) := by decide +kernel
theorem dL_areLaid_166 : decode cL_areLaid 166 = .ok (.ixor, 1) := by decide +kernel
theorem dL_areLaid_167 : decode cL_areLaid 167 = .ok (.aload 4, 2) := by decide +kernel
theorem dL_areLaid_169 : decode cL_areLaid 169 = .ok (.iconst 0, 1) := by decide +kernel
theorem dL_areLaid_170 : decode cL_areLaid 170 = .ok (.iaload, 1) := by decide +kernel
theorem dL_areLaid_171 : decode cL_areLaid 171 = .ok (.if_icmp .ge 10, 3) := by decide +kernel
theorem dL_areLaid_174 : decode cL_areLaid 174 = .ok (.iload 6, 2) := by decide +kernel
theorem dL_areLaid_176 : decode cL_areLaid 176 = .ok (.iconst 1, 1) := by decide +kernel
theorem dL_areLaid_177 : decode cL_areLaid 177 = .ok (.ixor, 1) := by decide +kernel
theorem dL_areLaid_178 : decode cL_areLaid 178 = .ok (.goto 4, 3) := by decide +kernel
theorem dL_areLaid_181 : decode cL_areLaid 181 = .ok (.iconst (-1), 1) := by decide +kernel
theorem dL_areLaid_182 : decode cL_areLaid 182 = .ok (.if_icmp .ne 47, 3) := by decide +kernel
theorem dL_areLaid_185 : decode cL_areLaid 185 = .ok (.iload 6, 2) := by decide +kernel
theorem dL_areLaid_187 : decode cL_areLaid 187 = .ok (.iconst 2, 1) := by decide +kernel
theorem dL_areLaid_188 : decode cL_areLaid 188 = .ok (.irem, 1) := by decide +kernel
theorem dL_areLaid_189 : decode cL_areLaid 189 = .ok (.ifCond .eq 36, 3) := by decide +kernel
theorem dL_areLaid_192 : decode cL_areLaid 192 = .ok (.aload_n 0, 1) := by decide +kernel
theorem dL_areLaid_193 : decode cL_areLaid 193 = .ok (.iload 6, 2) := by decide +kernel
theorem dL_areLaid_195 : decode cL_areLaid 195 = .ok (.iconst 1, 1) := by decide +kernel
theorem dL_areLaid_196 : decode cL_areLaid 196 = .ok (.isub, 1) := by decide +kernel
theorem dL_areLaid_197 : decode cL_areLaid 197 = .ok (.invokestatic 112, 3) := by decide +kernel
theorem dL_areLaid_200 : decode cL_areLaid 200 = .ok (.iload 7, 2) := by decide +kernel
theorem dL_areLaid_202 : decode cL_areLaid 202 = .ok (.bipush 16, 2) := by decide +kernel
theorem dL_areLaid_204 : decode cL_areLaid 204 = .ok (.ixor, 1) := by decide +kernel
theorem dL_areLaid_205 : decode cL_areLaid 205 = .ok (.if_icmp .ne 24, 3) := by decide +kernel
theorem dL_areLaid_208 : decode cL_areLaid 208 = .ok (.aload_n 0, 1) := by decide +kernel
theorem dL_areLaid_209 : decode cL_areLaid 209 = .ok (.iload 6, 2) := by decide +kernel
theorem dL_areLaid_211 : decode cL_areLaid 211 = .ok (.invokestatic 126, 3) := by decide +kernel
theorem dL_areLaid_214 : decode cL_areLaid 214 = .ok (.aload_n 0, 1) := by decide +kernel
theorem dL_areLaid_215 : decode cL_areLaid 215 = .ok (.iload 6, 2) := by decide +kernel
theorem dL_areLaid_217 : decode cL_areLaid 217 = .ok (.iconst 1, 1) := by decide +kernel
theorem dL_areLaid_218 : decode cL_areLaid 218 = .ok (.isub, 1) := by decide +kernel
theorem dL_areLaid_219 : decode cL_areLaid 219 = .ok (.invokestatic 126, 3) := by decide +kernel
theorem dL_areLaid_222 : decode cL_areLaid 222 = .ok (.if_icmp .ne 7, 3) := by decide +kernel
theorem dL_areLaid_225 : decode cL_areLaid 225 = .ok (.iconst 1, 1) := by decide +kernel
theorem dL_areLaid_226 : decode cL_areLaid 226 = .ok (.goto 4, 3) := by decide +kernel
theorem dL_areLaid_229 : decode cL_areLaid 229 = .ok (.iconst 0, 1) := by decide +kernel
theorem dL_areLaid_230 : decode cL_areLaid 230 = .ok (.istore 11, 2) := by decide +kernel
theorem dL_areLaid_232 : decode cL_areLaid 232 = .ok (.iconst 0, 1) := by decide +kernel
theorem dL_areLaid_233 : decode cL_areLaid 233 = .ok (.istore 12, 2) := by decide +kernel
theorem dL_areLaid_235 : decode cL_areLaid 235 = .ok (.iload 12, 2) := by decide +kernel
theorem dL_areLaid_237 : decode cL_areLaid 237 = .ok (.iconst 4, 1) := by decide +kernel
theorem dL_areLaid_238 : decode cL_areLaid 238 = .ok (.if_icmp .ge 62, 3) := by decide +kernel
theorem dL_areLaid_241 : decode cL_areLaid 241 = .ok (.iload 11, 2) := by decide +kernel
theorem dL_areLaid_243 : decode cL_areLaid 243 = .ok (.ifCond .eq 48, 3) := by decide +kernel
theorem dL_areLaid_246 : decode cL_areLaid 246 = .ok (.aload_n 0, 1) := by decide +kernel
theorem dL_areLaid_247 : decode cL_areLaid 247 = .ok (.iload 6, 2) := by decide +kernel
theorem dL_areLaid_249 : decode cL_areLaid 249 = .ok (.iload 12, 2) := by decide +kernel
theorem dL_areLaid_251 : decode cL_areLaid 251 = .ok (.invokestatic 128, 3) := by decide +kernel
theorem dL_areLaid_254 : decode cL_areLaid 254 = .ok (.aload_n 1, 1) := by decide +kernel
theorem dL_areLaid_255 : decode cL_areLaid 255 = .ok (.iload 6, 2) := by decide +kernel
theorem dL_areLaid_257 : decode cL_areLaid 257 = .ok (.iaload, 1) := by decide +kernel
theorem dL_areLaid_258 : decode cL_areLaid 258 = .ok (.bipush 8, 2) := by decide +kernel
theorem dL_areLaid_260 : decode cL_areLaid 260 = .ok (.iload 12, 2) := by decide +kernel
theorem dL_areLaid_262 : decode cL_areLaid 262 = .ok (.iadd, 1) := by decide +kernel
theorem dL_areLaid_263 : decode cL_areLaid 263 = .ok (.ishr, 1) := by decide +kernel
theorem dL_areLaid_264 : decode cL_areLaid 264 = .ok (.iconst 1, 1) := by decide +kernel
theorem dL_areLaid_265 : decode cL_areLaid 265 = .ok (.iand, 1) := by decide +kernel
theorem dL_areLaid_266 : decode cL_areLaid 266 = .ok (.ifCond .ne 7, 3) := by decide +kernel
theorem dL_areLaid_269 : decode cL_areLaid 269 = .ok (.iconst (-1), 1) := by decide +kernel
theorem dL_areLaid_270 : decode cL_areLaid 270 = .ok (.goto 14, 3) := by decide +kernel
theorem dL_areLaid_273 : decode cL_areLaid 273 = .ok (.aload_n 2, 1) := by decide +kernel
theorem dL_areLaid_274 : decode cL_areLaid 274 = .ok (.iload 6, 2) := by decide +kernel
theorem dL_areLaid_276 : decode cL_areLaid 276 = .ok (.iaload, 1) := by decide +kernel
theorem dL_areLaid_277 : decode cL_areLaid 277 = .ok (.iconst 2, 1) := by decide +kernel
theorem dL_areLaid_278 : decode cL_areLaid 278 = .ok (.iload 12, 2) := by decide +kernel
theorem dL_areLaid_280 : decode cL_areLaid 280 = .ok (.imul, 1) := by decide +kernel
theorem dL_areLaid_281 : decode cL_areLaid 281 = .ok (.ishr, 1) := by decide +kernel
theorem dL_areLaid_282 : decode cL_areLaid 282 = .ok (.iconst 3, 1) := by decide +kernel
theorem dL_areLaid_283 : decode cL_areLaid 283 = .ok (.iand, 1) := by decide +kernel
theorem dL_areLaid_284 : decode cL_areLaid 284 = .ok (.if_icmp .ne 7, 3) := by decide +kernel
theorem dL_areLaid_287 : decode cL_areLaid 287 = .ok (.iconst 1, 1) := by decide +kernel
theorem dL_areLaid_288 : decode cL_areLaid 288 = .ok (.goto 4, 3) := by decide +kernel
theorem dL_areLaid_291 : decode cL_areLaid 291 = .ok (.iconst 0, 1) := by decide +kernel
theorem dL_areLaid_292 : decode cL_areLaid 292 = .ok (.istore 11, 2) := by decide +kernel
theorem dL_areLaid_294 : decode cL_areLaid 294 = .ok (.iinc 12 1, 3) := by decide +kernel

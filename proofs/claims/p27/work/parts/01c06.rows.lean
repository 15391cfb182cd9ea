theorem dL_isKind_0 : decode cL_isKind 0 = .ok (.iload_n 1, 1) := by decide +kernel
theorem dL_isKind_1 : decode cL_isKind 1 = .ok (.newarray .int, 2) := by decide +kernel
theorem dL_isKind_3 : decode cL_isKind 3 = .ok (.astore_n 3, 1) := by decide +kernel
theorem dL_isKind_4 : decode cL_isKind 4 = .ok (.iload_n 1, 1) := by decide +kernel
theorem dL_isKind_5 : decode cL_isKind 5 = .ok (.iconst 5, 1) := by decide +kernel
theorem dL_isKind_6 : decode cL_isKind 6 = .ok (.multianewarray 84 2, 4) := by decide +kernel
theorem dL_isKind_10 : decode cL_isKind 10 = .ok (.astore 4, 2) := by decide +kernel
theorem dL_isKind_12 : decode cL_isKind 12 = .ok (.iload_n 1, 1) := by decide +kernel
theorem dL_isKind_13 : decode cL_isKind 13 = .ok (.newarray .int, 2) := by decide +kernel
theorem dL_isKind_15 : decode cL_isKind 15 = .ok (.astore 5, 2) := by decide +kernel
theorem dL_isKind_17 : decode cL_isKind 17 = .ok (.iconst 0, 1) := by decide +kernel
theorem dL_isKind_18 : decode cL_isKind 18 = .ok (.istore 6, 2) := by decide +kernel
theorem dL_isKind_20 : decode cL_isKind 20 = .ok (.iload 6, 2) := by decide +kernel
theorem dL_isKind_22 : decode cL_isKind 22 = .ok (.iload_n 1, 1) := by decide +kernel
theorem dL_isKind_23 : decode cL_isKind 23 = .ok (.if_icmp .ge 66, 3) := by decide +kernel
theorem dL_isKind_26 : decode cL_isKind 26 = .ok (.aload_n 3, 1) := by decide +kernel
theorem dL_isKind_27 : decode cL_isKind 27 = .ok (.iload 6, 2) := by decide +kernel
theorem dL_isKind_29 : decode cL_isKind 29 = .ok (.aload_n 0, 1) := by decide +kernel
theorem dL_isKind_30 : decode cL_isKind 30 = .ok (.iconst 0, 1) := by decide +kernel
theorem dL_isKind_31 : decode cL_isKind 31 = .ok (.iload 6, 2) := by decide +kernel
theorem dL_isKind_33 : decode cL_isKind 33 = .ok (.iconst 2, 1) := by decide +kernel
theorem dL_isKind_34 : decode cL_isKind 34 = .ok (.invokevirtual 54, 3) := by decide +kernel
theorem dL_isKind_37 : decode cL_isKind 37 = .ok (.iastore, 1) := by decide +kernel
theorem dL_isKind_38 : decode cL_isKind 38 = .ok (.aload 5, 2) := by decide +kernel
theorem dL_isKind_40 : decode cL_isKind 40 = .ok (.iload 6, 2) := by decide +kernel
theorem dL_isKind_42 : decode cL_isKind 42 = .ok (.aload_n 0, 1) := by decide +kernel
theorem dL_isKind_43 : decode cL_isKind 43 = .ok (.iconst 0, 1) := by decide +kernel
theorem dL_isKind_44 : decode cL_isKind 44 = .ok (.iload 6, 2) := by decide +kernel
theorem dL_isKind_46 : decode cL_isKind 46 = .ok (.iconst 4, 1) := by decide +kernel
theorem dL_isKind_47 : decode cL_isKind 47 = .ok (.invokevirtual 54, 3) := by decide +kernel
theorem dL_isKind_50 : decode cL_isKind 50 = .ok (.iastore, 1) := by decide +kernel
theorem dL_isKind_51 : decode cL_isKind 51 = .ok (.iconst 0, 1) := by decide +kernel
theorem dL_isKind_52 : decode cL_isKind 52 = .ok (.istore 7, 2) := by decide +kernel
theorem dL_isKind_54 : decode cL_isKind 54 = .ok (.iload 7, 2) := by decide +kernel
theorem dL_isKind_56 : decode cL_isKind 56 = .ok (.iconst 5, 1) := by decide +kernel
theorem dL_isKind_57 : decode cL_isKind 57 = .ok (.if_icmp .ge 26, 3) := by decide +kernel
theorem dL_isKind_60 : decode cL_isKind 60 = .ok (.aload 4, 2) := by decide +kernel
theorem dL_isKind_62 : decode cL_isKind 62 = .ok (.iload 6, 2) := by decide +kernel
theorem dL_isKind_64 : decode cL_isKind 64 = .ok (.aaload, 1) := by decide +kernel
theorem dL_isKind_65 : decode cL_isKind 65 = .ok (.iload 7, 2) := by decide +kernel
theorem dL_isKind_67 : decode cL_isKind 67 = .ok (.aload_n 0, 1) := by decide +kernel
theorem dL_isKind_68 : decode cL_isKind 68 = .ok (.iload 7, 2) := by decide +kernel
theorem dL_isKind_70 : decode cL_isKind 70 = .ok (.iconst 0, 1) := by decide +kernel
theorem dL_isKind_71 : decode cL_isKind 71 = .ok (.iload 6, 2) := by decide +kernel
theorem dL_isKind_73 : decode cL_isKind 73 = .ok (.invokevirtual 60, 3) := by decide +kernel
theorem dL_isKind_76 : decode cL_isKind 76 = .ok (.iastore, 1) := by decide +kernel
theorem dL_isKind_77 : decode cL_isKind 77 = .ok (.iinc 7 1, 3) := by decide +kernel
theorem dL_isKind_80 : decode cL_isKind 80 = .ok (.goto (-26), 3) := by decide +kernel
theorem dL_isKind_83 : decode cL_isKind 83 = .ok (.iinc 6 1, 3) := by decide +kernel
theorem dL_isKind_86 : decode cL_isKind 86 = .ok (.goto (-66), 3) := by decide +kernel
theorem dL_isKind_89 : decode cL_isKind 89 = .ok (.iload_n 2, 1) := by decide +kernel
theorem dL_isKind_90 : decode cL_isKind 90 = .ok (.newarray .int, 2) := by decide +kernel
theorem dL_isKind_92 : decode cL_isKind 92 = .ok (.astore 6, 2) := by decide +kernel
theorem dL_isKind_94 : decode cL_isKind 94 = .ok (.iconst 0, 1) := by decide +kernel
theorem dL_isKind_95 : decode cL_isKind 95 = .ok (.istore 7, 2) := by decide +kernel
theorem dL_isKind_97 : decode cL_isKind 97 = .ok (.iload 7, 2) := by decide +kernel
theorem dL_isKind_99 : decode cL_isKind 99 = .ok (.iload_n 2, 1) := by decide +kernel
theorem dL_isKind_100 : decode cL_isKind 100 = .ok (.if_icmp .ge 21, 3) := by decide +kernel
theorem dL_isKind_103 : decode cL_isKind 103 = .ok (.aload 6, 2) := by decide +kernel
theorem dL_isKind_105 : decode cL_isKind 105 = .ok (.iload 7, 2) := by decide +kernel
theorem dL_isKind_107 : decode cL_isKind 107 = .ok (.aload_n 0, 1) := by decide +kernel
theorem dL_isKind_108 : decode cL_isKind 108 = .ok (.iload 7, 2) := by decide +kernel
theorem dL_isKind_110 : decode cL_isKind 110 = .ok (.iconst 1, 1) := by decide +kernel
theorem dL_isKind_111 : decode cL_isKind 111 = .ok (.invokevirtual 38, 3) := by decide +kernel
theorem dL_isKind_114 : decode cL_isKind 114 = .ok (.iastore, 1) := by decide +kernel
theorem dL_isKind_115 : decode cL_isKind 115 = .ok (.iinc 7 1, 3) := by decide +kernel
theorem dL_isKind_118 : decode cL_isKind 118 = .ok (.goto (-21), 3) := by decide +kernel
theorem dL_isKind_121 : decode cL_isKind 121 = .ok (.aload_n 0, 1) := by decide +kernel
theorem dL_isKind_122 : decode cL_isKind 122 = .ok (.iconst 1, 1) := by decide +kernel
theorem dL_isKind_123 : decode cL_isKind 123 = .ok (.invokevirtual 86, 3) := by decide +kernel
theorem dL_isKind_126 : decode cL_isKind 126 = .ok (.istore 7, 2) := by decide +kernel
theorem dL_isKind_128 : decode cL_isKind 128 = .ok (.iconst 0, 1) := by decide +kernel
theorem dL_isKind_129 : decode cL_isKind 129 = .ok (.istore 8, 2) := by decide +kernel
theorem dL_isKind_131 : decode cL_isKind 131 = .ok (.iload 8, 2) := by decide +kernel
theorem dL_isKind_133 : decode cL_isKind 133 = .ok (.iload_n 2, 1) := by decide +kernel
theorem dL_isKind_134 : decode cL_isKind 134 = .ok (.if_icmp .ge 26, 3) := by decide +kernel
theorem dL_isKind_137 : decode cL_isKind 137 = .ok (.aload_n 0, 1) := by decide +kernel
theorem dL_isKind_138 : decode cL_isKind 138 = .ok (.iload 8, 2) := by decide +kernel
theorem dL_isKind_140 : decode cL_isKind 140 = .ok (.iconst 0, 1) := by decide +kernel
theorem dL_isKind_141 : decode cL_isKind 141 = .ok (.invokevirtual 38, 3) := by decide +kernel
theorem dL_isKind_144 : decode cL_isKind 144 = .ok (.aload 6, 2) := by decide +kernel
theorem dL_isKind_146 : decode cL_isKind 146 = .ok (.iload 8, 2) := by decide +kernel
theorem dL_isKind_148 : decode cL_isKind 148 = .ok (.iaload, 1) := by decide +kernel
theorem dL_isKind_149 : decode cL_isKind 149 = .ok (.if_icmp .eq 5, 3) := by decide +kernel
theorem dL_isKind_152 : decode cL_isKind 152 = .ok (.iconst 0, 1) := by decide +kernel
theorem dL_isKind_153 : decode cL_isKind 153 = .ok (.ireturn, 1) := by decide +kernel
theorem dL_isKind_154 : decode cL_isKind 154 = .ok (.iinc 8 1, 3) := by decide +kernel
theorem dL_isKind_157 : decode cL_isKind 157 = .ok (.goto (-26), 3) := by decide +kernel
theorem dL_isKind_160 : decode cL_isKind 160 = .ok (.iconst 0, 1) := by decide +kernel
theorem dL_isKind_161 : decode cL_isKind 161 = .ok (.istore 8, 2) := by decide +kernel
theorem dL_isKind_163 : decode cL_isKind 163 = .ok (.iload 8, 2) := by decide +kernel
theorem dL_isKind_165 : decode cL_isKind 165 = .ok (.iload_n 1, 1) := by decide +kernel
theorem dL_isKind_166 : decode cL_isKind 166 = .ok (.if_icmp .ge 177, 3) := by decide +kernel
theorem dL_isKind_169 : decode cL_isKind 169 = .ok (.aload_n 0, 1) := by decide +kernel
theorem dL_isKind_170 : decode cL_isKind 170 = .ok (.iconst 0, 1) := by decide +kernel
theorem dL_isKind_171 : decode cL_isKind 171 = .ok (.iload 8, 2) := by decide +kernel
theorem dL_isKind_173 : decode cL_isKind 173 = .ok (.iconst 2, 1) := by decide +kernel
theorem dL_isKind_174 : decode cL_isKind 174 = .ok (.invokevirtual 54, 3) := by decide +kernel
theorem dL_isKind_177 : decode cL_isKind 177 = .ok (.istore 9, 2) := by decide +kernel
theorem dL_isKind_179 : decode cL_isKind 179 = .ok (.aload_n 3, 1) := by decide +kernel
theorem dL_isKind_180 : decode cL_isKind 180 = .ok (.iload 8, 2) := by decide +kernel
theorem dL_isKind_182 : decode cL_isKind 182 = .ok (.iaload, 1) := by decide +kernel
theorem dL_isKind_183 : decode cL_isKind 183 = .ok (.iconst 1, 1) := by decide +kernel
theorem dL_isKind_184 : decode cL_isKind 184 = .ok (.if_icmp .eq 14, 3) := by decide +kernel
theorem dL_isKind_187 : decode cL_isKind 187 = .ok (.iload 9, 2) := by decide +kernel
theorem dL_isKind_189 : decode cL_isKind 189 = .ok (.aload_n 3, 1) := by decide +kernel
theorem dL_isKind_190 : decode cL_isKind 190 = .ok (.iload 8, 2) := by decide +kernel
theorem dL_isKind_192 : decode cL_isKind 192 = .ok (.iaload, 1) := by decide +kernel
theorem dL_isKind_193 : decode cL_isKind 193 = .ok (.if_icmp .eq 5, 3) := by decide +kernel
theorem dL_isKind_196 : decode cL_isKind 196 = .ok (.iconst 0, 1) := by decide +kernel
theorem dL_isKind_197 : decode cL_isKind 197 = .ok (.ireturn, 1) := by decide +kernel
theorem dL_isKind_198 : decode cL_isKind 198 = .ok (.aload_n 3, 1) := by decide +kernel
theorem dL_isKind_199 : decode cL_isKind 199 = .ok (.iload 8, 2) := by decide +kernel
theorem dL_isKind_201 : decode cL_isKind 201 = .ok (.iaload, 1) := by decide +kernel
theorem dL_isKind_202 : decode cL_isKind 202 = .ok (.iconst 1, 1) := by decide +kernel
theorem dL_isKind_203 : decode cL_isKind 203 = .ok (.if_icmp .ne 9, 3) := by decide +kernel
theorem dL_isKind_206 : decode cL_isKind 206 = .ok (.iload 9, 2) := by decide +kernel
theorem dL_isKind_208 : decode cL_isKind 208 = .ok (.iconst 1, 1) := by decide +kernel
theorem dL_isKind_209 : decode cL_isKind 209 = .ok (.if_icmp .ne 28, 3) := by decide +kernel
theorem dL_isKind_212 : decode cL_isKind 212 = .ok (.iload 9, 2) := by decide +kernel
theorem dL_isKind_214 : decode cL_isKind 214 = .ok (.iconst 1, 1) := by decide +kernel
theorem dL_isKind_215 : decode cL_isKind 215 = .ok (.if_icmp .ne 122, 3) := by decide +kernel
theorem dL_isKind_218 : decode cL_isKind 218 = .ok (.aload_n 0, 1) := by decide +kernel
theorem dL_isKind_219 : decode cL_isKind 219 = .ok (.iconst 0, 1) := by decide +kernel
theorem dL_isKind_220 : decode cL_isKind 220 = .ok (.iload 8, 2) := by decide +kernel
theorem dL_isKind_222 : decode cL_isKind 222 = .ok (.iconst 4, 1) := by decide +kernel
theorem dL_isKind_223 : decode cL_isKind 223 = .ok (.invokevirtual 54, 3) := by decide +kernel
theorem dL_isKind_226 : decode cL_isKind 226 = .ok (.aload_n 0, 1) := by decide +kernel
theorem dL_isKind_227 : decode cL_isKind 227 = .ok (.bipush 10, 2) := by decide +kernel
theorem dL_isKind_229 : decode cL_isKind 229 = .ok (.invokevirtual 41, 3) := by decide +kernel
theorem dL_isKind_232 : decode cL_isKind 232 = .ok (.if_icmp .gt 105, 3) := by decide +kernel
theorem dL_isKind_235 : decode cL_isKind 235 = .ok (.iconst 0, 1) := by decide +kernel
theorem dL_isKind_236 : decode cL_isKind 236 = .ok (.ireturn, 1) := by decide +kernel
theorem dL_isKind_237 : decode cL_isKind 237 = .ok (.iinc 7 (-1), 3) := by decide +kernel
theorem dL_isKind_240 : decode cL_isKind 240 = .ok (.aload 5, 2) := by decide +kernel
theorem dL_isKind_242 : decode cL_isKind 242 = .ok (.iload 8, 2) := by decide +kernel
theorem dL_isKind_244 : decode cL_isKind 244 = .ok (.iaload, 1) := by decide +kernel
theorem dL_isKind_245 : decode cL_isKind 245 = .ok (.aload_n 0, 1) := by decide +kernel
theorem dL_isKind_246 : decode cL_isKind 246 = .ok (.bipush 10, 2) := by decide +kernel
theorem dL_isKind_248 : decode cL_isKind 248 = .ok (.invokevirtual 41, 3) := by decide +kernel
theorem dL_isKind_251 : decode cL_isKind 251 = .ok (.if_icmp .eq 5, 3) := by decide +kernel
theorem dL_isKind_254 : decode cL_isKind 254 = .ok (.iconst 0, 1) := by decide +kernel
theorem dL_isKind_255 : decode cL_isKind 255 = .ok (.ireturn, 1) := by decide +kernel
theorem dL_isKind_256 : decode cL_isKind 256 = .ok (.iconst 0, 1) := by decide +kernel
theorem dL_isKind_257 : decode cL_isKind 257 = .ok (.istore 10, 2) := by decide +kernel
theorem dL_isKind_259 : decode cL_isKind 259 = .ok (.iload 10, 2) := by decide +kernel
theorem dL_isKind_261 : decode cL_isKind 261 = .ok (.iload_n 2, 1) := by decide +kernel
theorem dL_isKind_262 : decode cL_isKind 262 = .ok (.if_icmp .ge 75, 3) := by decide +kernel
theorem dL_isKind_265 : decode cL_isKind 265 = .ok (.aload_n 0, 1) := by decide +kernel
theorem dL_isKind_266 : decode cL_isKind 266 = .ok (.iload 10, 2) := by decide +kernel
theorem dL_isKind_268 : decode cL_isKind 268 = .ok (.iload 8, 2) := by decide +kernel
theorem dL_isKind_270 : decode cL_isKind 270 = .ok (.invokevirtual 51, 3) := by decide +kernel
theorem dL_isKind_273 : decode cL_isKind 273 = .ok (.istore 11, 2) := by decide +kernel
theorem dL_isKind_275 : decode cL_isKind 275 = .ok (.iload 11, 2) := by decide +kernel
theorem dL_isKind_277 : decode cL_isKind 277 = .ok (.ifCond .lt 54, 3) := by decide +kernel
theorem dL_isKind_280 : decode cL_isKind 280 = .ok (.iload 11, 2) := by decide +kernel
theorem dL_isKind_282 : decode cL_isKind 282 = .ok (.bipush 24, 2) := by decide +kernel
theorem dL_isKind_284 : decode cL_isKind 284 = .ok (.if_icmp .ge 47, 3) := by decide +kernel
theorem dL_isKind_287 : decode cL_isKind 287 = .ok (.aload_n 0, 1) := by decide +kernel
theorem dL_isKind_288 : decode cL_isKind 288 = .ok (.iload 10, 2) := by decide +kernel
theorem dL_isKind_290 : decode cL_isKind 290 = .ok (.iconst 2, 1) := by decide +kernel
theorem dL_isKind_291 : decode cL_isKind 291 = .ok (.invokevirtual 48, 3) := by decide +kernel
theorem dL_isKind_294 : decode cL_isKind 294 = .ok (.iload 8, 2) := by decide +kernel
theorem dL_isKind_296 : decode cL_isKind 296 = .ok (.if_icmp .ne 35, 3) := by decide +kernel
theorem dL_isKind_299 : decode cL_isKind 299 = .ok (.aload_n 0, 1) := by decide +kernel
theorem dL_isKind_300 : decode cL_isKind 300 = .ok (.iload 10, 2) := by decide +kernel
theorem dL_isKind_302 : decode cL_isKind 302 = .ok (.iconst 0, 1) := by decide +kernel
theorem dL_isKind_303 : decode cL_isKind 303 = .ok (.invokevirtual 38, 3) := by decide +kernel
theorem dL_isKind_306 : decode cL_isKind 306 = .ok (.iconst 4, 1) := by decide +kernel
theorem dL_isKind_307 : decode cL_isKind 307 = .ok (.if_icmp .eq 6, 3) := by decide +kernel
theorem dL_isKind_310 : decode cL_isKind 310 = .ok (.goto 21, 3) := by decide +kernel
theorem dL_isKind_313 : decode cL_isKind 313 = .ok (.aload 4, 2) := by decide +kernel
theorem dL_isKind_315 : decode cL_isKind 315 = .ok (.iload 8, 2) := by decide +kernel
theorem dL_isKind_317 : decode cL_isKind 317 = .ok (.aaload, 1) := by decide +kernel
theorem dL_isKind_318 : decode cL_isKind 318 = .ok (.aload_n 0, 1) := by decide +kernel
theorem dL_isKind_319 : decode cL_isKind 319 = .ok (.iload 10, 2) := by decide +kernel
theorem dL_isKind_321 : decode cL_isKind 321 = .ok (.iconst 0, 1) := by decide +kernel
theorem dL_isKind_322 : decode cL_isKind 322 = .ok (.invokevirtual 48, 3) := by decide +kernel
theorem dL_isKind_325 : decode cL_isKind 325 = .ok (.iaload, 1) := by decide +kernel
theorem dL_isKind_326 : decode cL_isKind 326 = .ok (.ifCond .ne 5, 3) := by decide +kernel
theorem dL_isKind_329 : decode cL_isKind 329 = .ok (.iconst 0, 1) := by decide +kernel
theorem dL_isKind_330 : decode cL_isKind 330 = .ok (.ireturn, 1) := by decide +kernel
theorem dL_isKind_331 : decode cL_isKind 331 = .ok (.iinc 10 1, 3) := by decide +kernel
theorem dL_isKind_334 : decode cL_isKind 334 = .ok (.goto (-75), 3) := by decide +kernel
theorem dL_isKind_337 : decode cL_isKind 337 = .ok (.iinc 8 1, 3) := by decide +kernel
theorem dL_isKind_340 : decode cL_isKind 340 = .ok (.goto (-177), 3) := by decide +kernel
theorem dL_isKind_343 : decode cL_isKind 343 = .ok (.iload 7, 2) := by decide +kernel
theorem dL_isKind_345 : decode cL_isKind 345 = .ok (.ifCond .ne 7, 3) := by decide +kernel
theorem dL_isKind_348 : decode cL_isKind 348 = .ok (.iconst 1, 1) := by decide +kernel
theorem dL_isKind_349 : decode cL_isKind 349 = .ok (.goto 4, 3) := by decide +kernel
theorem dL_isKind_352 : decode cL_isKind 352 = .ok (.iconst 0, 1) := by decide +kernel
theorem dL_isKind_353 : decode cL_isKind 353 = .ok (.ireturn, 1) := by decide +kernel

theorem dL_law_0 : decode cL_law 0 = .ok (.new 15, 3) := by decide +kernel
theorem dL_law_3 : decode cL_law 3 = .ok (.dup, 1) := by decide +kernel
theorem dL_law_4 : decode cL_law 4 = .ok (.invokespecial 269, 3) := by decide +kernel
theorem dL_law_7 : decode cL_law 7 = .ok (.astore_n 1, 1) := by decide +kernel
theorem dL_law_8 : decode cL_law 8 = .ok (.iconst 2, 1) := by decide +kernel
theorem dL_law_9 : decode cL_law 9 = .ok (.aload_n 0, 1) := by decide +kernel
theorem dL_law_10 : decode cL_law 10 = .ok (.iconst 0, 1) := by decide +kernel
theorem dL_law_11 : decode cL_law 11 = .ok (.iconst 4, 1) := by decide +kernel
theorem dL_law_12 : decode cL_law 12 = .ok (.invokestatic 270, 3) := by decide +kernel
theorem dL_law_15 : decode cL_law 15 = .ok (.iadd, 1) := by decide +kernel
theorem dL_law_16 : decode cL_law 16 = .ok (.istore_n 2, 1) := by decide +kernel
theorem dL_law_17 : decode cL_law 17 = .ok (.iconst 1, 1) := by decide +kernel
theorem dL_law_18 : decode cL_law 18 = .ok (.istore_n 3, 1) := by decide +kernel
theorem dL_law_19 : decode cL_law 19 = .ok (.iload_n 3, 1) := by decide +kernel
theorem dL_law_20 : decode cL_law 20 = .ok (.iload_n 2, 1) := by decide +kernel
theorem dL_law_21 : decode cL_law 21 = .ok (.if_icmp .ge 78, 3) := by decide +kernel
theorem dL_law_24 : decode cL_law 24 = .ok (.aload_n 1, 1) := by decide +kernel
theorem dL_law_25 : decode cL_law 25 = .ok (.iconst 1, 1) := by decide +kernel
theorem dL_law_26 : decode cL_law 26 = .ok (.aload_n 0, 1) := by decide +kernel
theorem dL_law_27 : decode cL_law 27 = .ok (.iload_n 3, 1) := by decide +kernel
theorem dL_law_28 : decode cL_law 28 = .ok (.bipush 50, 2) := by decide +kernel
theorem dL_law_30 : decode cL_law 30 = .ok (.invokestatic 270, 3) := by decide +kernel
theorem dL_law_33 : decode cL_law 33 = .ok (.iadd, 1) := by decide +kernel
theorem dL_law_34 : decode cL_law 34 = .ok (.iconst 5, 1) := by decide +kernel
theorem dL_law_35 : decode cL_law 35 = .ok (.aload_n 0, 1) := by decide +kernel
theorem dL_law_36 : decode cL_law 36 = .ok (.iconst 5, 1) := by decide +kernel
theorem dL_law_37 : decode cL_law 37 = .ok (.iload_n 3, 1) := by decide +kernel
theorem dL_law_38 : decode cL_law 38 = .ok (.iadd, 1) := by decide +kernel
theorem dL_law_39 : decode cL_law 39 = .ok (.bipush 50, 2) := by decide +kernel
theorem dL_law_41 : decode cL_law 41 = .ok (.invokestatic 270, 3) := by decide +kernel
theorem dL_law_44 : decode cL_law 44 = .ok (.iadd, 1) := by decide +kernel
theorem dL_law_45 : decode cL_law 45 = .ok (.iconst 1, 1) := by decide +kernel
theorem dL_law_46 : decode cL_law 46 = .ok (.aload_n 0, 1) := by decide +kernel
theorem dL_law_47 : decode cL_law 47 = .ok (.bipush 10, 2) := by decide +kernel
theorem dL_law_49 : decode cL_law 49 = .ok (.iload_n 3, 1) := by decide +kernel
theorem dL_law_50 : decode cL_law 50 = .ok (.iadd, 1) := by decide +kernel
theorem dL_law_51 : decode cL_law 51 = .ok (.bipush 100, 2) := by decide +kernel
theorem dL_law_53 : decode cL_law 53 = .ok (.invokestatic 270, 3) := by decide +kernel
theorem dL_law_56 : decode cL_law 56 = .ok (.iadd, 1) := by decide +kernel
theorem dL_law_57 : decode cL_law 57 = .ok (.bipush 20, 2) := by decide +kernel
theorem dL_law_59 : decode cL_law 59 = .ok (.aload_n 0, 1) := by decide +kernel
theorem dL_law_60 : decode cL_law 60 = .ok (.bipush 15, 2) := by decide +kernel
theorem dL_law_62 : decode cL_law 62 = .ok (.iload_n 3, 1) := by decide +kernel
theorem dL_law_63 : decode cL_law 63 = .ok (.iadd, 1) := by decide +kernel
theorem dL_law_64 : decode cL_law 64 = .ok (.sipush 130, 3) := by decide +kernel
theorem dL_law_67 : decode cL_law 67 = .ok (.invokestatic 270, 3) := by decide +kernel
theorem dL_law_70 : decode cL_law 70 = .ok (.iadd, 1) := by decide +kernel
theorem dL_law_71 : decode cL_law 71 = .ok (.bipush 8, 2) := by decide +kernel
theorem dL_law_73 : decode cL_law 73 = .ok (.aload_n 0, 1) := by decide +kernel
theorem dL_law_74 : decode cL_law 74 = .ok (.bipush 20, 2) := by decide +kernel
theorem dL_law_76 : decode cL_law 76 = .ok (.iload_n 3, 1) := by decide +kernel
theorem dL_law_77 : decode cL_law 77 = .ok (.iadd, 1) := by decide +kernel
theorem dL_law_78 : decode cL_law 78 = .ok (.bipush 40, 2) := by decide +kernel
theorem dL_law_80 : decode cL_law 80 = .ok (.invokestatic 270, 3) := by decide +kernel
theorem dL_law_83 : decode cL_law 83 = .ok (.iadd, 1) := by decide +kernel
theorem dL_law_84 : decode cL_law 84 = .ok (.invokestatic 274, 3) := by decide +kernel
theorem dL_law_87 : decode cL_law 87 = .ok (.iload_n 3, 1) := by decide +kernel
theorem dL_law_88 : decode cL_law 88 = .ok (.if_icmp .eq 5, 3) := by decide +kernel
theorem dL_law_91 : decode cL_law 91 = .ok (.iconst 0, 1) := by decide +kernel
theorem dL_law_92 : decode cL_law 92 = .ok (.ireturn, 1) := by decide +kernel
theorem dL_law_93 : decode cL_law 93 = .ok (.iinc 3 1, 3) := by decide +kernel
theorem dL_law_96 : decode cL_law 96 = .ok (.goto (-77), 3) := by decide +kernel
theorem dL_law_99 : decode cL_law 99 = .ok (.iconst 0, 1) := by decide +kernel
theorem dL_law_100 : decode cL_law 100 = .ok (.istore_n 3, 1) := by decide +kernel
theorem dL_law_101 : decode cL_law 101 = .ok (.iload_n 3, 1) := by decide +kernel
theorem dL_law_102 : decode cL_law 102 = .ok (.bipush 6, 2) := by decide +kernel
theorem dL_law_104 : decode cL_law 104 = .ok (.if_icmp .ge 85, 3) := by decide +kernel
theorem dL_law_107 : decode cL_law 107 = .ok (.aload_n 0, 1) := by decide +kernel
theorem dL_law_108 : decode cL_law 108 = .ok (.bipush 26, 2) := by decide +kernel
theorem dL_law_110 : decode cL_law 110 = .ok (.iload_n 3, 1) := by decide +kernel
theorem dL_law_111 : decode cL_law 111 = .ok (.iadd, 1) := by decide +kernel
theorem dL_law_112 : decode cL_law 112 = .ok (.iload_n 2, 1) := by decide +kernel
theorem dL_law_113 : decode cL_law 113 = .ok (.invokestatic 270, 3) := by decide +kernel
theorem dL_law_116 : decode cL_law 116 = .ok (.istore 4, 2) := by decide +kernel
theorem dL_law_118 : decode cL_law 118 = .ok (.aload_n 1, 1) := by decide +kernel
theorem dL_law_119 : decode cL_law 119 = .ok (.iload 4, 2) := by decide +kernel
theorem dL_law_121 : decode cL_law 121 = .ok (.iconst 5, 1) := by decide +kernel
theorem dL_law_122 : decode cL_law 122 = .ok (.aload_n 0, 1) := by decide +kernel
theorem dL_law_123 : decode cL_law 123 = .ok (.bipush 32, 2) := by decide +kernel
theorem dL_law_125 : decode cL_law 125 = .ok (.iload_n 3, 1) := by decide +kernel
theorem dL_law_126 : decode cL_law 126 = .ok (.iadd, 1) := by decide +kernel
theorem dL_law_127 : decode cL_law 127 = .ok (.bipush 40, 2) := by decide +kernel
theorem dL_law_129 : decode cL_law 129 = .ok (.invokestatic 270, 3) := by decide +kernel
theorem dL_law_132 : decode cL_law 132 = .ok (.iadd, 1) := by decide +kernel
theorem dL_law_133 : decode cL_law 133 = .ok (.iconst 2, 1) := by decide +kernel
theorem dL_law_134 : decode cL_law 134 = .ok (.aload_n 0, 1) := by decide +kernel
theorem dL_law_135 : decode cL_law 135 = .ok (.bipush 38, 2) := by decide +kernel
theorem dL_law_137 : decode cL_law 137 = .ok (.iload_n 3, 1) := by decide +kernel
theorem dL_law_138 : decode cL_law 138 = .ok (.iadd, 1) := by decide +kernel
theorem dL_law_139 : decode cL_law 139 = .ok (.bipush 9, 2) := by decide +kernel
theorem dL_law_141 : decode cL_law 141 = .ok (.invokestatic 270, 3) := by decide +kernel
theorem dL_law_144 : decode cL_law 144 = .ok (.iadd, 1) := by decide +kernel
theorem dL_law_145 : decode cL_law 145 = .ok (.iconst 1, 1) := by decide +kernel
theorem dL_law_146 : decode cL_law 146 = .ok (.aload_n 0, 1) := by decide +kernel
theorem dL_law_147 : decode cL_law 147 = .ok (.bipush 44, 2) := by decide +kernel
theorem dL_law_149 : decode cL_law 149 = .ok (.iload_n 3, 1) := by decide +kernel
theorem dL_law_150 : decode cL_law 150 = .ok (.iadd, 1) := by decide +kernel
theorem dL_law_151 : decode cL_law 151 = .ok (.bipush 20, 2) := by decide +kernel
theorem dL_law_153 : decode cL_law 153 = .ok (.invokestatic 270, 3) := by decide +kernel
theorem dL_law_156 : decode cL_law 156 = .ok (.iadd, 1) := by decide +kernel
theorem dL_law_157 : decode cL_law 157 = .ok (.invokestatic 277, 3) := by decide +kernel
theorem dL_law_160 : decode cL_law 160 = .ok (.istore 5, 2) := by decide +kernel
theorem dL_law_162 : decode cL_law 162 = .ok (.iload 5, 2) := by decide +kernel
theorem dL_law_164 : decode cL_law 164 = .ok (.aload_n 1, 1) := by decide +kernel
theorem dL_law_165 : decode cL_law 165 = .ok (.invokevirtual 167, 3) := by decide +kernel
theorem dL_law_168 : decode cL_law 168 = .ok (.iconst 1, 1) := by decide +kernel
theorem dL_law_169 : decode cL_law 169 = .ok (.isub, 1) := by decide +kernel
theorem dL_law_170 : decode cL_law 170 = .ok (.if_icmp .eq 13, 3) := by decide +kernel
theorem dL_law_173 : decode cL_law 173 = .ok (.iload 5, 2) := by decide +kernel
theorem dL_law_175 : decode cL_law 175 = .ok (.sipush (-1004), 3) := by decide +kernel
theorem dL_law_178 : decode cL_law 178 = .ok (.if_icmp .eq 5, 3) := by decide +kernel
theorem dL_law_181 : decode cL_law 181 = .ok (.iconst 0, 1) := by decide +kernel
theorem dL_law_182 : decode cL_law 182 = .ok (.ireturn, 1) := by decide +kernel
theorem dL_law_183 : decode cL_law 183 = .ok (.iinc 3 1, 3) := by decide +kernel
theorem dL_law_186 : decode cL_law 186 = .ok (.goto (-85), 3) := by decide +kernel
theorem dL_law_189 : decode cL_law 189 = .ok (.iconst 0, 1) := by decide +kernel
theorem dL_law_190 : decode cL_law 190 = .ok (.istore_n 3, 1) := by decide +kernel
theorem dL_law_191 : decode cL_law 191 = .ok (.iload_n 3, 1) := by decide +kernel
theorem dL_law_192 : decode cL_law 192 = .ok (.bipush 24, 2) := by decide +kernel
theorem dL_law_194 : decode cL_law 194 = .ok (.if_icmp .ge 576, 3) := by decide +kernel
theorem dL_law_197 : decode cL_law 197 = .ok (.aload_n 1, 1) := by decide +kernel
theorem dL_law_198 : decode cL_law 198 = .ok (.invokevirtual 167, 3) := by decide +kernel
theorem dL_law_201 : decode cL_law 201 = .ok (.ifCond .le 569, 3) := by decide +kernel
theorem dL_law_204 : decode cL_law 204 = .ok (.aload_n 0, 1) := by decide +kernel
theorem dL_law_205 : decode cL_law 205 = .ok (.bipush 50, 2) := by decide +kernel
theorem dL_law_207 : decode cL_law 207 = .ok (.iload_n 3, 1) := by decide +kernel
theorem dL_law_208 : decode cL_law 208 = .ok (.iadd, 1) := by decide +kernel
theorem dL_law_209 : decode cL_law 209 = .ok (.invokestatic 8, 3) := by decide +kernel
theorem dL_law_212 : decode cL_law 212 = .ok (.iconst 1, 1) := by decide +kernel
theorem dL_law_213 : decode cL_law 213 = .ok (.iushr, 1) := by decide +kernel
theorem dL_law_214 : decode cL_law 214 = .ok (.istore 4, 2) := by decide +kernel
theorem dL_law_216 : decode cL_law 216 = .ok (.iload 4, 2) := by decide +kernel
theorem dL_law_218 : decode cL_law 218 = .ok (.aload_n 1, 1) := by decide +kernel
theorem dL_law_219 : decode cL_law 219 = .ok (.invokevirtual 167, 3) := by decide +kernel
theorem dL_law_222 : decode cL_law 222 = .ok (.irem, 1) := by decide +kernel
theorem dL_law_223 : decode cL_law 223 = .ok (.istore 5, 2) := by decide +kernel
theorem dL_law_225 : decode cL_law 225 = .ok (.iload 4, 2) := by decide +kernel
theorem dL_law_227 : decode cL_law 227 = .ok (.bipush 8, 2) := by decide +kernel
theorem dL_law_229 : decode cL_law 229 = .ok (.idiv, 1) := by decide +kernel
theorem dL_law_230 : decode cL_law 230 = .ok (.aload_n 1, 1) := by decide +kernel
theorem dL_law_231 : decode cL_law 231 = .ok (.invokevirtual 167, 3) := by decide +kernel
theorem dL_law_234 : decode cL_law 234 = .ok (.irem, 1) := by decide +kernel
theorem dL_law_235 : decode cL_law 235 = .ok (.istore 6, 2) := by decide +kernel
theorem dL_law_237 : decode cL_law 237 = .ok (.iload 4, 2) := by decide +kernel
theorem dL_law_239 : decode cL_law 239 = .ok (.bipush 64, 2) := by decide +kernel
theorem dL_law_241 : decode cL_law 241 = .ok (.idiv, 1) := by decide +kernel
theorem dL_law_242 : decode cL_law 242 = .ok (.iload_n 2, 1) := by decide +kernel
theorem dL_law_243 : decode cL_law 243 = .ok (.irem, 1) := by decide +kernel
theorem dL_law_244 : decode cL_law 244 = .ok (.istore 7, 2) := by decide +kernel
theorem dL_law_246 : decode cL_law 246 = .ok (.iload 4, 2) := by decide +kernel
theorem dL_law_248 : decode cL_law 248 = .ok (.sipush 512, 3) := by decide +kernel
theorem dL_law_251 : decode cL_law 251 = .ok (.idiv, 1) := by decide +kernel
theorem dL_law_252 : decode cL_law 252 = .ok (.bipush 16, 2) := by decide +kernel
theorem dL_law_254 : decode cL_law 254 = .ok (.irem, 1) := by decide +kernel
theorem dL_law_255 : decode cL_law 255 = .ok (.istore 8, 2) := by decide +kernel
theorem dL_law_257 : decode cL_law 257 = .ok (.iload 4, 2) := by decide +kernel
theorem dL_law_259 : decode cL_law 259 = .ok (.sipush 8192, 3) := by decide +kernel
theorem dL_law_262 : decode cL_law 262 = .ok (.idiv, 1) := by decide +kernel
theorem dL_law_263 : decode cL_law 263 = .ok (.sipush 300, 3) := by decide +kernel
theorem dL_law_266 : decode cL_law 266 = .ok (.irem, 1) := by decide +kernel
theorem dL_law_267 : decode cL_law 267 = .ok (.iconst 1, 1) := by decide +kernel
theorem dL_law_268 : decode cL_law 268 = .ok (.iadd, 1) := by decide +kernel
theorem dL_law_269 : decode cL_law 269 = .ok (.istore 9, 2) := by decide +kernel
theorem dL_law_271 : decode cL_law 271 = .ok (.iconst 1, 1) := by decide +kernel
theorem dL_law_272 : decode cL_law 272 = .ok (.istore 10, 2) := by decide +kernel
theorem dL_law_274 : decode cL_law 274 = .ok (.iload 8, 2) := by decide +kernel
theorem dL_law_276 : decode cL_law 276 = .ok (.iconst 4, 1) := by decide +kernel
theorem dL_law_277 : decode cL_law 277 = .ok (.if_icmp .ge 16, 3) := by decide +kernel
theorem dL_law_280 : decode cL_law 280 = .ok (.aload_n 1, 1) := by decide +kernel
theorem dL_law_281 : decode cL_law 281 = .ok (.iload 5, 2) := by decide +kernel
theorem dL_law_283 : decode cL_law 283 = .ok (.iload 7, 2) := by decide +kernel
theorem dL_law_285 : decode cL_law 285 = .ok (.invokestatic 280, 3) := by decide +kernel
theorem dL_law_288 : decode cL_law 288 = .ok (.istore 10, 2) := by decide +kernel
theorem dL_law_290 : decode cL_law 290 = .ok (.goto 453, 3) := by decide +kernel
theorem dL_law_293 : decode cL_law 293 = .ok (.iload 8, 2) := by decide +kernel
theorem dL_law_295 : decode cL_law 295 = .ok (.bipush 7, 2) := by decide +kernel
theorem dL_law_297 : decode cL_law 297 = .ok (.if_icmp .ge 29, 3) := by decide +kernel
theorem dL_law_300 : decode cL_law 300 = .ok (.aload_n 1, 1) := by decide +kernel
theorem dL_law_301 : decode cL_law 301 = .ok (.iload 5, 2) := by decide +kernel
theorem dL_law_303 : decode cL_law 303 = .ok (.iload 4, 2) := by decide +kernel
theorem dL_law_305 : decode cL_law 305 = .ok (.bipush 64, 2) := by decide +kernel
theorem dL_law_307 : decode cL_law 307 = .ok (.idiv, 1) := by decide +kernel
theorem dL_law_308 : decode cL_law 308 = .ok (.iconst 2, 1) := by decide +kernel
theorem dL_law_309 : decode cL_law 309 = .ok (.irem, 1) := by decide +kernel
theorem dL_law_310 : decode cL_law 310 = .ok (.ifCond .ne 7, 3) := by decide +kernel
theorem dL_law_313 : decode cL_law 313 = .ok (.iconst 1, 1) := by decide +kernel
theorem dL_law_314 : decode cL_law 314 = .ok (.goto 4, 3) := by decide +kernel
theorem dL_law_317 : decode cL_law 317 = .ok (.iconst 0, 1) := by decide +kernel
theorem dL_law_318 : decode cL_law 318 = .ok (.invokestatic 284, 3) := by decide +kernel
theorem dL_law_321 : decode cL_law 321 = .ok (.istore 10, 2) := by decide +kernel
theorem dL_law_323 : decode cL_law 323 = .ok (.goto 420, 3) := by decide +kernel
theorem dL_law_326 : decode cL_law 326 = .ok (.iload 8, 2) := by decide +kernel
theorem dL_law_328 : decode cL_law 328 = .ok (.bipush 9, 2) := by decide +kernel
theorem dL_law_330 : decode cL_law 330 = .ok (.if_icmp .ge 61, 3) := by decide +kernel
theorem dL_law_333 : decode cL_law 333 = .ok (.aload_n 1, 1) := by decide +kernel
theorem dL_law_334 : decode cL_law 334 = .ok (.iload 5, 2) := by decide +kernel
theorem dL_law_336 : decode cL_law 336 = .ok (.invokestatic 209, 3) := by decide +kernel
theorem dL_law_339 : decode cL_law 339 = .ok (.aload_n 1, 1) := by decide +kernel
theorem dL_law_340 : decode cL_law 340 = .ok (.iload 6, 2) := by decide +kernel
theorem dL_law_342 : decode cL_law 342 = .ok (.invokestatic 209, 3) := by decide +kernel
theorem dL_law_345 : decode cL_law 345 = .ok (.iadd, 1) := by decide +kernel
theorem dL_law_346 : decode cL_law 346 = .ok (.istore 11, 2) := by decide +kernel
theorem dL_law_348 : decode cL_law 348 = .ok (.aload_n 1, 1) := by decide +kernel
theorem dL_law_349 : decode cL_law 349 = .ok (.iload 5, 2) := by decide +kernel
theorem dL_law_351 : decode cL_law 351 = .ok (.iload 6, 2) := by decide +kernel
theorem dL_law_353 : decode cL_law 353 = .ok (.invokestatic 288, 3) := by decide +kernel
theorem dL_law_356 : decode cL_law 356 = .ok (.istore 12, 2) := by decide +kernel
theorem dL_law_358 : decode cL_law 358 = .ok (.iload 12, 2) := by decide +kernel
theorem dL_law_360 : decode cL_law 360 = .ok (.ifCond .lt 21, 3) := by decide +kernel
theorem dL_law_363 : decode cL_law 363 = .ok (.iload 12, 2) := by decide +kernel
theorem dL_law_365 : decode cL_law 365 = .ok (.iload 11, 2) := by decide +kernel
theorem dL_law_367 : decode cL_law 367 = .ok (.if_icmp .ne 18, 3) := by decide +kernel
theorem dL_law_370 : decode cL_law 370 = .ok (.aload_n 1, 1) := by decide +kernel
theorem dL_law_371 : decode cL_law 371 = .ok (.iload 6, 2) := by decide +kernel
theorem dL_law_373 : decode cL_law 373 = .ok (.invokestatic 209, 3) := by decide +kernel
theorem dL_law_376 : decode cL_law 376 = .ok (.iload 11, 2) := by decide +kernel
theorem dL_law_378 : decode cL_law 378 = .ok (.if_icmp .ne 7, 3) := by decide +kernel
theorem dL_law_381 : decode cL_law 381 = .ok (.iconst 1, 1) := by decide +kernel
theorem dL_law_382 : decode cL_law 382 = .ok (.goto 4, 3) := by decide +kernel
theorem dL_law_385 : decode cL_law 385 = .ok (.iconst 0, 1) := by decide +kernel
theorem dL_law_386 : decode cL_law 386 = .ok (.istore 10, 2) := by decide +kernel
theorem dL_law_388 : decode cL_law 388 = .ok (.goto 355, 3) := by decide +kernel
theorem dL_law_391 : decode cL_law 391 = .ok (.iload 8, 2) := by decide +kernel
theorem dL_law_393 : decode cL_law 393 = .ok (.bipush 9, 2) := by decide +kernel
theorem dL_law_395 : decode cL_law 395 = .ok (.if_icmp .ne 83, 3) := by decide +kernel
theorem dL_law_398 : decode cL_law 398 = .ok (.aload_n 1, 1) := by decide +kernel
theorem dL_law_399 : decode cL_law 399 = .ok (.iload 5, 2) := by decide +kernel
theorem dL_law_401 : decode cL_law 401 = .ok (.invokestatic 209, 3) := by decide +kernel
theorem dL_law_404 : decode cL_law 404 = .ok (.istore 11, 2) := by decide +kernel
theorem dL_law_406 : decode cL_law 406 = .ok (.aload_n 1, 1) := by decide +kernel
theorem dL_law_407 : decode cL_law 407 = .ok (.iload 5, 2) := by decide +kernel
theorem dL_law_409 : decode cL_law 409 = .ok (.invokestatic 290, 3) := by decide +kernel
theorem dL_law_412 : decode cL_law 412 = .ok (.istore 12, 2) := by decide +kernel
theorem dL_law_414 : decode cL_law 414 = .ok (.iload 12, 2) := by decide +kernel
theorem dL_law_416 : decode cL_law 416 = .ok (.sipush (-1002), 3) := by decide +kernel
theorem dL_law_419 : decode cL_law 419 = .ok (.if_icmp .ne 23, 3) := by decide +kernel
theorem dL_law_422 : decode cL_law 422 = .ok (.aload_n 1, 1) := by decide +kernel
theorem dL_law_423 : decode cL_law 423 = .ok (.iload 5, 2) := by decide +kernel
theorem dL_law_425 : decode cL_law 425 = .ok (.iconst 0, 1) := by decide +kernel
theorem dL_law_426 : decode cL_law 426 = .ok (.invokestatic 211, 3) := by decide +kernel
theorem dL_law_429 : decode cL_law 429 = .ok (.iload 5, 2) := by decide +kernel
theorem dL_law_431 : decode cL_law 431 = .ok (.if_icmp .ne 7, 3) := by decide +kernel
theorem dL_law_434 : decode cL_law 434 = .ok (.iconst 1, 1) := by decide +kernel
theorem dL_law_435 : decode cL_law 435 = .ok (.goto 38, 3) := by decide +kernel
theorem dL_law_438 : decode cL_law 438 = .ok (.iconst 0, 1) := by decide +kernel
theorem dL_law_439 : decode cL_law 439 = .ok (.goto 34, 3) := by decide +kernel
theorem dL_law_442 : decode cL_law 442 = .ok (.aload_n 1, 1) := by decide +kernel
theorem dL_law_443 : decode cL_law 443 = .ok (.iload 5, 2) := by decide +kernel
theorem dL_law_445 : decode cL_law 445 = .ok (.invokestatic 209, 3) := by decide +kernel
theorem dL_law_448 : decode cL_law 448 = .ok (.iload 11, 2) := by decide +kernel
theorem dL_law_450 : decode cL_law 450 = .ok (.iload 12, 2) := by decide +kernel
theorem dL_law_452 : decode cL_law 452 = .ok (.isub, 1) := by decide +kernel
theorem dL_law_453 : decode cL_law 453 = .ok (.if_icmp .ne 19, 3) := by decide +kernel
theorem dL_law_456 : decode cL_law 456 = .ok (.aload_n 1, 1) := by decide +kernel
theorem dL_law_457 : decode cL_law 457 = .ok (.iload 5, 2) := by decide +kernel
theorem dL_law_459 : decode cL_law 459 = .ok (.iconst 0, 1) := by decide +kernel
theorem dL_law_460 : decode cL_law 460 = .ok (.invokestatic 211, 3) := by decide +kernel
theorem dL_law_463 : decode cL_law 463 = .ok (.iload 5, 2) := by decide +kernel
theorem dL_law_465 : decode cL_law 465 = .ok (.if_icmp .ne 7, 3) := by decide +kernel
theorem dL_law_468 : decode cL_law 468 = .ok (.iconst 1, 1) := by decide +kernel
theorem dL_law_469 : decode cL_law 469 = .ok (.goto 4, 3) := by decide +kernel
theorem dL_law_472 : decode cL_law 472 = .ok (.iconst 0, 1) := by decide +kernel
theorem dL_law_473 : decode cL_law 473 = .ok (.istore 10, 2) := by decide +kernel
theorem dL_law_475 : decode cL_law 475 = .ok (.goto 268, 3) := by decide +kernel
theorem dL_law_478 : decode cL_law 478 = .ok (.iload 8, 2) := by decide +kernel
theorem dL_law_480 : decode cL_law 480 = .ok (.bipush 12, 2) := by decide +kernel
theorem dL_law_482 : decode cL_law 482 = .ok (.if_icmp .ge 16, 3) := by decide +kernel
theorem dL_law_485 : decode cL_law 485 = .ok (.aload_n 1, 1) := by decide +kernel
theorem dL_law_486 : decode cL_law 486 = .ok (.iload 5, 2) := by decide +kernel
theorem dL_law_488 : decode cL_law 488 = .ok (.iload 9, 2) := by decide +kernel
theorem dL_law_490 : decode cL_law 490 = .ok (.invokestatic 292, 3) := by decide +kernel
theorem dL_law_493 : decode cL_law 493 = .ok (.istore 10, 2) := by decide +kernel
theorem dL_law_495 : decode cL_law 495 = .ok (.goto 248, 3) := by decide +kernel
theorem dL_law_498 : decode cL_law 498 = .ok (.iload 8, 2) := by decide +kernel
theorem dL_law_500 : decode cL_law 500 = .ok (.bipush 12, 2) := by decide +kernel
theorem dL_law_502 : decode cL_law 502 = .ok (.if_icmp .ne 24, 3) := by decide +kernel
theorem dL_law_505 : decode cL_law 505 = .ok (.aload_n 1, 1) := by decide +kernel
theorem dL_law_506 : decode cL_law 506 = .ok (.iload 7, 2) := by decide +kernel
theorem dL_law_508 : decode cL_law 508 = .ok (.iload 9, 2) := by decide +kernel
theorem dL_law_510 : decode cL_law 510 = .ok (.invokestatic 295, 3) := by decide +kernel
theorem dL_law_513 : decode cL_law 513 = .ok (.ifCond .lt 7, 3) := by decide +kernel
theorem dL_law_516 : decode cL_law 516 = .ok (.iconst 1, 1) := by decide +kernel
theorem dL_law_517 : decode cL_law 517 = .ok (.goto 4, 3) := by decide +kernel
theorem dL_law_520 : decode cL_law 520 = .ok (.iconst 0, 1) := by decide +kernel
theorem dL_law_521 : decode cL_law 521 = .ok (.istore 10, 2) := by decide +kernel
theorem dL_law_523 : decode cL_law 523 = .ok (.goto 220, 3) := by decide +kernel
theorem dL_law_526 : decode cL_law 526 = .ok (.iload 8, 2) := by decide +kernel
theorem dL_law_528 : decode cL_law 528 = .ok (.bipush 13, 2) := by decide +kernel
theorem dL_law_530 : decode cL_law 530 = .ok (.if_icmp .ne 47, 3) := by decide +kernel
theorem dL_law_533 : decode cL_law 533 = .ok (.aload_n 1, 1) := by decide +kernel
theorem dL_law_534 : decode cL_law 534 = .ok (.invokevirtual 297, 3) := by decide +kernel
theorem dL_law_537 : decode cL_law 537 = .ok (.istore 11, 2) := by decide +kernel
theorem dL_law_539 : decode cL_law 539 = .ok (.aload_n 1, 1) := by decide +kernel
theorem dL_law_540 : decode cL_law 540 = .ok (.invokevirtual 300, 3) := by decide +kernel
theorem dL_law_543 : decode cL_law 543 = .ok (.istore 12, 2) := by decide +kernel
theorem dL_law_545 : decode cL_law 545 = .ok (.iload 12, 2) := by decide +kernel
theorem dL_law_547 : decode cL_law 547 = .ok (.ifCond .lt 24, 3) := by decide +kernel
theorem dL_law_550 : decode cL_law 550 = .ok (.iload 12, 2) := by decide +kernel
theorem dL_law_552 : decode cL_law 552 = .ok (.iload_n 2, 1) := by decide +kernel
theorem dL_law_553 : decode cL_law 553 = .ok (.if_icmp .gt 18, 3) := by decide +kernel
theorem dL_law_556 : decode cL_law 556 = .ok (.aload_n 1, 1) := by decide +kernel
theorem dL_law_557 : decode cL_law 557 = .ok (.invokevirtual 297, 3) := by decide +kernel
theorem dL_law_560 : decode cL_law 560 = .ok (.iload 11, 2) := by decide +kernel
theorem dL_law_562 : decode cL_law 562 = .ok (.iconst 1, 1) := by decide +kernel
theorem dL_law_563 : decode cL_law 563 = .ok (.iadd, 1) := by decide +kernel
theorem dL_law_564 : decode cL_law 564 = .ok (.if_icmp .ne 7, 3) := by decide +kernel
theorem dL_law_567 : decode cL_law 567 = .ok (.iconst 1, 1) := by decide +kernel
theorem dL_law_568 : decode cL_law 568 = .ok (.goto 4, 3) := by decide +kernel
theorem dL_law_571 : decode cL_law 571 = .ok (.iconst 0, 1) := by decide +kernel
theorem dL_law_572 : decode cL_law 572 = .ok (.istore 10, 2) := by decide +kernel
theorem dL_law_574 : decode cL_law 574 = .ok (.goto 169, 3) := by decide +kernel
theorem dL_law_577 : decode cL_law 577 = .ok (.iload 8, 2) := by decide +kernel
theorem dL_law_579 : decode cL_law 579 = .ok (.bipush 14, 2) := by decide +kernel
theorem dL_law_581 : decode cL_law 581 = .ok (.if_icmp .ne 96, 3) := by decide +kernel
theorem dL_law_584 : decode cL_law 584 = .ok (.iload 4, 2) := by decide +kernel
theorem dL_law_586 : decode cL_law 586 = .ok (.bipush 64, 2) := by decide +kernel
theorem dL_law_588 : decode cL_law 588 = .ok (.idiv, 1) := by decide +kernel
theorem dL_law_589 : decode cL_law 589 = .ok (.iload_n 2, 1) := by decide +kernel
theorem dL_law_590 : decode cL_law 590 = .ok (.iconst 1, 1) := by decide +kernel
theorem dL_law_591 : decode cL_law 591 = .ok (.isub, 1) := by decide +kernel
theorem dL_law_592 : decode cL_law 592 = .ok (.irem, 1) := by decide +kernel
theorem dL_law_593 : decode cL_law 593 = .ok (.istore 11, 2) := by decide +kernel
theorem dL_law_595 : decode cL_law 595 = .ok (.aload_n 1, 1) := by decide +kernel
theorem dL_law_596 : decode cL_law 596 = .ok (.iload 11, 2) := by decide +kernel
theorem dL_law_598 : decode cL_law 598 = .ok (.invokestatic 163, 3) := by decide +kernel
theorem dL_law_601 : decode cL_law 601 = .ok (.istore 12, 2) := by decide +kernel
theorem dL_law_603 : decode cL_law 603 = .ok (.aload_n 1, 1) := by decide +kernel
theorem dL_law_604 : decode cL_law 604 = .ok (.iload 11, 2) := by decide +kernel
theorem dL_law_606 : decode cL_law 606 = .ok (.invokestatic 303, 3) := by decide +kernel
theorem dL_law_609 : decode cL_law 609 = .ok (.istore 13, 2) := by decide +kernel
theorem dL_law_611 : decode cL_law 611 = .ok (.iload 13, 2) := by decide +kernel
theorem dL_law_613 : decode cL_law 613 = .ok (.sipush (-1002), 3) := by decide +kernel
theorem dL_law_616 : decode cL_law 616 = .ok (.if_icmp .ne 31, 3) := by decide +kernel
theorem dL_law_619 : decode cL_law 619 = .ok (.iload 12, 2) := by decide +kernel
theorem dL_law_621 : decode cL_law 621 = .ok (.ifCond .ne 22, 3) := by decide +kernel
theorem dL_law_624 : decode cL_law 624 = .ok (.aload_n 1, 1) := by decide +kernel
theorem dL_law_625 : decode cL_law 625 = .ok (.iload 11, 2) := by decide +kernel
theorem dL_law_627 : decode cL_law 627 = .ok (.invokestatic 160, 3) := by decide +kernel
theorem dL_law_630 : decode cL_law 630 = .ok (.aload_n 1, 1) := by decide +kernel
theorem dL_law_631 : decode cL_law 631 = .ok (.iload 11, 2) := by decide +kernel
theorem dL_law_633 : decode cL_law 633 = .ok (.invokestatic 184, 3) := by decide +kernel
theorem dL_law_636 : decode cL_law 636 = .ok (.if_icmp .ge 7, 3) := by decide +kernel
theorem dL_law_639 : decode cL_law 639 = .ok (.iconst 1, 1) := by decide +kernel
theorem dL_law_640 : decode cL_law 640 = .ok (.goto 32, 3) := by decide +kernel
theorem dL_law_643 : decode cL_law 643 = .ok (.iconst 0, 1) := by decide +kernel
theorem dL_law_644 : decode cL_law 644 = .ok (.goto 28, 3) := by decide +kernel
theorem dL_law_647 : decode cL_law 647 = .ok (.iload 13, 2) := by decide +kernel
theorem dL_law_649 : decode cL_law 649 = .ok (.iconst 1, 1) := by decide +kernel
theorem dL_law_650 : decode cL_law 650 = .ok (.iload 12, 2) := by decide +kernel
theorem dL_law_652 : decode cL_law 652 = .ok (.isub, 1) := by decide +kernel
theorem dL_law_653 : decode cL_law 653 = .ok (.if_icmp .ne 18, 3) := by decide +kernel
theorem dL_law_656 : decode cL_law 656 = .ok (.aload_n 1, 1) := by decide +kernel
theorem dL_law_657 : decode cL_law 657 = .ok (.iload 11, 2) := by decide +kernel
theorem dL_law_659 : decode cL_law 659 = .ok (.invokestatic 163, 3) := by decide +kernel
theorem dL_law_662 : decode cL_law 662 = .ok (.iload 13, 2) := by decide +kernel
theorem dL_law_664 : decode cL_law 664 = .ok (.if_icmp .ne 7, 3) := by decide +kernel
theorem dL_law_667 : decode cL_law 667 = .ok (.iconst 1, 1) := by decide +kernel
theorem dL_law_668 : decode cL_law 668 = .ok (.goto 4, 3) := by decide +kernel
theorem dL_law_671 : decode cL_law 671 = .ok (.iconst 0, 1) := by decide +kernel
theorem dL_law_672 : decode cL_law 672 = .ok (.istore 10, 2) := by decide +kernel
theorem dL_law_674 : decode cL_law 674 = .ok (.goto 69, 3) := by decide +kernel
theorem dL_law_677 : decode cL_law 677 = .ok (.aload_n 1, 1) := by decide +kernel
theorem dL_law_678 : decode cL_law 678 = .ok (.iload 5, 2) := by decide +kernel
theorem dL_law_680 : decode cL_law 680 = .ok (.invokestatic 214, 3) := by decide +kernel
theorem dL_law_683 : decode cL_law 683 = .ok (.istore 11, 2) := by decide +kernel
theorem dL_law_685 : decode cL_law 685 = .ok (.aload_n 1, 1) := by decide +kernel
theorem dL_law_686 : decode cL_law 686 = .ok (.iload 5, 2) := by decide +kernel
theorem dL_law_688 : decode cL_law 688 = .ok (.bipush 20, 2) := by decide +kernel
theorem dL_law_690 : decode cL_law 690 = .ok (.invokestatic 305, 3) := by decide +kernel
theorem dL_law_693 : decode cL_law 693 = .ok (.istore 12, 2) := by decide +kernel
theorem dL_law_695 : decode cL_law 695 = .ok (.iload 12, 2) := by decide +kernel
theorem dL_law_697 : decode cL_law 697 = .ok (.ifCond .lt 43, 3) := by decide +kernel
theorem dL_law_700 : decode cL_law 700 = .ok (.aload_n 1, 1) := by decide +kernel
theorem dL_law_701 : decode cL_law 701 = .ok (.iload 5, 2) := by decide +kernel
theorem dL_law_703 : decode cL_law 703 = .ok (.invokestatic 214, 3) := by decide +kernel
theorem dL_law_706 : decode cL_law 706 = .ok (.bipush 20, 2) := by decide +kernel
theorem dL_law_708 : decode cL_law 708 = .ok (.if_icmp .gt 32, 3) := by decide +kernel
theorem dL_law_711 : decode cL_law 711 = .ok (.iload 12, 2) := by decide +kernel
theorem dL_law_713 : decode cL_law 713 = .ok (.ifCond .le 7, 3) := by decide +kernel
theorem dL_law_716 : decode cL_law 716 = .ok (.iconst 1, 1) := by decide +kernel
theorem dL_law_717 : decode cL_law 717 = .ok (.goto 4, 3) := by decide +kernel
theorem dL_law_720 : decode cL_law 720 = .ok (.iconst 0, 1) := by decide +kernel
theorem dL_law_721 : decode cL_law 721 = .ok (.iload 11, 2) := by decide +kernel
theorem dL_law_723 : decode cL_law 723 = .ok (.bipush 20, 2) := by decide +kernel
theorem dL_law_725 : decode cL_law 725 = .ok (.if_icmp .le 7, 3) := by decide +kernel
theorem dL_law_728 : decode cL_law 728 = .ok (.iconst 1, 1) := by decide +kernel
theorem dL_law_729 : decode cL_law 729 = .ok (.goto 4, 3) := by decide +kernel
theorem dL_law_732 : decode cL_law 732 = .ok (.iconst 0, 1) := by decide +kernel
theorem dL_law_733 : decode cL_law 733 = .ok (.if_icmp .ne 7, 3) := by decide +kernel
theorem dL_law_736 : decode cL_law 736 = .ok (.iconst 1, 1) := by decide +kernel
theorem dL_law_737 : decode cL_law 737 = .ok (.goto 4, 3) := by decide +kernel
theorem dL_law_740 : decode cL_law 740 = .ok (.iconst 0, 1) := by decide +kernel
theorem dL_law_741 : decode cL_law 741 = .ok (.istore 10, 2) := by decide +kernel
theorem dL_law_743 : decode cL_law 743 = .ok (.iload 10, 2) := by decide +kernel
theorem dL_law_745 : decode cL_law 745 = .ok (.ifCond .eq 17, 3) := by decide +kernel
theorem dL_law_748 : decode cL_law 748 = .ok (.aload_n 1, 1) := by decide +kernel
theorem dL_law_749 : decode cL_law 749 = .ok (.invokestatic 307, 3) := by decide +kernel
theorem dL_law_752 : decode cL_law 752 = .ok (.ifCond .eq 10, 3) := by decide +kernel
theorem dL_law_755 : decode cL_law 755 = .ok (.aload_n 1, 1) := by decide +kernel
theorem dL_law_756 : decode cL_law 756 = .ok (.invokestatic 311, 3) := by decide +kernel
theorem dL_law_759 : decode cL_law 759 = .ok (.ifCond .ne 5, 3) := by decide +kernel
theorem dL_law_762 : decode cL_law 762 = .ok (.iconst 0, 1) := by decide +kernel
theorem dL_law_763 : decode cL_law 763 = .ok (.ireturn, 1) := by decide +kernel
theorem dL_law_764 : decode cL_law 764 = .ok (.iinc 3 1, 3) := by decide +kernel
theorem dL_law_767 : decode cL_law 767 = .ok (.goto (-576), 3) := by decide +kernel
theorem dL_law_770 : decode cL_law 770 = .ok (.iconst 1, 1) := by decide +kernel
theorem dL_law_771 : decode cL_law 771 = .ok (.ireturn, 1) := by decide +kernel
section
variable {l : Launch} {G : az_G} {nL : Nat} {Q : State → Prop} {p : Program} {e : Env} {R : Room} {s : State} {m : MethodId} {args : Array Value} {below : List Frame} {meth : Method} {c : Code} {ad : az_A} {K : az_K} {k n pc : Nat} {lv : List (Nat × Value)} {st : List Value}
variable {cc : ByteArray} {own : String} {ret : Option FieldType} {tab : List ExceptionTableEntry}
/-- the script of L ints, below all that the run makes -/
def lwS (G : az_G) (b L : Nat) (xs : Nat → Int32) (s : State) : Prop := va_X b L xs s s.heap ∧ b < s.heap.size ∧ b < G.1 ∧ L ≤ 3072
/-- the same, whatever the run has come to -/
def lwC (G : az_G) (b L : Nat) (xs : Nat → Int32) : Prop := b < G.1 ∧ L ≤ 3072 ∧ ∀ U : State, G.2.2.2 U U.heap → va_X b L xs U U.heap
theorem lwC.S {b L : Nat} {xs : Nat → Int32} (h : lwC G b L xs) (C : az_C l G p s m args meth c cc own nL ret tab) : lwS G b L xs s := ⟨h.2.2 s C.2.2.2.2.2.2.1, Nat.lt_of_lt_of_le h.1 C.2.2.2.2.2.2.2.1, h.1, h.2.1⟩
theorem az_sld (C : az_C l G p s m args meth c cc own nL ret tab) {b L : Nat} {xs : Nat → Int32} (S : lwS G b L xs s) {i : Int32} (hin : vp_in i L) (d : decode cc pc = .ok (.iaload, 1)) (kk : az_W l G nL Q p e R s m args below meth c ad K k n (pc + 1) lv (.int (xs i.toNatClampNeg) :: st)) : az_W l G nL Q p e R s m args below meth c ad K k n pc lv (.int i :: .ref b :: st) :=
  fun H locs ls hP hS hl => va_sld C.1 C.2.1 S.1 S.2.1 (Nat.not_le.mpr S.2.2.1) hS hin d (kk H locs ls hP hS hl)
theorem az_slen (C : az_C l G p s m args meth c cc own nL ret tab) {b L : Nat} {xs : Nat → Int32} (S : lwS G b L xs s) (d : decode cc pc = .ok (.arraylength, 1)) (kk : az_W l G nL Q p e R s m args below meth c ad K k n (pc + 1) lv (.int (nI L) :: st)) : az_W l G nL Q p e R s m args below meth c ad K k n pc lv (.ref b :: st) :=
  fun H locs ls hP hS hl => va_slen C.1 C.2.1 S.1 S.2.1 (Nat.not_le.mpr S.2.2.1) hS d (kk H locs ls hP hS hl)
end
theorem ushr1 (v : Int32) : ∃ t : Nat, t < 2 ^ 31 ∧ (v.toUInt32 >>> ((1 : Int32).toUInt32 &&& Int32.toUInt32 31)).toInt32 = nI t := by
  refine ⟨(v.toUInt32 >>> ((1 : Int32).toUInt32 &&& Int32.toUInt32 31)).toNat, ?_, ?_⟩
  · have e : (1 : Int32).toUInt32 &&& Int32.toUInt32 31 = 1 := by decide
    rw [e, UInt32.toNat_shiftRight]
    have h1 := v.toUInt32.toNat_lt
    show v.toUInt32.toNat >>> 1 < 2 ^ 31
    rw [Nat.shiftRight_succ, Nat.shiftRight_zero]
    omega
  · refine Int32.toBitVec_inj.1 ?_
    show (v.toUInt32 >>> ((1 : Int32).toUInt32 &&& Int32.toUInt32 31)).toBitVec = BitVec.ofNat 32 (v.toUInt32 >>> ((1 : Int32).toUInt32 &&& Int32.toUInt32 31)).toBitVec.toNat
    rw [BitVec.ofNat_toNat, BitVec.setWidth_eq]
theorem div_nI {t q : Nat} (ht : t < 2 ^ 31) (hq : q < 2 ^ 31) (h0 : 0 < q) : nI t / nI q = nI (t / q) := by
  have h1 : t / q ≤ t := Nat.div_le_self t q
  rw [i_eq, Int32.toInt_div, i_nI ht, i_nI hq, i_nI (by omega), Int.tdiv_eq_ediv_of_nonneg (by omega), ← Int.natCast_ediv]
  generalize t / q = d at h1 ⊢
  rw [Int.bmod_eq_of_le (by omega) (by omega)]
theorem rem_nI {t q : Nat} (ht : t < 2 ^ 31) (hq : q < 2 ^ 31) (h0 : 0 < q) : nI t - nI t / nI q * nI q = nI (t % q) := by
  have h1 : t / q ≤ t := Nat.div_le_self t q
  have h2 := Nat.div_add_mod t q
  have h3 : t / q * q = q * (t / q) := Nat.mul_comm _ _
  have h4 := Nat.mod_lt t h0
  have e1 : (nI (t / q) * nI q).toInt = ((t / q * q : Nat) : Int) := by
    rw [i_mul] <;> rw [i_nI (by omega), i_nI hq, ← Int.natCast_mul] <;> omega
  rw [div_nI ht hq h0, i_eq, i_sub] <;> rw [e1, i_nI ht]
  · rw [i_nI (by omega)]; omega
  · omega
  · omega
theorem nz_nI {q : Nat} (h0 : 0 < q) (hq : q < 2 ^ 31) : ¬ nI q = 0 := fun z => by
  rw [i_eq, i_nI hq, i_0] at z
  omega
section
variable {l : Launch} {G : az_G} {ρ : Rp} {x : Xs} {m : Mz} {ou : Nat → Int64} {sb L k q : Nat} {xs : Nat → Int32}
set_option maxHeartbeats 4000000 in
set_option maxRecDepth 100000 in
theorem Xcell (hG : az_okS l G) (hS : lwC G sb L xs) (hk : k < 2 ^ 30) : az_M l G yL_cell (az_ws yL_cell cL_cell 2 (Option.some FieldType.int)) 1 [.ref sb, .int (nI k)] (AD ρ) (KK G ρ x m ou) 0 0 (fun o ad' K' => ∃ v : Int32, o = .inl (some (.int v)) ∧ ad' = AD ρ ∧ K' = KK G ρ x m ou) := by
  refine az_start hG.1 (by decide +kernel) (Nat.le_of_ble_eq_true rfl) ?_
  intro p e s mm args below meth c C hnm
  show az_W l G 2 _ p e _ s mm args below meth c _ _ 0 0 0 [(0, .ref sb), (1, .int (nI k))] []
  have Ss := hS.S C
  refine az_iload_n C 1 dL_cell_0 rfl ?_
  refine az_aload_n C 0 dL_cell_1 rfl ?_
  refine az_slen C Ss dL_cell_2 ?_
  refine az_icmp_ge C 12 dL_cell_3 (by decide) (fun c1 => ?_) (fun c1 => ?_)
  · refine az_ldc C (v := 40503) wn_L_7 dL_cell_12 ?_
    refine az_iload_n C 1 dL_cell_14 rfl ?_
    refine az_imul C dL_cell_15 ?_
    refine az_bipush C (v := 19) dL_cell_16 (by decide) ?_
    refine az_iadd C dL_cell_18 ?_
    exact az_iret C rfl dL_cell_19 (Nat.le_of_ble_eq_true rfl) (Nat.le_of_ble_eq_true rfl) ⟨_, rfl, rfl, rfl⟩
  · refine az_aload_n C 0 dL_cell_6 rfl ?_
    refine az_iload_n C 1 dL_cell_7 rfl ?_
    refine az_sld C Ss (vp_in_nI (Nat.not_le.mp (fun z => c1 (nI_leT z (by omega)))) (by have := hS.2.1; omega)) dL_cell_8 ?_
    refine az_goto C 19 dL_cell_9 (by decide) ?_
    exact az_iret C rfl dL_cell_19 (Nat.le_of_ble_eq_true rfl) (Nat.le_of_ble_eq_true rfl) ⟨_, rfl, rfl, rfl⟩

set_option maxHeartbeats 4000000 in
set_option maxRecDepth 100000 in
theorem Xpick (hG : az_okS l G) (hS : lwC G sb L xs) (hk : k < 2 ^ 30) (hq0 : 0 < q) (hq : q < 2 ^ 30) : az_M l G yL_pick (az_ws yL_pick cL_pick 3 (Option.some FieldType.int)) 2 [.ref sb, .int (nI k), .int (nI q)] (AD ρ) (KK G ρ x m ou) 0 0 (fun o ad' K' => ∃ t : Nat, t < q ∧ o = .inl (some (.int (nI t))) ∧ ad' = AD ρ ∧ K' = KK G ρ x m ou) := by
  refine az_start hG.1 (by decide +kernel) (Nat.le_of_ble_eq_true rfl) ?_
  intro p e s mm args below meth c C hnm
  show az_W l G 3 _ p e _ s mm args below meth c _ _ 0 0 0 [(0, .ref sb), (1, .int (nI k)), (2, .int (nI q))] []
  refine az_aload_n C 0 dL_pick_0 rfl ?_
  refine az_iload_n C 1 dL_pick_1 rfl ?_
  refine az_callS C Y_L_cell [.ref sb, .int (nI k)] [] wm_L_8 wst_L_cell dL_pick_2 rfl (Xcell (ρ := ρ) (x := x) (m := m) (ou := ou) hG hS hk) rfl (Nat.le_of_ble_eq_true rfl) (Nat.le_of_ble_eq_true rfl) (Nat.le_of_ble_eq_true rfl) (Nat.le_of_ble_eq_true rfl) (Nat.le_of_ble_eq_true rfl) ?_ (by rintro E ad9 K9 ⟨v9, h9, -⟩; cases h9)
  rintro v9 ad9 K9 ⟨u9, h9, rfl, rfl⟩
  cases h9
  obtain ⟨t9, ht9, et9⟩ := ushr1 u9
  refine az_iconst C (v := 1) dL_pick_5 (by decide) ?_
  refine az_iushr C (v := (nI t9)) dL_pick_6 et9 ?_
  refine az_iload_n C 2 dL_pick_7 rfl ?_
  refine az_irem C dL_pick_8 (nz_nI hq0 (by omega)) ?_
  refine az_top (nI (t9 % q)) (rem_nI ht9 (by omega) hq0) ?_
  exact az_iret C rfl dL_pick_9 (Nat.le_of_ble_eq_true rfl) (Nat.le_of_ble_eq_true rfl) ⟨_, Nat.mod_lt t9 hq0, rfl, rfl, rfl⟩

end

theorem dX4_init_0 : decode cX4_init 0 = .ok (.aload_n 0, 1) := by decide +kernel
theorem dX4_init_1 : decode cX4_init 1 = .ok (.invokespecial 1, 3) := by decide +kernel
theorem dX4_init_4 : decode cX4_init 4 = .ok (.aload_n 0, 1) := by decide +kernel
theorem dX4_init_5 : decode cX4_init 5 = .ok (.iconst 1, 1) := by decide +kernel
theorem dX4_init_6 : decode cX4_init 6 = .ok (.putfield 7, 3) := by decide +kernel
theorem dX4_init_9 : decode cX4_init 9 = .ok (.aload_n 0, 1) := by decide +kernel
theorem dX4_init_10 : decode cX4_init 10 = .ok (.bipush 6, 2) := by decide +kernel
theorem dX4_init_12 : decode cX4_init 12 = .ok (.newarray .int, 2) := by decide +kernel
theorem dX4_init_14 : decode cX4_init 14 = .ok (.dup, 1) := by decide +kernel
theorem dX4_init_15 : decode cX4_init 15 = .ok (.iconst 0, 1) := by decide +kernel
theorem dX4_init_16 : decode cX4_init 16 = .ok (.bipush 20, 2) := by decide +kernel
theorem dX4_init_18 : decode cX4_init 18 = .ok (.iastore, 1) := by decide +kernel
theorem dX4_init_19 : decode cX4_init 19 = .ok (.dup, 1) := by decide +kernel
theorem dX4_init_20 : decode cX4_init 20 = .ok (.iconst 1, 1) := by decide +kernel
theorem dX4_init_21 : decode cX4_init 21 = .ok (.iconst 0, 1) := by decide +kernel
theorem dX4_init_22 : decode cX4_init 22 = .ok (.iastore, 1) := by decide +kernel
theorem dX4_init_23 : decode cX4_init 23 = .ok (.dup, 1) := by decide +kernel
theorem dX4_init_24 : decode cX4_init 24 = .ok (.iconst 2, 1) := by decide +kernel
theorem dX4_init_25 : decode cX4_init 25 = .ok (.iconst 0, 1) := by decide +kernel
theorem dX4_init_26 : decode cX4_init 26 = .ok (.iastore, 1) := by decide +kernel
theorem dX4_init_27 : decode cX4_init 27 = .ok (.dup, 1) := by decide +kernel
theorem dX4_init_28 : decode cX4_init 28 = .ok (.iconst 3, 1) := by decide +kernel
theorem dX4_init_29 : decode cX4_init 29 = .ok (.iconst 0, 1) := by decide +kernel
theorem dX4_init_30 : decode cX4_init 30 = .ok (.iastore, 1) := by decide +kernel
theorem dX4_init_31 : decode cX4_init 31 = .ok (.dup, 1) := by decide +kernel
theorem dX4_init_32 : decode cX4_init 32 = .ok (.iconst 4, 1) := by decide +kernel
theorem dX4_init_33 : decode cX4_init 33 = .ok (.iconst 0, 1) := by decide +kernel
theorem dX4_init_34 : decode cX4_init 34 = .ok (.iastore, 1) := by decide +kernel
theorem dX4_init_35 : decode cX4_init 35 = .ok (.dup, 1) := by decide +kernel
theorem dX4_init_36 : decode cX4_init 36 = .ok (.iconst 5, 1) := by decide +kernel
theorem dX4_init_37 : decode cX4_init 37 = .ok (.iconst 0, 1) := by decide +kernel
theorem dX4_init_38 : decode cX4_init 38 = .ok (.iastore, 1) := by decide +kernel
theorem dX4_init_39 : decode cX4_init 39 = .ok (.putfield 13, 3) := by decide +kernel
theorem dX4_init_42 : decode cX4_init 42 = .ok (.aload_n 0, 1) := by decide +kernel
theorem dX4_init_43 : decode cX4_init 43 = .ok (.bipush 6, 2) := by decide +kernel
theorem dX4_init_45 : decode cX4_init 45 = .ok (.newarray .int, 2) := by decide +kernel
theorem dX4_init_47 : decode cX4_init 47 = .ok (.dup, 1) := by decide +kernel
theorem dX4_init_48 : decode cX4_init 48 = .ok (.iconst 0, 1) := by decide +kernel
theorem dX4_init_49 : decode cX4_init 49 = .ok (.sipush 600, 3) := by decide +kernel
theorem dX4_init_52 : decode cX4_init 52 = .ok (.iastore, 1) := by decide +kernel
theorem dX4_init_53 : decode cX4_init 53 = .ok (.dup, 1) := by decide +kernel
theorem dX4_init_54 : decode cX4_init 54 = .ok (.iconst 1, 1) := by decide +kernel
theorem dX4_init_55 : decode cX4_init 55 = .ok (.iconst 0, 1) := by decide +kernel
theorem dX4_init_56 : decode cX4_init 56 = .ok (.iastore, 1) := by decide +kernel
theorem dX4_init_57 : decode cX4_init 57 = .ok (.dup, 1) := by decide +kernel
theorem dX4_init_58 : decode cX4_init 58 = .ok (.iconst 2, 1) := by decide +kernel
theorem dX4_init_59 : decode cX4_init 59 = .ok (.iconst 0, 1) := by decide +kernel
theorem dX4_init_60 : decode cX4_init 60 = .ok (.iastore, 1) := by decide +kernel
theorem dX4_init_61 : decode cX4_init 61 = .ok (.dup, 1) := by decide +kernel
theorem dX4_init_62 : decode cX4_init 62 = .ok (.iconst 3, 1) := by decide +kernel
theorem dX4_init_63 : decode cX4_init 63 = .ok (.iconst 0, 1) := by decide +kernel
theorem dX4_init_64 : decode cX4_init 64 = .ok (.iastore, 1) := by decide +kernel
theorem dX4_init_65 : decode cX4_init 65 = .ok (.dup, 1) := by decide +kernel
theorem dX4_init_66 : decode cX4_init 66 = .ok (.iconst 4, 1) := by decide +kernel
theorem dX4_init_67 : decode cX4_init 67 = .ok (.iconst 0, 1) := by decide +kernel
theorem dX4_init_68 : decode cX4_init 68 = .ok (.iastore, 1) := by decide +kernel
theorem dX4_init_69 : decode cX4_init 69 = .ok (.dup, 1) := by decide +kernel
theorem dX4_init_70 : decode cX4_init 70 = .ok (.iconst 5, 1) := by decide +kernel
theorem dX4_init_71 : decode cX4_init 71 = .ok (.iconst 0, 1) := by decide +kernel
theorem dX4_init_72 : decode cX4_init 72 = .ok (.iastore, 1) := by decide +kernel
theorem dX4_init_73 : decode cX4_init 73 = .ok (.putfield 17, 3) := by decide +kernel
theorem dX4_init_76 : decode cX4_init 76 = .ok (.aload_n 0, 1) := by decide +kernel
theorem dX4_init_77 : decode cX4_init 77 = .ok (.bipush 6, 2) := by decide +kernel
theorem dX4_init_79 : decode cX4_init 79 = .ok (.newarray .int, 2) := by decide +kernel
theorem dX4_init_81 : decode cX4_init 81 = .ok (.dup, 1) := by decide +kernel
theorem dX4_init_82 : decode cX4_init 82 = .ok (.iconst 0, 1) := by decide +kernel
theorem dX4_init_83 : decode cX4_init 83 = .ok (.bipush 30, 2) := by decide +kernel
theorem dX4_init_85 : decode cX4_init 85 = .ok (.iastore, 1) := by decide +kernel
theorem dX4_init_86 : decode cX4_init 86 = .ok (.dup, 1) := by decide +kernel
theorem dX4_init_87 : decode cX4_init 87 = .ok (.iconst 1, 1) := by decide +kernel
theorem dX4_init_88 : decode cX4_init 88 = .ok (.iconst 0, 1) := by decide +kernel
theorem dX4_init_89 : decode cX4_init 89 = .ok (.iastore, 1) := by decide +kernel
theorem dX4_init_90 : decode cX4_init 90 = .ok (.dup, 1) := by decide +kernel
theorem dX4_init_91 : decode cX4_init 91 = .ok (.iconst 2, 1) := by decide +kernel
theorem dX4_init_92 : decode cX4_init 92 = .ok (.iconst 0, 1) := by decide +kernel
theorem dX4_init_93 : decode cX4_init 93 = .ok (.iastore, 1) := by decide +kernel
theorem dX4_init_94 : decode cX4_init 94 = .ok (.dup, 1) := by decide +kernel
theorem dX4_init_95 : decode cX4_init 95 = .ok (.iconst 3, 1) := by decide +kernel
theorem dX4_init_96 : decode cX4_init 96 = .ok (.iconst 0, 1) := by decide +kernel
theorem dX4_init_97 : decode cX4_init 97 = .ok (.iastore, 1) := by decide +kernel
theorem dX4_init_98 : decode cX4_init 98 = .ok (.dup, 1) := by decide +kernel
theorem dX4_init_99 : decode cX4_init 99 = .ok (.iconst 4, 1) := by decide +kernel
theorem dX4_init_100 : decode cX4_init 100 = .ok (.iconst 0, 1) := by decide +kernel
theorem dX4_init_101 : decode cX4_init 101 = .ok (.iastore, 1) := by decide +kernel
theorem dX4_init_102 : decode cX4_init 102 = .ok (.dup, 1) := by decide +kernel
theorem dX4_init_103 : decode cX4_init 103 = .ok (.iconst 5, 1) := by decide +kernel
theorem dX4_init_104 : decode cX4_init 104 = .ok (.iconst 0, 1) := by decide +kernel
theorem dX4_init_105 : decode cX4_init 105 = .ok (.iastore, 1) := by decide +kernel
theorem dX4_init_106 : decode cX4_init 106 = .ok (.putfield 20, 3) := by decide +kernel
theorem dX4_init_109 : decode cX4_init 109 = .ok (.aload_n 0, 1) := by decide +kernel
theorem dX4_init_110 : decode cX4_init 110 = .ok (.bipush 6, 2) := by decide +kernel
theorem dX4_init_112 : decode cX4_init 112 = .ok (.newarray .int, 2) := by decide +kernel
theorem dX4_init_114 : decode cX4_init 114 = .ok (.dup, 1) := by decide +kernel
theorem dX4_init_115 : decode cX4_init 115 = .ok (.iconst 0, 1) := by decide +kernel
theorem dX4_init_116 : decode cX4_init 116 = .ok (.bipush 100, 2) := by decide +kernel
theorem dX4_init_118 : decode cX4_init 118 = .ok (.iastore, 1) := by decide +kernel
theorem dX4_init_119 : decode cX4_init 119 = .ok (.dup, 1) := by decide +kernel
theorem dX4_init_120 : decode cX4_init 120 = .ok (.iconst 1, 1) := by decide +kernel
theorem dX4_init_121 : decode cX4_init 121 = .ok (.iconst 0, 1) := by decide +kernel
theorem dX4_init_122 : decode cX4_init 122 = .ok (.iastore, 1) := by decide +kernel
theorem dX4_init_123 : decode cX4_init 123 = .ok (.dup, 1) := by decide +kernel
theorem dX4_init_124 : decode cX4_init 124 = .ok (.iconst 2, 1) := by decide +kernel
theorem dX4_init_125 : decode cX4_init 125 = .ok (.iconst 0, 1) := by decide +kernel
theorem dX4_init_126 : decode cX4_init 126 = .ok (.iastore, 1) := by decide +kernel
theorem dX4_init_127 : decode cX4_init 127 = .ok (.dup, 1) := by decide +kernel
theorem dX4_init_128 : decode cX4_init 128 = .ok (.iconst 3, 1) := by decide +kernel
theorem dX4_init_129 : decode cX4_init 129 = .ok (.iconst 0, 1) := by decide +kernel
theorem dX4_init_130 : decode cX4_init 130 = .ok (.iastore, 1) := by decide +kernel
theorem dX4_init_131 : decode cX4_init 131 = .ok (.dup, 1) := by decide +kernel
theorem dX4_init_132 : decode cX4_init 132 = .ok (.iconst 4, 1) := by decide +kernel
theorem dX4_init_133 : decode cX4_init 133 = .ok (.iconst 0, 1) := by decide +kernel
theorem dX4_init_134 : decode cX4_init 134 = .ok (.iastore, 1) := by decide +kernel
theorem dX4_init_135 : decode cX4_init 135 = .ok (.dup, 1) := by decide +kernel
theorem dX4_init_136 : decode cX4_init 136 = .ok (.iconst 5, 1) := by decide +kernel
theorem dX4_init_137 : decode cX4_init 137 = .ok (.iconst 0, 1) := by decide +kernel
theorem dX4_init_138 : decode cX4_init 138 = .ok (.iastore, 1) := by decide +kernel
theorem dX4_init_139 : decode cX4_init 139 = .ok (.putfield 23, 3) := by decide +kernel
theorem dX4_init_142 : decode cX4_init 142 = .ok (.aload_n 0, 1) := by decide +kernel
theorem dX4_init_143 : decode cX4_init 143 = .ok (.iconst 5, 1) := by decide +kernel
theorem dX4_init_144 : decode cX4_init 144 = .ok (.newarray .int, 2) := by decide +kernel
theorem dX4_init_146 : decode cX4_init 146 = .ok (.putfield 26, 3) := by decide +kernel
theorem dX4_init_149 : decode cX4_init 149 = .ok (.aload_n 0, 1) := by decide +kernel
theorem dX4_init_150 : decode cX4_init 150 = .ok (.iconst 5, 1) := by decide +kernel
theorem dX4_init_151 : decode cX4_init 151 = .ok (.newarray .int, 2) := by decide +kernel
theorem dX4_init_153 : decode cX4_init 153 = .ok (.putfield 29, 3) := by decide +kernel
theorem dX4_init_156 : decode cX4_init 156 = .ok (.aload_n 0, 1) := by decide +kernel
theorem dX4_init_157 : decode cX4_init 157 = .ok (.iconst 5, 1) := by decide +kernel
theorem dX4_init_158 : decode cX4_init 158 = .ok (.newarray .int, 2) := by decide +kernel
theorem dX4_init_160 : decode cX4_init 160 = .ok (.putfield 32, 3) := by decide +kernel
theorem dX4_init_163 : decode cX4_init 163 = .ok (.aload_n 0, 1) := by decide +kernel
theorem dX4_init_164 : decode cX4_init 164 = .ok (.iconst 5, 1) := by decide +kernel
theorem dX4_init_165 : decode cX4_init 165 = .ok (.newarray .int, 2) := by decide +kernel
theorem dX4_init_167 : decode cX4_init 167 = .ok (.putfield 35, 3) := by decide +kernel
theorem dX4_init_170 : decode cX4_init 170 = .ok (.aload_n 0, 1) := by decide +kernel
theorem dX4_init_171 : decode cX4_init 171 = .ok (.iconst 5, 1) := by decide +kernel
theorem dX4_init_172 : decode cX4_init 172 = .ok (.newarray .boolean, 2) := by decide +kernel
theorem dX4_init_174 : decode cX4_init 174 = .ok (.putfield 38, 3) := by decide +kernel
theorem dX4_init_177 : decode cX4_init 177 = .ok (.aload_n 0, 1) := by decide +kernel
theorem dX4_init_178 : decode cX4_init 178 = .ok (.bipush 8, 2) := by decide +kernel
theorem dX4_init_180 : decode cX4_init 180 = .ok (.newarray .int, 2) := by decide +kernel
theorem dX4_init_182 : decode cX4_init 182 = .ok (.putfield 42, 3) := by decide +kernel
theorem dX4_init_185 : decode cX4_init 185 = .ok (.aload_n 0, 1) := by decide +kernel
theorem dX4_init_186 : decode cX4_init 186 = .ok (.bipush 8, 2) := by decide +kernel
theorem dX4_init_188 : decode cX4_init 188 = .ok (.newarray .int, 2) := by decide +kernel
theorem dX4_init_190 : decode cX4_init 190 = .ok (.putfield 45, 3) := by decide +kernel
theorem dX4_init_193 : decode cX4_init 193 = .ok (.aload_n 0, 1) := by decide +kernel
theorem dX4_init_194 : decode cX4_init 194 = .ok (.bipush 8, 2) := by decide +kernel
theorem dX4_init_196 : decode cX4_init 196 = .ok (.newarray .int, 2) := by decide +kernel
theorem dX4_init_198 : decode cX4_init 198 = .ok (.putfield 48, 3) := by decide +kernel
theorem dX4_init_201 : decode cX4_init 201 = .ok (.aload_n 0, 1) := by decide +kernel
theorem dX4_init_202 : decode cX4_init 202 = .ok (.bipush 8, 2) := by decide +kernel
theorem dX4_init_204 : decode cX4_init 204 = .ok (.newarray .int, 2) := by decide +kernel
theorem dX4_init_206 : decode cX4_init 206 = .ok (.putfield 51, 3) := by decide +kernel
theorem dX4_init_209 : decode cX4_init 209 = .ok (.aload_n 0, 1) := by decide +kernel
theorem dX4_init_210 : decode cX4_init 210 = .ok (.bipush 8, 2) := by decide +kernel
theorem dX4_init_212 : decode cX4_init 212 = .ok (.newarray .int, 2) := by decide +kernel
theorem dX4_init_214 : decode cX4_init 214 = .ok (.putfield 54, 3) := by decide +kernel
theorem dX4_init_217 : decode cX4_init 217 = .ok (.aload_n 0, 1) := by decide +kernel
theorem dX4_init_218 : decode cX4_init 218 = .ok (.bipush 8, 2) := by decide +kernel
theorem dX4_init_220 : decode cX4_init 220 = .ok (.newarray .int, 2) := by decide +kernel
theorem dX4_init_222 : decode cX4_init 222 = .ok (.putfield 57, 3) := by decide +kernel
theorem dX4_init_225 : decode cX4_init 225 = .ok (.aload_n 0, 1) := by decide +kernel
theorem dX4_init_226 : decode cX4_init 226 = .ok (.bipush 8, 2) := by decide +kernel
theorem dX4_init_228 : decode cX4_init 228 = .ok (.newarray .int, 2) := by decide +kernel
theorem dX4_init_230 : decode cX4_init 230 = .ok (.putfield 60, 3) := by decide +kernel
theorem dX4_init_233 : decode cX4_init 233 = .ok (.aload_n 0, 1) := by decide +kernel
theorem dX4_init_234 : decode cX4_init 234 = .ok (.ldc2_w 63, 3) := by decide +kernel
theorem dX4_init_237 : decode cX4_init 237 = .ok (.putfield 65, 3) := by decide +kernel
theorem dX4_init_240 : decode cX4_init 240 = .ok (.aload_n 0, 1) := by decide +kernel
theorem dX4_init_241 : decode cX4_init 241 = .ok (.sipush 600, 3) := by decide +kernel
theorem dX4_init_244 : decode cX4_init 244 = .ok (.putfield 69, 3) := by decide +kernel
theorem dX4_init_247 : decode cX4_init 247 = .ok (.aload_n 0, 1) := by decide +kernel
theorem dX4_init_248 : decode cX4_init 248 = .ok (.iconst 1, 1) := by decide +kernel
theorem dX4_init_249 : decode cX4_init 249 = .ok (.putfield 72, 3) := by decide +kernel
theorem dX4_init_252 : decode cX4_init 252 = .ok (.aload_n 0, 1) := by decide +kernel
theorem dX4_init_253 : decode cX4_init 253 = .ok (.ldc 75, 2) := by decide +kernel
theorem dX4_init_255 : decode cX4_init 255 = .ok (.newarray .int, 2) := by decide +kernel
theorem dX4_init_257 : decode cX4_init 257 = .ok (.putfield 76, 3) := by decide +kernel
theorem dX4_init_260 : decode cX4_init 260 = .ok (.aload_n 0, 1) := by decide +kernel
theorem dX4_init_261 : decode cX4_init 261 = .ok (.ldc 75, 2) := by decide +kernel
theorem dX4_init_263 : decode cX4_init 263 = .ok (.newarray .int, 2) := by decide +kernel
theorem dX4_init_265 : decode cX4_init 265 = .ok (.putfield 79, 3) := by decide +kernel
theorem dX4_init_268 : decode cX4_init 268 = .ok (.aload_n 0, 1) := by decide +kernel
theorem dX4_init_269 : decode cX4_init 269 = .ok (.ldc 75, 2) := by decide +kernel
theorem dX4_init_271 : decode cX4_init 271 = .ok (.newarray .int, 2) := by decide +kernel
theorem dX4_init_273 : decode cX4_init 273 = .ok (.putfield 82, 3) := by decide +kernel
theorem dX4_init_276 : decode cX4_init 276 = .ok (.aload_n 0, 1) := by decide +kernel
theorem dX4_init_277 : decode cX4_init 277 = .ok (.bipush 6, 2) := by decide +kernel
theorem dX4_init_279 : decode cX4_init 279 = .ok (.newarray .int, 2) := by decide +kernel
theorem dX4_init_281 : decode cX4_init 281 = .ok (.putfield 85, 3) := by decide +kernel
theorem dX4_init_284 : decode cX4_init 284 = .ok (.aload_n 0, 1) := by decide +kernel
theorem dX4_init_285 : decode cX4_init 285 = .ok (.iconst 5, 1) := by decide +kernel
theorem dX4_init_286 : decode cX4_init 286 = .ok (.newarray .int, 2) := by decide +kernel
theorem dX4_init_288 : decode cX4_init 288 = .ok (.putfield 88, 3) := by decide +kernel
theorem dX4_init_291 : decode cX4_init 291 = .ok (.aload_n 0, 1) := by decide +kernel
theorem dX4_init_292 : decode cX4_init 292 = .ok (.bipush 8, 2) := by decide +kernel
theorem dX4_init_294 : decode cX4_init 294 = .ok (.newarray .int, 2) := by decide +kernel
theorem dX4_init_296 : decode cX4_init 296 = .ok (.putfield 91, 3) := by decide +kernel
theorem dX4_init_299 : decode cX4_init 299 = .ok (.aload_n 0, 1) := by decide +kernel
theorem dX4_init_300 : decode cX4_init 300 = .ok (.iconst 5, 1) := by decide +kernel
theorem dX4_init_301 : decode cX4_init 301 = .ok (.newarray .boolean, 2) := by decide +kernel
theorem dX4_init_303 : decode cX4_init 303 = .ok (.putfield 94, 3) := by decide +kernel
theorem dX4_init_306 : decode cX4_init 306 = .ok (.aload_n 0, 1) := by decide +kernel
theorem dX4_init_307 : decode cX4_init 307 = .ok (.bipush 40, 2) := by decide +kernel
theorem dX4_init_309 : decode cX4_init 309 = .ok (.newarray .char, 2) := by decide +kernel
theorem dX4_init_311 : decode cX4_init 311 = .ok (.putfield 97, 3) := by decide +kernel
theorem dX4_init_314 : decode cX4_init 314 = .ok (.aload_n 0, 1) := by decide +kernel
theorem dX4_init_315 : decode cX4_init 315 = .ok (.getfield 76, 3) := by decide +kernel
theorem dX4_init_318 : decode cX4_init 318 = .ok (.iconst 0, 1) := by decide +kernel
theorem dX4_init_319 : decode cX4_init 319 = .ok (.iconst (-1), 1) := by decide +kernel
theorem dX4_init_320 : decode cX4_init 320 = .ok (.iastore, 1) := by decide +kernel
theorem dX4_init_321 : decode cX4_init 321 = .ok (.aload_n 0, 1) := by decide +kernel
theorem dX4_init_322 : decode cX4_init 322 = .ok (.getfield 82, 3) := by decide +kernel
theorem dX4_init_325 : decode cX4_init 325 = .ok (.iconst 0, 1) := by decide +kernel
theorem dX4_init_326 : decode cX4_init 326 = .ok (.sipush 600, 3) := by decide +kernel
theorem dX4_init_329 : decode cX4_init 329 = .ok (.iastore, 1) := by decide +kernel
theorem dX4_init_330 : decode cX4_init 330 = .ok (.return_, 1) := by decide +kernel
theorem dX4_thrown_0 : decode cX4_thrown 0 = .ok (.aload_n 0, 1) := by decide +kernel
theorem dX4_thrown_1 : decode cX4_thrown 1 = .ok (.getfield 101, 3) := by decide +kernel
theorem dX4_thrown_4 : decode cX4_thrown 4 = .ok (.ireturn, 1) := by decide +kernel
theorem dX4_in_0 : decode cX4_in 0 = .ok (.iload_n 0, 1) := by decide +kernel
theorem dX4_in_1 : decode cX4_in 1 = .ok (.iload_n 1, 1) := by decide +kernel
theorem dX4_in_2 : decode cX4_in 2 = .ok (.if_icmp .lt 12, 3) := by decide +kernel
theorem dX4_in_5 : decode cX4_in 5 = .ok (.iload_n 0, 1) := by decide +kernel
theorem dX4_in_6 : decode cX4_in 6 = .ok (.iload_n 2, 1) := by decide +kernel
theorem dX4_in_7 : decode cX4_in 7 = .ok (.if_icmp .gt 7, 3) := by decide +kernel
theorem dX4_in_10 : decode cX4_in 10 = .ok (.iconst 1, 1) := by decide +kernel
theorem dX4_in_11 : decode cX4_in 11 = .ok (.goto 4, 3) := by decide +kernel
theorem dX4_in_14 : decode cX4_in 14 = .ok (.iconst 0, 1) := by decide +kernel
theorem dX4_in_15 : decode cX4_in 15 = .ok (.ireturn, 1) := by decide +kernel
theorem dX4_fails_0 : decode cX4_fails 0 = .ok (.aload_n 0, 1) := by decide +kernel
theorem dX4_fails_1 : decode cX4_fails 1 = .ok (.iload_n 1, 1) := by decide +kernel
theorem dX4_fails_2 : decode cX4_fails 2 = .ok (.putfield 101, 3) := by decide +kernel
theorem dX4_fails_5 : decode cX4_fails 5 = .ok (.iconst 0, 1) := by decide +kernel
theorem dX4_fails_6 : decode cX4_fails 6 = .ok (.ireturn, 1) := by decide +kernel
theorem dX4_tells_0 : decode cX4_tells 0 = .ok (.aload_n 0, 1) := by decide +kernel
theorem dX4_tells_1 : decode cX4_tells 1 = .ok (.iconst 0, 1) := by decide +kernel
theorem dX4_tells_2 : decode cX4_tells 2 = .ok (.putfield 101, 3) := by decide +kernel
theorem dX4_tells_5 : decode cX4_tells 5 = .ok (.iload_n 1, 1) := by decide +kernel
theorem dX4_tells_6 : decode cX4_tells 6 = .ok (.ireturn, 1) := by decide +kernel
theorem dX4_isReach_0 : decode cX4_isReach 0 = .ok (.iload_n 1, 1) := by decide +kernel
theorem dX4_isReach_1 : decode cX4_isReach 1 = .ok (.iconst 0, 1) := by decide +kernel
theorem dX4_isReach_2 : decode cX4_isReach 2 = .ok (.aload_n 0, 1) := by decide +kernel
theorem dX4_isReach_3 : decode cX4_isReach 3 = .ok (.getfield 7, 3) := by decide +kernel
theorem dX4_isReach_6 : decode cX4_isReach 6 = .ok (.iconst 1, 1) := by decide +kernel
theorem dX4_isReach_7 : decode cX4_isReach 7 = .ok (.isub, 1) := by decide +kernel
theorem dX4_isReach_8 : decode cX4_isReach 8 = .ok (.invokestatic 104, 3) := by decide +kernel
theorem dX4_isReach_11 : decode cX4_isReach 11 = .ok (.ireturn, 1) := by decide +kernel
theorem dX4_isLock_0 : decode cX4_isLock 0 = .ok (.iload_n 1, 1) := by decide +kernel
theorem dX4_isLock_1 : decode cX4_isLock 1 = .ok (.iconst 0, 1) := by decide +kernel
theorem dX4_isLock_2 : decode cX4_isLock 2 = .ok (.aload_n 0, 1) := by decide +kernel
theorem dX4_isLock_3 : decode cX4_isLock 3 = .ok (.getfield 7, 3) := by decide +kernel
theorem dX4_isLock_6 : decode cX4_isLock 6 = .ok (.iconst 2, 1) := by decide +kernel
theorem dX4_isLock_7 : decode cX4_isLock 7 = .ok (.isub, 1) := by decide +kernel
theorem dX4_isLock_8 : decode cX4_isLock 8 = .ok (.invokestatic 104, 3) := by decide +kernel
theorem dX4_isLock_11 : decode cX4_isLock 11 = .ok (.ireturn, 1) := by decide +kernel
theorem dX4_isBarge_0 : decode cX4_isBarge 0 = .ok (.iload_n 1, 1) := by decide +kernel
theorem dX4_isBarge_1 : decode cX4_isBarge 1 = .ok (.iconst 0, 1) := by decide +kernel
theorem dX4_isBarge_2 : decode cX4_isBarge 2 = .ok (.aload_n 0, 1) := by decide +kernel
theorem dX4_isBarge_3 : decode cX4_isBarge 3 = .ok (.getfield 108, 3) := by decide +kernel
theorem dX4_isBarge_6 : decode cX4_isBarge 6 = .ok (.iconst 1, 1) := by decide +kernel
theorem dX4_isBarge_7 : decode cX4_isBarge 7 = .ok (.isub, 1) := by decide +kernel
theorem dX4_isBarge_8 : decode cX4_isBarge 8 = .ok (.invokestatic 104, 3) := by decide +kernel
theorem dX4_isBarge_11 : decode cX4_isBarge 11 = .ok (.ireturn, 1) := by decide +kernel
theorem dX4_level_0 : decode cX4_level 0 = .ok (.aload_n 0, 1) := by decide +kernel
theorem dX4_level_1 : decode cX4_level 1 = .ok (.getfield 17, 3) := by decide +kernel
theorem dX4_level_4 : decode cX4_level 4 = .ok (.iload_n 1, 1) := by decide +kernel
theorem dX4_level_5 : decode cX4_level 5 = .ok (.iaload, 1) := by decide +kernel
theorem dX4_level_6 : decode cX4_level 6 = .ok (.aload_n 0, 1) := by decide +kernel
theorem dX4_level_7 : decode cX4_level 7 = .ok (.getfield 13, 3) := by decide +kernel
theorem dX4_level_10 : decode cX4_level 10 = .ok (.iload_n 1, 1) := by decide +kernel
theorem dX4_level_11 : decode cX4_level 11 = .ok (.iaload, 1) := by decide +kernel
theorem dX4_level_12 : decode cX4_level 12 = .ok (.idiv, 1) := by decide +kernel
theorem dX4_level_13 : decode cX4_level 13 = .ok (.ireturn, 1) := by decide +kernel
theorem dX4_records_0 : decode cX4_records 0 = .ok (.iload_n 3, 1) := by decide +kernel
theorem dX4_records_1 : decode cX4_records 1 = .ok (.iconst 1, 1) := by decide +kernel
theorem dX4_records_2 : decode cX4_records 2 = .ok (.if_icmp .ge 4, 3) := by decide +kernel
theorem dX4_records_5 : decode cX4_records 5 = .ok (.return_, 1) := by decide +kernel
theorem dX4_records_6 : decode cX4_records 6 = .ok (.aload_n 0, 1) := by decide +kernel
theorem dX4_records_7 : decode cX4_records 7 = .ok (.getfield 76, 3) := by decide +kernel
theorem dX4_records_10 : decode cX4_records 10 = .ok (.aload_n 0, 1) := by decide +kernel
theorem dX4_records_11 : decode cX4_records 11 = .ok (.getfield 72, 3) := by decide +kernel
theorem dX4_records_14 : decode cX4_records 14 = .ok (.iload_n 1, 1) := by decide +kernel
theorem dX4_records_15 : decode cX4_records 15 = .ok (.iastore, 1) := by decide +kernel
theorem dX4_records_16 : decode cX4_records 16 = .ok (.aload_n 0, 1) := by decide +kernel
theorem dX4_records_17 : decode cX4_records 17 = .ok (.getfield 79, 3) := by decide +kernel
theorem dX4_records_20 : decode cX4_records 20 = .ok (.aload_n 0, 1) := by decide +kernel
theorem dX4_records_21 : decode cX4_records 21 = .ok (.getfield 72, 3) := by decide +kernel
theorem dX4_records_24 : decode cX4_records 24 = .ok (.iload_n 2, 1) := by decide +kernel
theorem dX4_records_25 : decode cX4_records 25 = .ok (.iastore, 1) := by decide +kernel
theorem dX4_records_26 : decode cX4_records 26 = .ok (.aload_n 0, 1) := by decide +kernel
theorem dX4_records_27 : decode cX4_records 27 = .ok (.getfield 82, 3) := by decide +kernel
theorem dX4_records_30 : decode cX4_records 30 = .ok (.aload_n 0, 1) := by decide +kernel
theorem dX4_records_31 : decode cX4_records 31 = .ok (.getfield 72, 3) := by decide +kernel
theorem dX4_records_34 : decode cX4_records 34 = .ok (.iload_n 3, 1) := by decide +kernel
theorem dX4_records_35 : decode cX4_records 35 = .ok (.iastore, 1) := by decide +kernel
theorem dX4_records_36 : decode cX4_records 36 = .ok (.aload_n 0, 1) := by decide +kernel
theorem dX4_records_37 : decode cX4_records 37 = .ok (.dup, 1) := by decide +kernel
theorem dX4_records_38 : decode cX4_records 38 = .ok (.getfield 72, 3) := by decide +kernel
theorem dX4_records_41 : decode cX4_records 41 = .ok (.iconst 1, 1) := by decide +kernel
theorem dX4_records_42 : decode cX4_records 42 = .ok (.iadd, 1) := by decide +kernel
theorem dX4_records_43 : decode cX4_records 43 = .ok (.putfield 72, 3) := by decide +kernel
theorem dX4_records_46 : decode cX4_records 46 = .ok (.return_, 1) := by decide +kernel
theorem dX4_comes_0 : decode cX4_comes 0 = .ok (.iload_n 1, 1) := by decide +kernel
theorem dX4_comes_1 : decode cX4_comes 1 = .ok (.istore 4, 2) := by decide +kernel
theorem dX4_comes_3 : decode cX4_comes 3 = .ok (.iload_n 3, 1) := by decide +kernel
theorem dX4_comes_4 : decode cX4_comes 4 = .ok (.istore 5, 2) := by decide +kernel
theorem dX4_comes_6 : decode cX4_comes 6 = .ok (.iload_n 2, 1) := by decide +kernel
theorem dX4_comes_7 : decode cX4_comes 7 = .ok (.istore 6, 2) := by decide +kernel
theorem dX4_comes_9 : decode cX4_comes 9 = .ok (.iload 5, 2) := by decide +kernel
theorem dX4_comes_11 : decode cX4_comes 11 = .ok (.ifCond .le 103, 3) := by decide +kernel
theorem dX4_comes_14 : decode cX4_comes 14 = .ok (.iload 6, 2) := by decide +kernel
theorem dX4_comes_16 : decode cX4_comes 16 = .ok (.aload_n 0, 1) := by decide +kernel
theorem dX4_comes_17 : decode cX4_comes 17 = .ok (.getfield 7, 3) := by decide +kernel
theorem dX4_comes_20 : decode cX4_comes 20 = .ok (.if_icmp .ne 25, 3) := by decide +kernel
theorem dX4_comes_23 : decode cX4_comes 23 = .ok (.aload_n 0, 1) := by decide +kernel
theorem dX4_comes_24 : decode cX4_comes 24 = .ok (.iload 4, 2) := by decide +kernel
theorem dX4_comes_26 : decode cX4_comes 26 = .ok (.bipush (-2), 2) := by decide +kernel
theorem dX4_comes_28 : decode cX4_comes 28 = .ok (.iload 5, 2) := by decide +kernel
theorem dX4_comes_30 : decode cX4_comes 30 = .ok (.invokevirtual 111, 3) := by decide +kernel
theorem dX4_comes_33 : decode cX4_comes 33 = .ok (.aload_n 0, 1) := by decide +kernel
theorem dX4_comes_34 : decode cX4_comes 34 = .ok (.dup, 1) := by decide +kernel
theorem dX4_comes_35 : decode cX4_comes 35 = .ok (.getfield 115, 3) := by decide +kernel
theorem dX4_comes_38 : decode cX4_comes 38 = .ok (.iload 5, 2) := by decide +kernel
theorem dX4_comes_40 : decode cX4_comes 40 = .ok (.iadd, 1) := by decide +kernel
theorem dX4_comes_41 : decode cX4_comes 41 = .ok (.putfield 115, 3) := by decide +kernel
theorem dX4_comes_44 : decode cX4_comes 44 = .ok (.return_, 1) := by decide +kernel
theorem dX4_comes_45 : decode cX4_comes 45 = .ok (.aload_n 0, 1) := by decide +kernel
theorem dX4_comes_46 : decode cX4_comes 46 = .ok (.iload 4, 2) := by decide +kernel
theorem dX4_comes_48 : decode cX4_comes 48 = .ok (.iload 6, 2) := by decide +kernel
theorem dX4_comes_50 : decode cX4_comes 50 = .ok (.iload 5, 2) := by decide +kernel
theorem dX4_comes_52 : decode cX4_comes 52 = .ok (.invokevirtual 111, 3) := by decide +kernel
theorem dX4_comes_55 : decode cX4_comes 55 = .ok (.aload_n 0, 1) := by decide +kernel
theorem dX4_comes_56 : decode cX4_comes 56 = .ok (.getfield 17, 3) := by decide +kernel
theorem dX4_comes_59 : decode cX4_comes 59 = .ok (.iload 6, 2) := by decide +kernel
theorem dX4_comes_61 : decode cX4_comes 61 = .ok (.dup2, 1) := by decide +kernel
theorem dX4_comes_62 : decode cX4_comes 62 = .ok (.iaload, 1) := by decide +kernel
theorem dX4_comes_63 : decode cX4_comes 63 = .ok (.iload 5, 2) := by decide +kernel
theorem dX4_comes_65 : decode cX4_comes 65 = .ok (.iadd, 1) := by decide +kernel
theorem dX4_comes_66 : decode cX4_comes 66 = .ok (.iastore, 1) := by decide +kernel
theorem dX4_comes_67 : decode cX4_comes 67 = .ok (.iload 6, 2) := by decide +kernel
theorem dX4_comes_69 : decode cX4_comes 69 = .ok (.istore 4, 2) := by decide +kernel
theorem dX4_comes_71 : decode cX4_comes 71 = .ok (.aload_n 0, 1) := by decide +kernel
theorem dX4_comes_72 : decode cX4_comes 72 = .ok (.getfield 17, 3) := by decide +kernel
theorem dX4_comes_75 : decode cX4_comes 75 = .ok (.iload 6, 2) := by decide +kernel
theorem dX4_comes_77 : decode cX4_comes 77 = .ok (.iaload, 1) := by decide +kernel
theorem dX4_comes_78 : decode cX4_comes 78 = .ok (.bipush 60, 2) := by decide +kernel
theorem dX4_comes_80 : decode cX4_comes 80 = .ok (.aload_n 0, 1) := by decide +kernel
theorem dX4_comes_81 : decode cX4_comes 81 = .ok (.getfield 13, 3) := by decide +kernel
theorem dX4_comes_84 : decode cX4_comes 84 = .ok (.iload 6, 2) := by decide +kernel
theorem dX4_comes_86 : decode cX4_comes 86 = .ok (.iaload, 1) := by decide +kernel
theorem dX4_comes_87 : decode cX4_comes 87 = .ok (.imul, 1) := by decide +kernel
theorem dX4_comes_88 : decode cX4_comes 88 = .ok (.isub, 1) := by decide +kernel
theorem dX4_comes_89 : decode cX4_comes 89 = .ok (.istore 5, 2) := by decide +kernel
theorem dX4_comes_91 : decode cX4_comes 91 = .ok (.iload 5, 2) := by decide +kernel
theorem dX4_comes_93 : decode cX4_comes 93 = .ok (.ifCond .le 15, 3) := by decide +kernel
theorem dX4_comes_96 : decode cX4_comes 96 = .ok (.aload_n 0, 1) := by decide +kernel
theorem dX4_comes_97 : decode cX4_comes 97 = .ok (.getfield 17, 3) := by decide +kernel
theorem dX4_comes_100 : decode cX4_comes 100 = .ok (.iload 6, 2) := by decide +kernel
theorem dX4_comes_102 : decode cX4_comes 102 = .ok (.dup2, 1) := by decide +kernel
theorem dX4_comes_103 : decode cX4_comes 103 = .ok (.iaload, 1) := by decide +kernel
theorem dX4_comes_104 : decode cX4_comes 104 = .ok (.iload 5, 2) := by decide +kernel
theorem dX4_comes_106 : decode cX4_comes 106 = .ok (.isub, 1) := by decide +kernel
theorem dX4_comes_107 : decode cX4_comes 107 = .ok (.iastore, 1) := by decide +kernel
theorem dX4_comes_108 : decode cX4_comes 108 = .ok (.iinc 6 1, 3) := by decide +kernel
theorem dX4_comes_111 : decode cX4_comes 111 = .ok (.goto (-102), 3) := by decide +kernel
theorem dX4_comes_114 : decode cX4_comes 114 = .ok (.return_, 1) := by decide +kernel
theorem dX4_fills_0 : decode cX4_fills 0 = .ok (.aload_n 0, 1) := by decide +kernel
theorem dX4_fills_1 : decode cX4_fills 1 = .ok (.iload_n 1, 1) := by decide +kernel
theorem dX4_fills_2 : decode cX4_fills 2 = .ok (.bipush 10, 2) := by decide +kernel
theorem dX4_fills_4 : decode cX4_fills 4 = .ok (.iload_n 1, 1) := by decide +kernel
theorem dX4_fills_5 : decode cX4_fills 5 = .ok (.iadd, 1) := by decide +kernel
theorem dX4_fills_6 : decode cX4_fills 6 = .ok (.aload_n 0, 1) := by decide +kernel
theorem dX4_fills_7 : decode cX4_fills 7 = .ok (.getfield 26, 3) := by decide +kernel
theorem dX4_fills_10 : decode cX4_fills 10 = .ok (.iload_n 1, 1) := by decide +kernel
theorem dX4_fills_11 : decode cX4_fills 11 = .ok (.iaload, 1) := by decide +kernel
theorem dX4_fills_12 : decode cX4_fills 12 = .ok (.invokevirtual 111, 3) := by decide +kernel
theorem dX4_fills_15 : decode cX4_fills 15 = .ok (.aload_n 0, 1) := by decide +kernel
theorem dX4_fills_16 : decode cX4_fills 16 = .ok (.getfield 17, 3) := by decide +kernel
theorem dX4_fills_19 : decode cX4_fills 19 = .ok (.iload_n 1, 1) := by decide +kernel
theorem dX4_fills_20 : decode cX4_fills 20 = .ok (.dup2, 1) := by decide +kernel
theorem dX4_fills_21 : decode cX4_fills 21 = .ok (.iaload, 1) := by decide +kernel
theorem dX4_fills_22 : decode cX4_fills 22 = .ok (.aload_n 0, 1) := by decide +kernel
theorem dX4_fills_23 : decode cX4_fills 23 = .ok (.getfield 26, 3) := by decide +kernel
theorem dX4_fills_26 : decode cX4_fills 26 = .ok (.iload_n 1, 1) := by decide +kernel
theorem dX4_fills_27 : decode cX4_fills 27 = .ok (.iaload, 1) := by decide +kernel
theorem dX4_fills_28 : decode cX4_fills 28 = .ok (.isub, 1) := by decide +kernel
theorem dX4_fills_29 : decode cX4_fills 29 = .ok (.iastore, 1) := by decide +kernel
theorem dX4_fills_30 : decode cX4_fills 30 = .ok (.aload_n 0, 1) := by decide +kernel
theorem dX4_fills_31 : decode cX4_fills 31 = .ok (.getfield 38, 3) := by decide +kernel
theorem dX4_fills_34 : decode cX4_fills 34 = .ok (.iload_n 1, 1) := by decide +kernel
theorem dX4_fills_35 : decode cX4_fills 35 = .ok (.iconst 1, 1) := by decide +kernel
theorem dX4_fills_36 : decode cX4_fills 36 = .ok (.bastore, 1) := by decide +kernel
theorem dX4_fills_37 : decode cX4_fills 37 = .ok (.return_, 1) := by decide +kernel
theorem dX4_empties_0 : decode cX4_empties 0 = .ok (.aload_n 0, 1) := by decide +kernel
theorem dX4_empties_1 : decode cX4_empties 1 = .ok (.getfield 38, 3) := by decide +kernel
theorem dX4_empties_4 : decode cX4_empties 4 = .ok (.iload_n 1, 1) := by decide +kernel
theorem dX4_empties_5 : decode cX4_empties 5 = .ok (.iconst 0, 1) := by decide +kernel
theorem dX4_empties_6 : decode cX4_empties 6 = .ok (.bastore, 1) := by decide +kernel
theorem dX4_empties_7 : decode cX4_empties 7 = .ok (.aload_n 0, 1) := by decide +kernel
theorem dX4_empties_8 : decode cX4_empties 8 = .ok (.getfield 35, 3) := by decide +kernel
theorem dX4_empties_11 : decode cX4_empties 11 = .ok (.iload_n 1, 1) := by decide +kernel
theorem dX4_empties_12 : decode cX4_empties 12 = .ok (.dup2, 1) := by decide +kernel
theorem dX4_empties_13 : decode cX4_empties 13 = .ok (.iaload, 1) := by decide +kernel
theorem dX4_empties_14 : decode cX4_empties 14 = .ok (.aload_n 0, 1) := by decide +kernel
theorem dX4_empties_15 : decode cX4_empties 15 = .ok (.getfield 26, 3) := by decide +kernel
theorem dX4_empties_18 : decode cX4_empties 18 = .ok (.iload_n 1, 1) := by decide +kernel
theorem dX4_empties_19 : decode cX4_empties 19 = .ok (.iaload, 1) := by decide +kernel
theorem dX4_empties_20 : decode cX4_empties 20 = .ok (.iadd, 1) := by decide +kernel
theorem dX4_empties_21 : decode cX4_empties 21 = .ok (.iastore, 1) := by decide +kernel
theorem dX4_empties_22 : decode cX4_empties 22 = .ok (.aload_n 0, 1) := by decide +kernel
theorem dX4_empties_23 : decode cX4_empties 23 = .ok (.bipush 10, 2) := by decide +kernel
theorem dX4_empties_25 : decode cX4_empties 25 = .ok (.iload_n 1, 1) := by decide +kernel
theorem dX4_empties_26 : decode cX4_empties 26 = .ok (.iadd, 1) := by decide +kernel
theorem dX4_empties_27 : decode cX4_empties 27 = .ok (.iload_n 1, 1) := by decide +kernel
theorem dX4_empties_28 : decode cX4_empties 28 = .ok (.iconst 1, 1) := by decide +kernel
theorem dX4_empties_29 : decode cX4_empties 29 = .ok (.iadd, 1) := by decide +kernel
theorem dX4_empties_30 : decode cX4_empties 30 = .ok (.aload_n 0, 1) := by decide +kernel
theorem dX4_empties_31 : decode cX4_empties 31 = .ok (.getfield 26, 3) := by decide +kernel
theorem dX4_empties_34 : decode cX4_empties 34 = .ok (.iload_n 1, 1) := by decide +kernel
theorem dX4_empties_35 : decode cX4_empties 35 = .ok (.iaload, 1) := by decide +kernel
theorem dX4_empties_36 : decode cX4_empties 36 = .ok (.invokevirtual 118, 3) := by decide +kernel
theorem dX4_empties_39 : decode cX4_empties 39 = .ok (.return_, 1) := by decide +kernel
theorem dX4_addReach_0 : decode cX4_addReach 0 = .ok (.iload_n 1, 1) := by decide +kernel
theorem dX4_addReach_1 : decode cX4_addReach 1 = .ok (.iconst 1, 1) := by decide +kernel
theorem dX4_addReach_2 : decode cX4_addReach 2 = .ok (.bipush 50, 2) := by decide +kernel
theorem dX4_addReach_4 : decode cX4_addReach 4 = .ok (.invokestatic 104, 3) := by decide +kernel
theorem dX4_addReach_7 : decode cX4_addReach 7 = .ok (.ifCond .eq 48, 3) := by decide +kernel
theorem dX4_addReach_10 : decode cX4_addReach 10 = .ok (.iload_n 2, 1) := by decide +kernel
theorem dX4_addReach_11 : decode cX4_addReach 11 = .ok (.iconst 0, 1) := by decide +kernel
theorem dX4_addReach_12 : decode cX4_addReach 12 = .ok (.bipush 60, 2) := by decide +kernel
theorem dX4_addReach_14 : decode cX4_addReach 14 = .ok (.invokestatic 104, 3) := by decide +kernel
theorem dX4_addReach_17 : decode cX4_addReach 17 = .ok (.ifCond .eq 38, 3) := by decide +kernel
theorem dX4_addReach_20 : decode cX4_addReach 20 = .ok (.iload_n 3, 1) := by decide +kernel
theorem dX4_addReach_21 : decode cX4_addReach 21 = .ok (.iconst 1, 1) := by decide +kernel
theorem dX4_addReach_22 : decode cX4_addReach 22 = .ok (.sipush 200, 3) := by decide +kernel
theorem dX4_addReach_25 : decode cX4_addReach 25 = .ok (.invokestatic 104, 3) := by decide +kernel
theorem dX4_addReach_28 : decode cX4_addReach 28 = .ok (.ifCond .eq 27, 3) := by decide +kernel
theorem dX4_addReach_31 : decode cX4_addReach 31 = .ok (.iload 4, 2) := by decide +kernel
theorem dX4_addReach_33 : decode cX4_addReach 33 = .ok (.bipush 10, 2) := by decide +kernel
theorem dX4_addReach_35 : decode cX4_addReach 35 = .ok (.sipush 200, 3) := by decide +kernel
theorem dX4_addReach_38 : decode cX4_addReach 38 = .ok (.invokestatic 104, 3) := by decide +kernel
theorem dX4_addReach_41 : decode cX4_addReach 41 = .ok (.ifCond .eq 14, 3) := by decide +kernel
theorem dX4_addReach_44 : decode cX4_addReach 44 = .ok (.iload 5, 2) := by decide +kernel
theorem dX4_addReach_46 : decode cX4_addReach 46 = .ok (.iconst 5, 1) := by decide +kernel
theorem dX4_addReach_47 : decode cX4_addReach 47 = .ok (.bipush 60, 2) := by decide +kernel
theorem dX4_addReach_49 : decode cX4_addReach 49 = .ok (.invokestatic 104, 3) := by decide +kernel
theorem dX4_addReach_52 : decode cX4_addReach 52 = .ok (.ifCond .ne 9, 3) := by decide +kernel
theorem dX4_addReach_55 : decode cX4_addReach 55 = .ok (.aload_n 0, 1) := by decide +kernel
theorem dX4_addReach_56 : decode cX4_addReach 56 = .ok (.iconst 1, 1) := by decide +kernel
theorem dX4_addReach_57 : decode cX4_addReach 57 = .ok (.invokevirtual 121, 3) := by decide +kernel
theorem dX4_addReach_60 : decode cX4_addReach 60 = .ok (.ireturn, 1) := by decide +kernel
theorem dX4_addReach_61 : decode cX4_addReach 61 = .ok (.aload_n 0, 1) := by decide +kernel
theorem dX4_addReach_62 : decode cX4_addReach 62 = .ok (.getfield 7, 3) := by decide +kernel
theorem dX4_addReach_65 : decode cX4_addReach 65 = .ok (.bipush 6, 2) := by decide +kernel
theorem dX4_addReach_67 : decode cX4_addReach 67 = .ok (.if_icmp .ne 9, 3) := by decide +kernel
theorem dX4_addReach_70 : decode cX4_addReach 70 = .ok (.aload_n 0, 1) := by decide +kernel
theorem dX4_addReach_71 : decode cX4_addReach 71 = .ok (.iconst 2, 1) := by decide +kernel
theorem dX4_addReach_72 : decode cX4_addReach 72 = .ok (.invokevirtual 121, 3) := by decide +kernel
theorem dX4_addReach_75 : decode cX4_addReach 75 = .ok (.ireturn, 1) := by decide +kernel
theorem dX4_addReach_76 : decode cX4_addReach 76 = .ok (.aload_n 0, 1) := by decide +kernel
theorem dX4_addReach_77 : decode cX4_addReach 77 = .ok (.getfield 7, 3) := by decide +kernel
theorem dX4_addReach_80 : decode cX4_addReach 80 = .ok (.iconst 1, 1) := by decide +kernel
theorem dX4_addReach_81 : decode cX4_addReach 81 = .ok (.isub, 1) := by decide +kernel
theorem dX4_addReach_82 : decode cX4_addReach 82 = .ok (.istore 6, 2) := by decide +kernel
theorem dX4_addReach_84 : decode cX4_addReach 84 = .ok (.aload_n 0, 1) := by decide +kernel
theorem dX4_addReach_85 : decode cX4_addReach 85 = .ok (.getfield 26, 3) := by decide +kernel
theorem dX4_addReach_88 : decode cX4_addReach 88 = .ok (.iload 6, 2) := by decide +kernel
theorem dX4_addReach_90 : decode cX4_addReach 90 = .ok (.iload_n 3, 1) := by decide +kernel
theorem dX4_addReach_91 : decode cX4_addReach 91 = .ok (.iastore, 1) := by decide +kernel
theorem dX4_addReach_92 : decode cX4_addReach 92 = .ok (.aload_n 0, 1) := by decide +kernel
theorem dX4_addReach_93 : decode cX4_addReach 93 = .ok (.getfield 29, 3) := by decide +kernel
theorem dX4_addReach_96 : decode cX4_addReach 96 = .ok (.iload 6, 2) := by decide +kernel
theorem dX4_addReach_98 : decode cX4_addReach 98 = .ok (.iload 4, 2) := by decide +kernel
theorem dX4_addReach_100 : decode cX4_addReach 100 = .ok (.iastore, 1) := by decide +kernel
theorem dX4_addReach_101 : decode cX4_addReach 101 = .ok (.aload_n 0, 1) := by decide +kernel
theorem dX4_addReach_102 : decode cX4_addReach 102 = .ok (.getfield 32, 3) := by decide +kernel
theorem dX4_addReach_105 : decode cX4_addReach 105 = .ok (.iload 6, 2) := by decide +kernel
theorem dX4_addReach_107 : decode cX4_addReach 107 = .ok (.iload 5, 2) := by decide +kernel
theorem dX4_addReach_109 : decode cX4_addReach 109 = .ok (.iastore, 1) := by decide +kernel
theorem dX4_addReach_110 : decode cX4_addReach 110 = .ok (.aload_n 0, 1) := by decide +kernel
theorem dX4_addReach_111 : decode cX4_addReach 111 = .ok (.getfield 13, 3) := by decide +kernel
theorem dX4_addReach_114 : decode cX4_addReach 114 = .ok (.aload_n 0, 1) := by decide +kernel
theorem dX4_addReach_115 : decode cX4_addReach 115 = .ok (.getfield 7, 3) := by decide +kernel
theorem dX4_addReach_118 : decode cX4_addReach 118 = .ok (.iload_n 1, 1) := by decide +kernel
theorem dX4_addReach_119 : decode cX4_addReach 119 = .ok (.iastore, 1) := by decide +kernel
theorem dX4_addReach_120 : decode cX4_addReach 120 = .ok (.aload_n 0, 1) := by decide +kernel
theorem dX4_addReach_121 : decode cX4_addReach 121 = .ok (.getfield 20, 3) := by decide +kernel
theorem dX4_addReach_124 : decode cX4_addReach 124 = .ok (.aload_n 0, 1) := by decide +kernel
theorem dX4_addReach_125 : decode cX4_addReach 125 = .ok (.getfield 7, 3) := by decide +kernel
theorem dX4_addReach_128 : decode cX4_addReach 128 = .ok (.iload_n 2, 1) := by decide +kernel
theorem dX4_addReach_129 : decode cX4_addReach 129 = .ok (.iastore, 1) := by decide +kernel
theorem dX4_addReach_130 : decode cX4_addReach 130 = .ok (.aload_n 0, 1) := by decide +kernel
theorem dX4_addReach_131 : decode cX4_addReach 131 = .ok (.getfield 23, 3) := by decide +kernel
theorem dX4_addReach_134 : decode cX4_addReach 134 = .ok (.aload_n 0, 1) := by decide +kernel
theorem dX4_addReach_135 : decode cX4_addReach 135 = .ok (.getfield 7, 3) := by decide +kernel
theorem dX4_addReach_138 : decode cX4_addReach 138 = .ok (.bipush 100, 2) := by decide +kernel
theorem dX4_addReach_140 : decode cX4_addReach 140 = .ok (.iastore, 1) := by decide +kernel
theorem dX4_addReach_141 : decode cX4_addReach 141 = .ok (.aload_n 0, 1) := by decide +kernel
theorem dX4_addReach_142 : decode cX4_addReach 142 = .ok (.getfield 17, 3) := by decide +kernel
theorem dX4_addReach_145 : decode cX4_addReach 145 = .ok (.aload_n 0, 1) := by decide +kernel
theorem dX4_addReach_146 : decode cX4_addReach 146 = .ok (.getfield 7, 3) := by decide +kernel
theorem dX4_addReach_149 : decode cX4_addReach 149 = .ok (.iload_n 1, 1) := by decide +kernel
theorem dX4_addReach_150 : decode cX4_addReach 150 = .ok (.iload_n 2, 1) := by decide +kernel
theorem dX4_addReach_151 : decode cX4_addReach 151 = .ok (.imul, 1) := by decide +kernel
theorem dX4_addReach_152 : decode cX4_addReach 152 = .ok (.iastore, 1) := by decide +kernel
theorem dX4_addReach_153 : decode cX4_addReach 153 = .ok (.aload_n 0, 1) := by decide +kernel
theorem dX4_addReach_154 : decode cX4_addReach 154 = .ok (.dup, 1) := by decide +kernel
theorem dX4_addReach_155 : decode cX4_addReach 155 = .ok (.getfield 69, 3) := by decide +kernel
theorem dX4_addReach_158 : decode cX4_addReach 158 = .ok (.iload_n 1, 1) := by decide +kernel
theorem dX4_addReach_159 : decode cX4_addReach 159 = .ok (.iload_n 2, 1) := by decide +kernel
theorem dX4_addReach_160 : decode cX4_addReach 160 = .ok (.imul, 1) := by decide +kernel
theorem dX4_addReach_161 : decode cX4_addReach 161 = .ok (.iadd, 1) := by decide +kernel
theorem dX4_addReach_162 : decode cX4_addReach 162 = .ok (.putfield 69, 3) := by decide +kernel
theorem dX4_addReach_165 : decode cX4_addReach 165 = .ok (.aload_n 0, 1) := by decide +kernel
theorem dX4_addReach_166 : decode cX4_addReach 166 = .ok (.iconst (-1), 1) := by decide +kernel
theorem dX4_addReach_167 : decode cX4_addReach 167 = .ok (.aload_n 0, 1) := by decide +kernel
theorem dX4_addReach_168 : decode cX4_addReach 168 = .ok (.getfield 7, 3) := by decide +kernel
theorem dX4_addReach_171 : decode cX4_addReach 171 = .ok (.iload_n 1, 1) := by decide +kernel
theorem dX4_addReach_172 : decode cX4_addReach 172 = .ok (.iload_n 2, 1) := by decide +kernel
theorem dX4_addReach_173 : decode cX4_addReach 173 = .ok (.imul, 1) := by decide +kernel
theorem dX4_addReach_174 : decode cX4_addReach 174 = .ok (.invokevirtual 111, 3) := by decide +kernel
theorem dX4_addReach_177 : decode cX4_addReach 177 = .ok (.aload_n 0, 1) := by decide +kernel
theorem dX4_addReach_178 : decode cX4_addReach 178 = .ok (.dup, 1) := by decide +kernel
theorem dX4_addReach_179 : decode cX4_addReach 179 = .ok (.getfield 7, 3) := by decide +kernel
theorem dX4_addReach_182 : decode cX4_addReach 182 = .ok (.iconst 1, 1) := by decide +kernel
theorem dX4_addReach_183 : decode cX4_addReach 183 = .ok (.iadd, 1) := by decide +kernel
theorem dX4_addReach_184 : decode cX4_addReach 184 = .ok (.putfield 7, 3) := by decide +kernel
theorem dX4_addReach_187 : decode cX4_addReach 187 = .ok (.aload_n 0, 1) := by decide +kernel
theorem dX4_addReach_188 : decode cX4_addReach 188 = .ok (.aload_n 0, 1) := by decide +kernel
theorem dX4_addReach_189 : decode cX4_addReach 189 = .ok (.getfield 7, 3) := by decide +kernel
theorem dX4_addReach_192 : decode cX4_addReach 192 = .ok (.iconst 1, 1) := by decide +kernel
theorem dX4_addReach_193 : decode cX4_addReach 193 = .ok (.isub, 1) := by decide +kernel
theorem dX4_addReach_194 : decode cX4_addReach 194 = .ok (.invokevirtual 125, 3) := by decide +kernel
theorem dX4_addReach_197 : decode cX4_addReach 197 = .ok (.ireturn, 1) := by decide +kernel
theorem dX4_reachCount_0 : decode cX4_reachCount 0 = .ok (.aload_n 0, 1) := by decide +kernel
theorem dX4_reachCount_1 : decode cX4_reachCount 1 = .ok (.aload_n 0, 1) := by decide +kernel
theorem dX4_reachCount_2 : decode cX4_reachCount 2 = .ok (.getfield 7, 3) := by decide +kernel
theorem dX4_reachCount_5 : decode cX4_reachCount 5 = .ok (.invokevirtual 125, 3) := by decide +kernel
theorem dX4_reachCount_8 : decode cX4_reachCount 8 = .ok (.ireturn, 1) := by decide +kernel
theorem dX4_areaOf_0 : decode cX4_areaOf 0 = .ok (.aload_n 0, 1) := by decide +kernel
theorem dX4_areaOf_1 : decode cX4_areaOf 1 = .ok (.iload_n 1, 1) := by decide +kernel
theorem dX4_areaOf_2 : decode cX4_areaOf 2 = .ok (.invokevirtual 128, 3) := by decide +kernel
theorem dX4_areaOf_5 : decode cX4_areaOf 5 = .ok (.ifCond .eq 16, 3) := by decide +kernel
theorem dX4_areaOf_8 : decode cX4_areaOf 8 = .ok (.aload_n 0, 1) := by decide +kernel
theorem dX4_areaOf_9 : decode cX4_areaOf 9 = .ok (.aload_n 0, 1) := by decide +kernel
theorem dX4_areaOf_10 : decode cX4_areaOf 10 = .ok (.getfield 13, 3) := by decide +kernel
theorem dX4_areaOf_13 : decode cX4_areaOf 13 = .ok (.iload_n 1, 1) := by decide +kernel
theorem dX4_areaOf_14 : decode cX4_areaOf 14 = .ok (.iaload, 1) := by decide +kernel
theorem dX4_areaOf_15 : decode cX4_areaOf 15 = .ok (.invokevirtual 125, 3) := by decide +kernel
theorem dX4_areaOf_18 : decode cX4_areaOf 18 = .ok (.goto 8, 3) := by decide +kernel
theorem dX4_areaOf_21 : decode cX4_areaOf 21 = .ok (.aload_n 0, 1) := by decide +kernel
theorem dX4_areaOf_22 : decode cX4_areaOf 22 = .ok (.iconst 1, 1) := by decide +kernel
theorem dX4_areaOf_23 : decode cX4_areaOf 23 = .ok (.invokevirtual 121, 3) := by decide +kernel
theorem dX4_areaOf_26 : decode cX4_areaOf 26 = .ok (.ireturn, 1) := by decide +kernel
theorem dX4_volumeOf_0 : decode cX4_volumeOf 0 = .ok (.aload_n 0, 1) := by decide +kernel
theorem dX4_volumeOf_1 : decode cX4_volumeOf 1 = .ok (.iload_n 1, 1) := by decide +kernel
theorem dX4_volumeOf_2 : decode cX4_volumeOf 2 = .ok (.invokevirtual 128, 3) := by decide +kernel
theorem dX4_volumeOf_5 : decode cX4_volumeOf 5 = .ok (.ifCond .eq 16, 3) := by decide +kernel
theorem dX4_volumeOf_8 : decode cX4_volumeOf 8 = .ok (.aload_n 0, 1) := by decide +kernel
theorem dX4_volumeOf_9 : decode cX4_volumeOf 9 = .ok (.aload_n 0, 1) := by decide +kernel
theorem dX4_volumeOf_10 : decode cX4_volumeOf 10 = .ok (.getfield 17, 3) := by decide +kernel
theorem dX4_volumeOf_13 : decode cX4_volumeOf 13 = .ok (.iload_n 1, 1) := by decide +kernel
theorem dX4_volumeOf_14 : decode cX4_volumeOf 14 = .ok (.iaload, 1) := by decide +kernel
theorem dX4_volumeOf_15 : decode cX4_volumeOf 15 = .ok (.invokevirtual 125, 3) := by decide +kernel
theorem dX4_volumeOf_18 : decode cX4_volumeOf 18 = .ok (.goto 8, 3) := by decide +kernel
theorem dX4_volumeOf_21 : decode cX4_volumeOf 21 = .ok (.aload_n 0, 1) := by decide +kernel
theorem dX4_volumeOf_22 : decode cX4_volumeOf 22 = .ok (.iconst 1, 1) := by decide +kernel
theorem dX4_volumeOf_23 : decode cX4_volumeOf 23 = .ok (.invokevirtual 121, 3) := by decide +kernel
theorem dX4_volumeOf_26 : decode cX4_volumeOf 26 = .ok (.ireturn, 1) := by decide +kernel
theorem dX4_bySteps_0 : decode cX4_bySteps 0 = .ok (.iconst 0, 1) := by decide +kernel
theorem dX4_bySteps_1 : decode cX4_bySteps 1 = .ok (.istore_n 2, 1) := by decide +kernel
theorem dX4_bySteps_2 : decode cX4_bySteps 2 = .ok (.iconst 0, 1) := by decide +kernel
theorem dX4_bySteps_3 : decode cX4_bySteps 3 = .ok (.istore_n 3, 1) := by decide +kernel
theorem dX4_bySteps_4 : decode cX4_bySteps 4 = .ok (.iload_n 3, 1) := by decide +kernel
theorem dX4_bySteps_5 : decode cX4_bySteps 5 = .ok (.aload_n 0, 1) := by decide +kernel
theorem dX4_bySteps_6 : decode cX4_bySteps 6 = .ok (.getfield 72, 3) := by decide +kernel
theorem dX4_bySteps_9 : decode cX4_bySteps 9 = .ok (.if_icmp .ge 55, 3) := by decide +kernel
theorem dX4_bySteps_12 : decode cX4_bySteps 12 = .ok (.iload_n 2, 1) := by decide +kernel
theorem dX4_bySteps_13 : decode cX4_bySteps 13 = .ok (.aload_n 0, 1) := by decide +kernel
theorem dX4_bySteps_14 : decode cX4_bySteps 14 = .ok (.getfield 79, 3) := by decide +kernel
theorem dX4_bySteps_17 : decode cX4_bySteps 17 = .ok (.iload_n 3, 1) := by decide +kernel
theorem dX4_bySteps_18 : decode cX4_bySteps 18 = .ok (.iaload, 1) := by decide +kernel
theorem dX4_bySteps_19 : decode cX4_bySteps 19 = .ok (.iload_n 1, 1) := by decide +kernel
theorem dX4_bySteps_20 : decode cX4_bySteps 20 = .ok (.if_icmp .ne 12, 3) := by decide +kernel
theorem dX4_bySteps_23 : decode cX4_bySteps 23 = .ok (.aload_n 0, 1) := by decide +kernel
theorem dX4_bySteps_24 : decode cX4_bySteps 24 = .ok (.getfield 82, 3) := by decide +kernel
theorem dX4_bySteps_27 : decode cX4_bySteps 27 = .ok (.iload_n 3, 1) := by decide +kernel
theorem dX4_bySteps_28 : decode cX4_bySteps 28 = .ok (.iaload, 1) := by decide +kernel
theorem dX4_bySteps_29 : decode cX4_bySteps 29 = .ok (.goto 4, 3) := by decide +kernel
theorem dX4_bySteps_32 : decode cX4_bySteps 32 = .ok (.iconst 0, 1) := by decide +kernel
theorem dX4_bySteps_33 : decode cX4_bySteps 33 = .ok (.iadd, 1) := by decide +kernel
theorem dX4_bySteps_34 : decode cX4_bySteps 34 = .ok (.istore_n 2, 1) := by decide +kernel
theorem dX4_bySteps_35 : decode cX4_bySteps 35 = .ok (.iload_n 2, 1) := by decide +kernel
theorem dX4_bySteps_36 : decode cX4_bySteps 36 = .ok (.aload_n 0, 1) := by decide +kernel
theorem dX4_bySteps_37 : decode cX4_bySteps 37 = .ok (.getfield 76, 3) := by decide +kernel
theorem dX4_bySteps_40 : decode cX4_bySteps 40 = .ok (.iload_n 3, 1) := by decide +kernel
theorem dX4_bySteps_41 : decode cX4_bySteps 41 = .ok (.iaload, 1) := by decide +kernel
theorem dX4_bySteps_42 : decode cX4_bySteps 42 = .ok (.iload_n 1, 1) := by decide +kernel
theorem dX4_bySteps_43 : decode cX4_bySteps 43 = .ok (.if_icmp .ne 12, 3) := by decide +kernel
theorem dX4_bySteps_46 : decode cX4_bySteps 46 = .ok (.aload_n 0, 1) := by decide +kernel
theorem dX4_bySteps_47 : decode cX4_bySteps 47 = .ok (.getfield 82, 3) := by decide +kernel
theorem dX4_bySteps_50 : decode cX4_bySteps 50 = .ok (.iload_n 3, 1) := by decide +kernel
theorem dX4_bySteps_51 : decode cX4_bySteps 51 = .ok (.iaload, 1) := by decide +kernel
theorem dX4_bySteps_52 : decode cX4_bySteps 52 = .ok (.goto 4, 3) := by decide +kernel
theorem dX4_bySteps_55 : decode cX4_bySteps 55 = .ok (.iconst 0, 1) := by decide +kernel
theorem dX4_bySteps_56 : decode cX4_bySteps 56 = .ok (.isub, 1) := by decide +kernel
theorem dX4_bySteps_57 : decode cX4_bySteps 57 = .ok (.istore_n 2, 1) := by decide +kernel
theorem dX4_bySteps_58 : decode cX4_bySteps 58 = .ok (.iinc 3 1, 3) := by decide +kernel
theorem dX4_bySteps_61 : decode cX4_bySteps 61 = .ok (.goto (-57), 3) := by decide +kernel
theorem dX4_bySteps_64 : decode cX4_bySteps 64 = .ok (.iload_n 2, 1) := by decide +kernel
theorem dX4_bySteps_65 : decode cX4_bySteps 65 = .ok (.ireturn, 1) := by decide +kernel
theorem dX4_volumeBySteps_0 : decode cX4_volumeBySteps 0 = .ok (.aload_n 0, 1) := by decide +kernel
theorem dX4_volumeBySteps_1 : decode cX4_volumeBySteps 1 = .ok (.iload_n 1, 1) := by decide +kernel
theorem dX4_volumeBySteps_2 : decode cX4_volumeBySteps 2 = .ok (.invokevirtual 128, 3) := by decide +kernel
theorem dX4_volumeBySteps_5 : decode cX4_volumeBySteps 5 = .ok (.ifCond .eq 15, 3) := by decide +kernel
theorem dX4_volumeBySteps_8 : decode cX4_volumeBySteps 8 = .ok (.aload_n 0, 1) := by decide +kernel
theorem dX4_volumeBySteps_9 : decode cX4_volumeBySteps 9 = .ok (.aload_n 0, 1) := by decide +kernel
theorem dX4_volumeBySteps_10 : decode cX4_volumeBySteps 10 = .ok (.iload_n 1, 1) := by decide +kernel
theorem dX4_volumeBySteps_11 : decode cX4_volumeBySteps 11 = .ok (.invokevirtual 132, 3) := by decide +kernel
theorem dX4_volumeBySteps_14 : decode cX4_volumeBySteps 14 = .ok (.invokevirtual 125, 3) := by decide +kernel
theorem dX4_volumeBySteps_17 : decode cX4_volumeBySteps 17 = .ok (.goto 8, 3) := by decide +kernel
theorem dX4_volumeBySteps_20 : decode cX4_volumeBySteps 20 = .ok (.aload_n 0, 1) := by decide +kernel
theorem dX4_volumeBySteps_21 : decode cX4_volumeBySteps 21 = .ok (.iconst 1, 1) := by decide +kernel
theorem dX4_volumeBySteps_22 : decode cX4_volumeBySteps 22 = .ok (.invokevirtual 121, 3) := by decide +kernel
theorem dX4_volumeBySteps_25 : decode cX4_volumeBySteps 25 = .ok (.ireturn, 1) := by decide +kernel
theorem dX4_levelOf_0 : decode cX4_levelOf 0 = .ok (.aload_n 0, 1) := by decide +kernel
theorem dX4_levelOf_1 : decode cX4_levelOf 1 = .ok (.iload_n 1, 1) := by decide +kernel
theorem dX4_levelOf_2 : decode cX4_levelOf 2 = .ok (.invokevirtual 128, 3) := by decide +kernel
theorem dX4_levelOf_5 : decode cX4_levelOf 5 = .ok (.ifCond .eq 15, 3) := by decide +kernel
theorem dX4_levelOf_8 : decode cX4_levelOf 8 = .ok (.aload_n 0, 1) := by decide +kernel
theorem dX4_levelOf_9 : decode cX4_levelOf 9 = .ok (.aload_n 0, 1) := by decide +kernel
theorem dX4_levelOf_10 : decode cX4_levelOf 10 = .ok (.iload_n 1, 1) := by decide +kernel
theorem dX4_levelOf_11 : decode cX4_levelOf 11 = .ok (.invokevirtual 135, 3) := by decide +kernel
theorem dX4_levelOf_14 : decode cX4_levelOf 14 = .ok (.invokevirtual 125, 3) := by decide +kernel
theorem dX4_levelOf_17 : decode cX4_levelOf 17 = .ok (.goto 8, 3) := by decide +kernel
theorem dX4_levelOf_20 : decode cX4_levelOf 20 = .ok (.aload_n 0, 1) := by decide +kernel
theorem dX4_levelOf_21 : decode cX4_levelOf 21 = .ok (.iconst 1, 1) := by decide +kernel
theorem dX4_levelOf_22 : decode cX4_levelOf 22 = .ok (.invokevirtual 121, 3) := by decide +kernel
theorem dX4_levelOf_25 : decode cX4_levelOf 25 = .ok (.ireturn, 1) := by decide +kernel
theorem dX4_lockfulOf_0 : decode cX4_lockfulOf 0 = .ok (.aload_n 0, 1) := by decide +kernel
theorem dX4_lockfulOf_1 : decode cX4_lockfulOf 1 = .ok (.iload_n 1, 1) := by decide +kernel
theorem dX4_lockfulOf_2 : decode cX4_lockfulOf 2 = .ok (.invokevirtual 138, 3) := by decide +kernel
theorem dX4_lockfulOf_5 : decode cX4_lockfulOf 5 = .ok (.ifCond .eq 16, 3) := by decide +kernel
theorem dX4_lockfulOf_8 : decode cX4_lockfulOf 8 = .ok (.aload_n 0, 1) := by decide +kernel
theorem dX4_lockfulOf_9 : decode cX4_lockfulOf 9 = .ok (.aload_n 0, 1) := by decide +kernel
theorem dX4_lockfulOf_10 : decode cX4_lockfulOf 10 = .ok (.getfield 26, 3) := by decide +kernel
theorem dX4_lockfulOf_13 : decode cX4_lockfulOf 13 = .ok (.iload_n 1, 1) := by decide +kernel
theorem dX4_lockfulOf_14 : decode cX4_lockfulOf 14 = .ok (.iaload, 1) := by decide +kernel
theorem dX4_lockfulOf_15 : decode cX4_lockfulOf 15 = .ok (.invokevirtual 125, 3) := by decide +kernel
theorem dX4_lockfulOf_18 : decode cX4_lockfulOf 18 = .ok (.goto 8, 3) := by decide +kernel
theorem dX4_lockfulOf_21 : decode cX4_lockfulOf 21 = .ok (.aload_n 0, 1) := by decide +kernel
theorem dX4_lockfulOf_22 : decode cX4_lockfulOf 22 = .ok (.iconst 1, 1) := by decide +kernel
theorem dX4_lockfulOf_23 : decode cX4_lockfulOf 23 = .ok (.invokevirtual 121, 3) := by decide +kernel
theorem dX4_lockfulOf_26 : decode cX4_lockfulOf 26 = .ok (.ireturn, 1) := by decide +kernel
theorem dX4_lengthOf_0 : decode cX4_lengthOf 0 = .ok (.aload_n 0, 1) := by decide +kernel
theorem dX4_lengthOf_1 : decode cX4_lengthOf 1 = .ok (.iload_n 1, 1) := by decide +kernel
theorem dX4_lengthOf_2 : decode cX4_lengthOf 2 = .ok (.invokevirtual 138, 3) := by decide +kernel
theorem dX4_lengthOf_5 : decode cX4_lengthOf 5 = .ok (.ifCond .eq 16, 3) := by decide +kernel
theorem dX4_lengthOf_8 : decode cX4_lengthOf 8 = .ok (.aload_n 0, 1) := by decide +kernel
theorem dX4_lengthOf_9 : decode cX4_lengthOf 9 = .ok (.aload_n 0, 1) := by decide +kernel
theorem dX4_lengthOf_10 : decode cX4_lengthOf 10 = .ok (.getfield 29, 3) := by decide +kernel
theorem dX4_lengthOf_13 : decode cX4_lengthOf 13 = .ok (.iload_n 1, 1) := by decide +kernel
theorem dX4_lengthOf_14 : decode cX4_lengthOf 14 = .ok (.iaload, 1) := by decide +kernel
theorem dX4_lengthOf_15 : decode cX4_lengthOf 15 = .ok (.invokevirtual 125, 3) := by decide +kernel
theorem dX4_lengthOf_18 : decode cX4_lengthOf 18 = .ok (.goto 8, 3) := by decide +kernel
theorem dX4_lengthOf_21 : decode cX4_lengthOf 21 = .ok (.aload_n 0, 1) := by decide +kernel
theorem dX4_lengthOf_22 : decode cX4_lengthOf 22 = .ok (.iconst 1, 1) := by decide +kernel
theorem dX4_lengthOf_23 : decode cX4_lengthOf 23 = .ok (.invokevirtual 121, 3) := by decide +kernel
theorem dX4_lengthOf_26 : decode cX4_lengthOf 26 = .ok (.ireturn, 1) := by decide +kernel
theorem dX4_sillOf_0 : decode cX4_sillOf 0 = .ok (.aload_n 0, 1) := by decide +kernel
theorem dX4_sillOf_1 : decode cX4_sillOf 1 = .ok (.iload_n 1, 1) := by decide +kernel
theorem dX4_sillOf_2 : decode cX4_sillOf 2 = .ok (.invokevirtual 138, 3) := by decide +kernel
theorem dX4_sillOf_5 : decode cX4_sillOf 5 = .ok (.ifCond .eq 16, 3) := by decide +kernel
theorem dX4_sillOf_8 : decode cX4_sillOf 8 = .ok (.aload_n 0, 1) := by decide +kernel
theorem dX4_sillOf_9 : decode cX4_sillOf 9 = .ok (.aload_n 0, 1) := by decide +kernel
theorem dX4_sillOf_10 : decode cX4_sillOf 10 = .ok (.getfield 32, 3) := by decide +kernel
theorem dX4_sillOf_13 : decode cX4_sillOf 13 = .ok (.iload_n 1, 1) := by decide +kernel
theorem dX4_sillOf_14 : decode cX4_sillOf 14 = .ok (.iaload, 1) := by decide +kernel
theorem dX4_sillOf_15 : decode cX4_sillOf 15 = .ok (.invokevirtual 125, 3) := by decide +kernel
theorem dX4_sillOf_18 : decode cX4_sillOf 18 = .ok (.goto 8, 3) := by decide +kernel
theorem dX4_sillOf_21 : decode cX4_sillOf 21 = .ok (.aload_n 0, 1) := by decide +kernel
theorem dX4_sillOf_22 : decode cX4_sillOf 22 = .ok (.iconst 1, 1) := by decide +kernel
theorem dX4_sillOf_23 : decode cX4_sillOf 23 = .ok (.invokevirtual 121, 3) := by decide +kernel
theorem dX4_sillOf_26 : decode cX4_sillOf 26 = .ok (.ireturn, 1) := by decide +kernel
theorem dX4_asks_0 : decode cX4_asks 0 = .ok (.aload_n 0, 1) := by decide +kernel
theorem dX4_asks_1 : decode cX4_asks 1 = .ok (.iload_n 1, 1) := by decide +kernel
theorem dX4_asks_2 : decode cX4_asks 2 = .ok (.putfield 101, 3) := by decide +kernel
theorem dX4_asks_5 : decode cX4_asks 5 = .ok (.iload_n 1, 1) := by decide +kernel
theorem dX4_asks_6 : decode cX4_asks 6 = .ok (.ifCond .ne 11, 3) := by decide +kernel
theorem dX4_asks_9 : decode cX4_asks 9 = .ok (.iload_n 2, 1) := by decide +kernel
theorem dX4_asks_10 : decode cX4_asks 10 = .ok (.ifCond .eq 7, 3) := by decide +kernel
theorem dX4_asks_13 : decode cX4_asks 13 = .ok (.iconst 1, 1) := by decide +kernel
theorem dX4_asks_14 : decode cX4_asks 14 = .ok (.goto 4, 3) := by decide +kernel
theorem dX4_asks_17 : decode cX4_asks 17 = .ok (.iconst 0, 1) := by decide +kernel
theorem dX4_asks_18 : decode cX4_asks 18 = .ok (.ireturn, 1) := by decide +kernel
theorem dX4_isFull_0 : decode cX4_isFull 0 = .ok (.aload_n 0, 1) := by decide +kernel
theorem dX4_isFull_1 : decode cX4_isFull 1 = .ok (.aload_n 0, 1) := by decide +kernel
theorem dX4_isFull_2 : decode cX4_isFull 2 = .ok (.iload_n 1, 1) := by decide +kernel
theorem dX4_isFull_3 : decode cX4_isFull 3 = .ok (.invokevirtual 138, 3) := by decide +kernel
theorem dX4_isFull_6 : decode cX4_isFull 6 = .ok (.ifCond .eq 7, 3) := by decide +kernel
theorem dX4_isFull_9 : decode cX4_isFull 9 = .ok (.iconst 0, 1) := by decide +kernel
theorem dX4_isFull_10 : decode cX4_isFull 10 = .ok (.goto 4, 3) := by decide +kernel
theorem dX4_isFull_13 : decode cX4_isFull 13 = .ok (.iconst 1, 1) := by decide +kernel
theorem dX4_isFull_14 : decode cX4_isFull 14 = .ok (.aload_n 0, 1) := by decide +kernel
theorem dX4_isFull_15 : decode cX4_isFull 15 = .ok (.iload_n 1, 1) := by decide +kernel
theorem dX4_isFull_16 : decode cX4_isFull 16 = .ok (.invokevirtual 138, 3) := by decide +kernel
theorem dX4_isFull_19 : decode cX4_isFull 19 = .ok (.ifCond .eq 16, 3) := by decide +kernel
theorem dX4_isFull_22 : decode cX4_isFull 22 = .ok (.aload_n 0, 1) := by decide +kernel
theorem dX4_isFull_23 : decode cX4_isFull 23 = .ok (.getfield 38, 3) := by decide +kernel
theorem dX4_isFull_26 : decode cX4_isFull 26 = .ok (.iload_n 1, 1) := by decide +kernel
theorem dX4_isFull_27 : decode cX4_isFull 27 = .ok (.baload, 1) := by decide +kernel
theorem dX4_isFull_28 : decode cX4_isFull 28 = .ok (.ifCond .eq 7, 3) := by decide +kernel
theorem dX4_isFull_31 : decode cX4_isFull 31 = .ok (.iconst 1, 1) := by decide +kernel
theorem dX4_isFull_32 : decode cX4_isFull 32 = .ok (.goto 4, 3) := by decide +kernel
theorem dX4_isFull_35 : decode cX4_isFull 35 = .ok (.iconst 0, 1) := by decide +kernel
theorem dX4_isFull_36 : decode cX4_isFull 36 = .ok (.invokevirtual 141, 3) := by decide +kernel
theorem dX4_isFull_39 : decode cX4_isFull 39 = .ok (.ireturn, 1) := by decide +kernel
theorem dX4_turn_0 : decode cX4_turn 0 = .ok (.aload_n 0, 1) := by decide +kernel
theorem dX4_turn_1 : decode cX4_turn 1 = .ok (.iload_n 1, 1) := by decide +kernel
theorem dX4_turn_2 : decode cX4_turn 2 = .ok (.invokevirtual 138, 3) := by decide +kernel
theorem dX4_turn_5 : decode cX4_turn 5 = .ok (.ifCond .ne 10, 3) := by decide +kernel
theorem dX4_turn_8 : decode cX4_turn 8 = .ok (.aload_n 0, 1) := by decide +kernel
theorem dX4_turn_9 : decode cX4_turn 9 = .ok (.iconst 1, 1) := by decide +kernel
theorem dX4_turn_10 : decode cX4_turn 10 = .ok (.iconst 0, 1) := by decide +kernel
theorem dX4_turn_11 : decode cX4_turn 11 = .ok (.invokevirtual 141, 3) := by decide +kernel
theorem dX4_turn_14 : decode cX4_turn 14 = .ok (.ireturn, 1) := by decide +kernel
theorem dX4_turn_15 : decode cX4_turn 15 = .ok (.aload_n 0, 1) := by decide +kernel
theorem dX4_turn_16 : decode cX4_turn 16 = .ok (.getfield 38, 3) := by decide +kernel
theorem dX4_turn_19 : decode cX4_turn 19 = .ok (.iload_n 1, 1) := by decide +kernel
theorem dX4_turn_20 : decode cX4_turn 20 = .ok (.baload, 1) := by decide +kernel
theorem dX4_turn_21 : decode cX4_turn 21 = .ok (.ifCond .eq 15, 3) := by decide +kernel
theorem dX4_turn_24 : decode cX4_turn 24 = .ok (.aload_n 0, 1) := by decide +kernel
theorem dX4_turn_25 : decode cX4_turn 25 = .ok (.iload_n 1, 1) := by decide +kernel
theorem dX4_turn_26 : decode cX4_turn 26 = .ok (.invokevirtual 145, 3) := by decide +kernel
theorem dX4_turn_29 : decode cX4_turn 29 = .ok (.aload_n 0, 1) := by decide +kernel
theorem dX4_turn_30 : decode cX4_turn 30 = .ok (.iconst 0, 1) := by decide +kernel
theorem dX4_turn_31 : decode cX4_turn 31 = .ok (.iconst 0, 1) := by decide +kernel
theorem dX4_turn_32 : decode cX4_turn 32 = .ok (.invokevirtual 141, 3) := by decide +kernel
theorem dX4_turn_35 : decode cX4_turn 35 = .ok (.ireturn, 1) := by decide +kernel
theorem dX4_turn_36 : decode cX4_turn 36 = .ok (.aload_n 0, 1) := by decide +kernel
theorem dX4_turn_37 : decode cX4_turn 37 = .ok (.getfield 17, 3) := by decide +kernel
theorem dX4_turn_40 : decode cX4_turn 40 = .ok (.iload_n 1, 1) := by decide +kernel
theorem dX4_turn_41 : decode cX4_turn 41 = .ok (.iaload, 1) := by decide +kernel
theorem dX4_turn_42 : decode cX4_turn 42 = .ok (.aload_n 0, 1) := by decide +kernel
theorem dX4_turn_43 : decode cX4_turn 43 = .ok (.getfield 26, 3) := by decide +kernel
theorem dX4_turn_46 : decode cX4_turn 46 = .ok (.iload_n 1, 1) := by decide +kernel
theorem dX4_turn_47 : decode cX4_turn 47 = .ok (.iaload, 1) := by decide +kernel
theorem dX4_turn_48 : decode cX4_turn 48 = .ok (.if_icmp .ge 10, 3) := by decide +kernel
theorem dX4_turn_51 : decode cX4_turn 51 = .ok (.aload_n 0, 1) := by decide +kernel
theorem dX4_turn_52 : decode cX4_turn 52 = .ok (.iconst 2, 1) := by decide +kernel
theorem dX4_turn_53 : decode cX4_turn 53 = .ok (.iconst 0, 1) := by decide +kernel
theorem dX4_turn_54 : decode cX4_turn 54 = .ok (.invokevirtual 141, 3) := by decide +kernel
theorem dX4_turn_57 : decode cX4_turn 57 = .ok (.ireturn, 1) := by decide +kernel
theorem dX4_turn_58 : decode cX4_turn 58 = .ok (.aload_n 0, 1) := by decide +kernel
theorem dX4_turn_59 : decode cX4_turn 59 = .ok (.iload_n 1, 1) := by decide +kernel
theorem dX4_turn_60 : decode cX4_turn 60 = .ok (.invokevirtual 149, 3) := by decide +kernel
theorem dX4_turn_63 : decode cX4_turn 63 = .ok (.aload_n 0, 1) := by decide +kernel
theorem dX4_turn_64 : decode cX4_turn 64 = .ok (.iconst 0, 1) := by decide +kernel
theorem dX4_turn_65 : decode cX4_turn 65 = .ok (.iconst 1, 1) := by decide +kernel
theorem dX4_turn_66 : decode cX4_turn 66 = .ok (.invokevirtual 141, 3) := by decide +kernel
theorem dX4_turn_69 : decode cX4_turn 69 = .ok (.ireturn, 1) := by decide +kernel
theorem dX4_waterThrough_0 : decode cX4_waterThrough 0 = .ok (.aload_n 0, 1) := by decide +kernel
theorem dX4_waterThrough_1 : decode cX4_waterThrough 1 = .ok (.iload_n 1, 1) := by decide +kernel
theorem dX4_waterThrough_2 : decode cX4_waterThrough 2 = .ok (.invokevirtual 138, 3) := by decide +kernel
theorem dX4_waterThrough_5 : decode cX4_waterThrough 5 = .ok (.ifCond .eq 16, 3) := by decide +kernel
theorem dX4_waterThrough_8 : decode cX4_waterThrough 8 = .ok (.aload_n 0, 1) := by decide +kernel
theorem dX4_waterThrough_9 : decode cX4_waterThrough 9 = .ok (.aload_n 0, 1) := by decide +kernel
theorem dX4_waterThrough_10 : decode cX4_waterThrough 10 = .ok (.getfield 35, 3) := by decide +kernel
theorem dX4_waterThrough_13 : decode cX4_waterThrough 13 = .ok (.iload_n 1, 1) := by decide +kernel
theorem dX4_waterThrough_14 : decode cX4_waterThrough 14 = .ok (.iaload, 1) := by decide +kernel
theorem dX4_waterThrough_15 : decode cX4_waterThrough 15 = .ok (.invokevirtual 125, 3) := by decide +kernel
theorem dX4_waterThrough_18 : decode cX4_waterThrough 18 = .ok (.goto 8, 3) := by decide +kernel
theorem dX4_waterThrough_21 : decode cX4_waterThrough 21 = .ok (.aload_n 0, 1) := by decide +kernel
theorem dX4_waterThrough_22 : decode cX4_waterThrough 22 = .ok (.iconst 1, 1) := by decide +kernel
theorem dX4_waterThrough_23 : decode cX4_waterThrough 23 = .ok (.invokevirtual 121, 3) := by decide +kernel
theorem dX4_waterThrough_26 : decode cX4_waterThrough 26 = .ok (.ireturn, 1) := by decide +kernel
theorem dX4_rain_0 : decode cX4_rain 0 = .ok (.aload_n 0, 1) := by decide +kernel
theorem dX4_rain_1 : decode cX4_rain 1 = .ok (.iload_n 1, 1) := by decide +kernel
theorem dX4_rain_2 : decode cX4_rain 2 = .ok (.invokevirtual 128, 3) := by decide +kernel
theorem dX4_rain_5 : decode cX4_rain 5 = .ok (.ifCond .ne 9, 3) := by decide +kernel
theorem dX4_rain_8 : decode cX4_rain 8 = .ok (.aload_n 0, 1) := by decide +kernel
theorem dX4_rain_9 : decode cX4_rain 9 = .ok (.iconst 1, 1) := by decide +kernel
theorem dX4_rain_10 : decode cX4_rain 10 = .ok (.invokevirtual 121, 3) := by decide +kernel
theorem dX4_rain_13 : decode cX4_rain 13 = .ok (.ireturn, 1) := by decide +kernel
theorem dX4_rain_14 : decode cX4_rain 14 = .ok (.iload_n 2, 1) := by decide +kernel
theorem dX4_rain_15 : decode cX4_rain 15 = .ok (.iconst 1, 1) := by decide +kernel
theorem dX4_rain_16 : decode cX4_rain 16 = .ok (.sipush 5000, 3) := by decide +kernel
theorem dX4_rain_19 : decode cX4_rain 19 = .ok (.invokestatic 104, 3) := by decide +kernel
theorem dX4_rain_22 : decode cX4_rain 22 = .ok (.ifCond .ne 9, 3) := by decide +kernel
theorem dX4_rain_25 : decode cX4_rain 25 = .ok (.aload_n 0, 1) := by decide +kernel
theorem dX4_rain_26 : decode cX4_rain 26 = .ok (.iconst 2, 1) := by decide +kernel
theorem dX4_rain_27 : decode cX4_rain 27 = .ok (.invokevirtual 121, 3) := by decide +kernel
theorem dX4_rain_30 : decode cX4_rain 30 = .ok (.ireturn, 1) := by decide +kernel
theorem dX4_rain_31 : decode cX4_rain 31 = .ok (.aload_n 0, 1) := by decide +kernel
theorem dX4_rain_32 : decode cX4_rain 32 = .ok (.getfield 115, 3) := by decide +kernel
theorem dX4_rain_35 : decode cX4_rain 35 = .ok (.istore_n 3, 1) := by decide +kernel
theorem dX4_rain_36 : decode cX4_rain 36 = .ok (.aload_n 0, 1) := by decide +kernel
theorem dX4_rain_37 : decode cX4_rain 37 = .ok (.dup, 1) := by decide +kernel
theorem dX4_rain_38 : decode cX4_rain 38 = .ok (.getfield 69, 3) := by decide +kernel
theorem dX4_rain_41 : decode cX4_rain 41 = .ok (.iload_n 2, 1) := by decide +kernel
theorem dX4_rain_42 : decode cX4_rain 42 = .ok (.iadd, 1) := by decide +kernel
theorem dX4_rain_43 : decode cX4_rain 43 = .ok (.putfield 69, 3) := by decide +kernel
theorem dX4_rain_46 : decode cX4_rain 46 = .ok (.aload_n 0, 1) := by decide +kernel
theorem dX4_rain_47 : decode cX4_rain 47 = .ok (.iconst (-1), 1) := by decide +kernel
theorem dX4_rain_48 : decode cX4_rain 48 = .ok (.iload_n 1, 1) := by decide +kernel
theorem dX4_rain_49 : decode cX4_rain 49 = .ok (.iload_n 2, 1) := by decide +kernel
theorem dX4_rain_50 : decode cX4_rain 50 = .ok (.invokevirtual 118, 3) := by decide +kernel
theorem dX4_rain_53 : decode cX4_rain 53 = .ok (.aload_n 0, 1) := by decide +kernel
theorem dX4_rain_54 : decode cX4_rain 54 = .ok (.aload_n 0, 1) := by decide +kernel
theorem dX4_rain_55 : decode cX4_rain 55 = .ok (.getfield 115, 3) := by decide +kernel
theorem dX4_rain_58 : decode cX4_rain 58 = .ok (.iload_n 3, 1) := by decide +kernel
theorem dX4_rain_59 : decode cX4_rain 59 = .ok (.isub, 1) := by decide +kernel
theorem dX4_rain_60 : decode cX4_rain 60 = .ok (.invokevirtual 125, 3) := by decide +kernel
theorem dX4_rain_63 : decode cX4_rain 63 = .ok (.ireturn, 1) := by decide +kernel
theorem dX4_endWeek_0 : decode cX4_endWeek 0 = .ok (.iconst 0, 1) := by decide +kernel
theorem dX4_endWeek_1 : decode cX4_endWeek 1 = .ok (.istore_n 1, 1) := by decide +kernel
theorem dX4_endWeek_2 : decode cX4_endWeek 2 = .ok (.iload_n 1, 1) := by decide +kernel
theorem dX4_endWeek_3 : decode cX4_endWeek 3 = .ok (.aload_n 0, 1) := by decide +kernel
theorem dX4_endWeek_4 : decode cX4_endWeek 4 = .ok (.getfield 7, 3) := by decide +kernel
theorem dX4_endWeek_7 : decode cX4_endWeek 7 = .ok (.if_icmp .ge 68, 3) := by decide +kernel
theorem dX4_endWeek_10 : decode cX4_endWeek 10 = .ok (.aload_n 0, 1) := by decide +kernel
theorem dX4_endWeek_11 : decode cX4_endWeek 11 = .ok (.getfield 17, 3) := by decide +kernel
theorem dX4_endWeek_14 : decode cX4_endWeek 14 = .ok (.iload_n 1, 1) := by decide +kernel
theorem dX4_endWeek_15 : decode cX4_endWeek 15 = .ok (.iaload, 1) := by decide +kernel
theorem dX4_endWeek_16 : decode cX4_endWeek 16 = .ok (.aload_n 0, 1) := by decide +kernel
theorem dX4_endWeek_17 : decode cX4_endWeek 17 = .ok (.getfield 13, 3) := by decide +kernel
theorem dX4_endWeek_20 : decode cX4_endWeek 20 = .ok (.iload_n 1, 1) := by decide +kernel
theorem dX4_endWeek_21 : decode cX4_endWeek 21 = .ok (.iaload, 1) := by decide +kernel
theorem dX4_endWeek_22 : decode cX4_endWeek 22 = .ok (.if_icmp .ge 12, 3) := by decide +kernel
theorem dX4_endWeek_25 : decode cX4_endWeek 25 = .ok (.aload_n 0, 1) := by decide +kernel
theorem dX4_endWeek_26 : decode cX4_endWeek 26 = .ok (.getfield 17, 3) := by decide +kernel
theorem dX4_endWeek_29 : decode cX4_endWeek 29 = .ok (.iload_n 1, 1) := by decide +kernel
theorem dX4_endWeek_30 : decode cX4_endWeek 30 = .ok (.iaload, 1) := by decide +kernel
theorem dX4_endWeek_31 : decode cX4_endWeek 31 = .ok (.goto 9, 3) := by decide +kernel
theorem dX4_endWeek_34 : decode cX4_endWeek 34 = .ok (.aload_n 0, 1) := by decide +kernel
theorem dX4_endWeek_35 : decode cX4_endWeek 35 = .ok (.getfield 13, 3) := by decide +kernel
theorem dX4_endWeek_38 : decode cX4_endWeek 38 = .ok (.iload_n 1, 1) := by decide +kernel
theorem dX4_endWeek_39 : decode cX4_endWeek 39 = .ok (.iaload, 1) := by decide +kernel
theorem dX4_endWeek_40 : decode cX4_endWeek 40 = .ok (.istore_n 2, 1) := by decide +kernel
theorem dX4_endWeek_41 : decode cX4_endWeek 41 = .ok (.aload_n 0, 1) := by decide +kernel
theorem dX4_endWeek_42 : decode cX4_endWeek 42 = .ok (.iload_n 1, 1) := by decide +kernel
theorem dX4_endWeek_43 : decode cX4_endWeek 43 = .ok (.bipush (-3), 2) := by decide +kernel
theorem dX4_endWeek_45 : decode cX4_endWeek 45 = .ok (.iload_n 2, 1) := by decide +kernel
theorem dX4_endWeek_46 : decode cX4_endWeek 46 = .ok (.invokevirtual 111, 3) := by decide +kernel
theorem dX4_endWeek_49 : decode cX4_endWeek 49 = .ok (.aload_n 0, 1) := by decide +kernel
theorem dX4_endWeek_50 : decode cX4_endWeek 50 = .ok (.getfield 17, 3) := by decide +kernel
theorem dX4_endWeek_53 : decode cX4_endWeek 53 = .ok (.iload_n 1, 1) := by decide +kernel
theorem dX4_endWeek_54 : decode cX4_endWeek 54 = .ok (.dup2, 1) := by decide +kernel
theorem dX4_endWeek_55 : decode cX4_endWeek 55 = .ok (.iaload, 1) := by decide +kernel
theorem dX4_endWeek_56 : decode cX4_endWeek 56 = .ok (.iload_n 2, 1) := by decide +kernel
theorem dX4_endWeek_57 : decode cX4_endWeek 57 = .ok (.isub, 1) := by decide +kernel
theorem dX4_endWeek_58 : decode cX4_endWeek 58 = .ok (.iastore, 1) := by decide +kernel
theorem dX4_endWeek_59 : decode cX4_endWeek 59 = .ok (.aload_n 0, 1) := by decide +kernel
theorem dX4_endWeek_60 : decode cX4_endWeek 60 = .ok (.dup, 1) := by decide +kernel
theorem dX4_endWeek_61 : decode cX4_endWeek 61 = .ok (.getfield 152, 3) := by decide +kernel
theorem dX4_endWeek_64 : decode cX4_endWeek 64 = .ok (.iload_n 2, 1) := by decide +kernel
theorem dX4_endWeek_65 : decode cX4_endWeek 65 = .ok (.iadd, 1) := by decide +kernel
theorem dX4_endWeek_66 : decode cX4_endWeek 66 = .ok (.putfield 152, 3) := by decide +kernel
theorem dX4_endWeek_69 : decode cX4_endWeek 69 = .ok (.iinc 1 1, 3) := by decide +kernel
theorem dX4_endWeek_72 : decode cX4_endWeek 72 = .ok (.goto (-70), 3) := by decide +kernel
theorem dX4_endWeek_75 : decode cX4_endWeek 75 = .ok (.iconst 0, 1) := by decide +kernel
theorem dX4_endWeek_76 : decode cX4_endWeek 76 = .ok (.istore_n 1, 1) := by decide +kernel
theorem dX4_endWeek_77 : decode cX4_endWeek 77 = .ok (.iconst 0, 1) := by decide +kernel
theorem dX4_endWeek_78 : decode cX4_endWeek 78 = .ok (.istore_n 2, 1) := by decide +kernel
theorem dX4_endWeek_79 : decode cX4_endWeek 79 = .ok (.iload_n 2, 1) := by decide +kernel
theorem dX4_endWeek_80 : decode cX4_endWeek 80 = .ok (.aload_n 0, 1) := by decide +kernel
theorem dX4_endWeek_81 : decode cX4_endWeek 81 = .ok (.getfield 7, 3) := by decide +kernel
theorem dX4_endWeek_84 : decode cX4_endWeek 84 = .ok (.if_icmp .ge 146, 3) := by decide +kernel
theorem dX4_endWeek_87 : decode cX4_endWeek 87 = .ok (.aload_n 0, 1) := by decide +kernel
theorem dX4_endWeek_88 : decode cX4_endWeek 88 = .ok (.getfield 23, 3) := by decide +kernel
theorem dX4_endWeek_91 : decode cX4_endWeek 91 = .ok (.iload_n 2, 1) := by decide +kernel
theorem dX4_endWeek_92 : decode cX4_endWeek 92 = .ok (.iaload, 1) := by decide +kernel
theorem dX4_endWeek_93 : decode cX4_endWeek 93 = .ok (.bipush 9, 2) := by decide +kernel
theorem dX4_endWeek_95 : decode cX4_endWeek 95 = .ok (.iadd, 1) := by decide +kernel
theorem dX4_endWeek_96 : decode cX4_endWeek 96 = .ok (.bipush 10, 2) := by decide +kernel
theorem dX4_endWeek_98 : decode cX4_endWeek 98 = .ok (.idiv, 1) := by decide +kernel
theorem dX4_endWeek_99 : decode cX4_endWeek 99 = .ok (.istore_n 3, 1) := by decide +kernel
theorem dX4_endWeek_100 : decode cX4_endWeek 100 = .ok (.aload_n 0, 1) := by decide +kernel
theorem dX4_endWeek_101 : decode cX4_endWeek 101 = .ok (.iload_n 2, 1) := by decide +kernel
theorem dX4_endWeek_102 : decode cX4_endWeek 102 = .ok (.invokevirtual 135, 3) := by decide +kernel
theorem dX4_endWeek_105 : decode cX4_endWeek 105 = .ok (.aload_n 0, 1) := by decide +kernel
theorem dX4_endWeek_106 : decode cX4_endWeek 106 = .ok (.getfield 20, 3) := by decide +kernel
theorem dX4_endWeek_109 : decode cX4_endWeek 109 = .ok (.iload_n 2, 1) := by decide +kernel
theorem dX4_endWeek_110 : decode cX4_endWeek 110 = .ok (.iaload, 1) := by decide +kernel
theorem dX4_endWeek_111 : decode cX4_endWeek 111 = .ok (.if_icmp .ge 14, 3) := by decide +kernel
theorem dX4_endWeek_114 : decode cX4_endWeek 114 = .ok (.aload_n 0, 1) := by decide +kernel
theorem dX4_endWeek_115 : decode cX4_endWeek 115 = .ok (.getfield 23, 3) := by decide +kernel
theorem dX4_endWeek_118 : decode cX4_endWeek 118 = .ok (.iload_n 2, 1) := by decide +kernel
theorem dX4_endWeek_119 : decode cX4_endWeek 119 = .ok (.iaload, 1) := by decide +kernel
theorem dX4_endWeek_120 : decode cX4_endWeek 120 = .ok (.iload_n 3, 1) := by decide +kernel
theorem dX4_endWeek_121 : decode cX4_endWeek 121 = .ok (.iadd, 1) := by decide +kernel
theorem dX4_endWeek_122 : decode cX4_endWeek 122 = .ok (.goto 34, 3) := by decide +kernel
theorem dX4_endWeek_125 : decode cX4_endWeek 125 = .ok (.aload_n 0, 1) := by decide +kernel
theorem dX4_endWeek_126 : decode cX4_endWeek 126 = .ok (.iload_n 2, 1) := by decide +kernel
theorem dX4_endWeek_127 : decode cX4_endWeek 127 = .ok (.invokevirtual 135, 3) := by decide +kernel
theorem dX4_endWeek_130 : decode cX4_endWeek 130 = .ok (.aload_n 0, 1) := by decide +kernel
theorem dX4_endWeek_131 : decode cX4_endWeek 131 = .ok (.getfield 20, 3) := by decide +kernel
theorem dX4_endWeek_134 : decode cX4_endWeek 134 = .ok (.iload_n 2, 1) := by decide +kernel
theorem dX4_endWeek_135 : decode cX4_endWeek 135 = .ok (.iaload, 1) := by decide +kernel
theorem dX4_endWeek_136 : decode cX4_endWeek 136 = .ok (.if_icmp .le 14, 3) := by decide +kernel
theorem dX4_endWeek_139 : decode cX4_endWeek 139 = .ok (.aload_n 0, 1) := by decide +kernel
theorem dX4_endWeek_140 : decode cX4_endWeek 140 = .ok (.getfield 23, 3) := by decide +kernel
theorem dX4_endWeek_143 : decode cX4_endWeek 143 = .ok (.iload_n 2, 1) := by decide +kernel
theorem dX4_endWeek_144 : decode cX4_endWeek 144 = .ok (.iaload, 1) := by decide +kernel
theorem dX4_endWeek_145 : decode cX4_endWeek 145 = .ok (.iload_n 3, 1) := by decide +kernel
theorem dX4_endWeek_146 : decode cX4_endWeek 146 = .ok (.isub, 1) := by decide +kernel
theorem dX4_endWeek_147 : decode cX4_endWeek 147 = .ok (.goto 9, 3) := by decide +kernel
theorem dX4_endWeek_150 : decode cX4_endWeek 150 = .ok (.aload_n 0, 1) := by decide +kernel
theorem dX4_endWeek_151 : decode cX4_endWeek 151 = .ok (.getfield 23, 3) := by decide +kernel
theorem dX4_endWeek_154 : decode cX4_endWeek 154 = .ok (.iload_n 2, 1) := by decide +kernel
theorem dX4_endWeek_155 : decode cX4_endWeek 155 = .ok (.iaload, 1) := by decide +kernel
theorem dX4_endWeek_156 : decode cX4_endWeek 156 = .ok (.istore 4, 2) := by decide +kernel
theorem dX4_endWeek_158 : decode cX4_endWeek 158 = .ok (.iload 4, 2) := by decide +kernel
theorem dX4_endWeek_160 : decode cX4_endWeek 160 = .ok (.sipush 9999, 3) := by decide +kernel
theorem dX4_endWeek_163 : decode cX4_endWeek 163 = .ok (.if_icmp .le 9, 3) := by decide +kernel
theorem dX4_endWeek_166 : decode cX4_endWeek 166 = .ok (.sipush 9999, 3) := by decide +kernel
theorem dX4_endWeek_169 : decode cX4_endWeek 169 = .ok (.goto 15, 3) := by decide +kernel
theorem dX4_endWeek_172 : decode cX4_endWeek 172 = .ok (.iload 4, 2) := by decide +kernel
theorem dX4_endWeek_174 : decode cX4_endWeek 174 = .ok (.iconst 1, 1) := by decide +kernel
theorem dX4_endWeek_175 : decode cX4_endWeek 175 = .ok (.if_icmp .ge 7, 3) := by decide +kernel
theorem dX4_endWeek_178 : decode cX4_endWeek 178 = .ok (.iconst 1, 1) := by decide +kernel
theorem dX4_endWeek_179 : decode cX4_endWeek 179 = .ok (.goto 5, 3) := by decide +kernel
theorem dX4_endWeek_182 : decode cX4_endWeek 182 = .ok (.iload 4, 2) := by decide +kernel
theorem dX4_endWeek_184 : decode cX4_endWeek 184 = .ok (.istore 4, 2) := by decide +kernel
theorem dX4_endWeek_186 : decode cX4_endWeek 186 = .ok (.iload_n 1, 1) := by decide +kernel
theorem dX4_endWeek_187 : decode cX4_endWeek 187 = .ok (.iload 4, 2) := by decide +kernel
theorem dX4_endWeek_189 : decode cX4_endWeek 189 = .ok (.aload_n 0, 1) := by decide +kernel
theorem dX4_endWeek_190 : decode cX4_endWeek 190 = .ok (.getfield 23, 3) := by decide +kernel
theorem dX4_endWeek_193 : decode cX4_endWeek 193 = .ok (.iload_n 2, 1) := by decide +kernel
theorem dX4_endWeek_194 : decode cX4_endWeek 194 = .ok (.iaload, 1) := by decide +kernel
theorem dX4_endWeek_195 : decode cX4_endWeek 195 = .ok (.if_icmp .le 7, 3) := by decide +kernel
theorem dX4_endWeek_198 : decode cX4_endWeek 198 = .ok (.iconst 1, 1) := by decide +kernel
theorem dX4_endWeek_199 : decode cX4_endWeek 199 = .ok (.goto 4, 3) := by decide +kernel
theorem dX4_endWeek_202 : decode cX4_endWeek 202 = .ok (.iconst 0, 1) := by decide +kernel
theorem dX4_endWeek_203 : decode cX4_endWeek 203 = .ok (.iadd, 1) := by decide +kernel
theorem dX4_endWeek_204 : decode cX4_endWeek 204 = .ok (.istore_n 1, 1) := by decide +kernel
theorem dX4_endWeek_205 : decode cX4_endWeek 205 = .ok (.aload_n 0, 1) := by decide +kernel
theorem dX4_endWeek_206 : decode cX4_endWeek 206 = .ok (.getfield 23, 3) := by decide +kernel
theorem dX4_endWeek_209 : decode cX4_endWeek 209 = .ok (.iload_n 2, 1) := by decide +kernel
theorem dX4_endWeek_210 : decode cX4_endWeek 210 = .ok (.iload 4, 2) := by decide +kernel
theorem dX4_endWeek_212 : decode cX4_endWeek 212 = .ok (.iastore, 1) := by decide +kernel
theorem dX4_endWeek_213 : decode cX4_endWeek 213 = .ok (.aload_n 0, 1) := by decide +kernel
theorem dX4_endWeek_214 : decode cX4_endWeek 214 = .ok (.getfield 20, 3) := by decide +kernel
theorem dX4_endWeek_217 : decode cX4_endWeek 217 = .ok (.iload_n 2, 1) := by decide +kernel
theorem dX4_endWeek_218 : decode cX4_endWeek 218 = .ok (.aload_n 0, 1) := by decide +kernel
theorem dX4_endWeek_219 : decode cX4_endWeek 219 = .ok (.iload_n 2, 1) := by decide +kernel
theorem dX4_endWeek_220 : decode cX4_endWeek 220 = .ok (.invokevirtual 135, 3) := by decide +kernel
theorem dX4_endWeek_223 : decode cX4_endWeek 223 = .ok (.iastore, 1) := by decide +kernel
theorem dX4_endWeek_224 : decode cX4_endWeek 224 = .ok (.iinc 2 1, 3) := by decide +kernel
theorem dX4_endWeek_227 : decode cX4_endWeek 227 = .ok (.goto (-148), 3) := by decide +kernel
theorem dX4_endWeek_230 : decode cX4_endWeek 230 = .ok (.aload_n 0, 1) := by decide +kernel
theorem dX4_endWeek_231 : decode cX4_endWeek 231 = .ok (.dup, 1) := by decide +kernel
theorem dX4_endWeek_232 : decode cX4_endWeek 232 = .ok (.getfield 155, 3) := by decide +kernel
theorem dX4_endWeek_235 : decode cX4_endWeek 235 = .ok (.iconst 1, 1) := by decide +kernel
theorem dX4_endWeek_236 : decode cX4_endWeek 236 = .ok (.iadd, 1) := by decide +kernel
theorem dX4_endWeek_237 : decode cX4_endWeek 237 = .ok (.putfield 155, 3) := by decide +kernel
theorem dX4_endWeek_240 : decode cX4_endWeek 240 = .ok (.aload_n 0, 1) := by decide +kernel
theorem dX4_endWeek_241 : decode cX4_endWeek 241 = .ok (.iload_n 1, 1) := by decide +kernel
theorem dX4_endWeek_242 : decode cX4_endWeek 242 = .ok (.invokevirtual 125, 3) := by decide +kernel
theorem dX4_endWeek_245 : decode cX4_endWeek 245 = .ok (.ireturn, 1) := by decide +kernel
theorem dX4_weekCount_0 : decode cX4_weekCount 0 = .ok (.aload_n 0, 1) := by decide +kernel
theorem dX4_weekCount_1 : decode cX4_weekCount 1 = .ok (.aload_n 0, 1) := by decide +kernel
theorem dX4_weekCount_2 : decode cX4_weekCount 2 = .ok (.getfield 155, 3) := by decide +kernel
theorem dX4_weekCount_5 : decode cX4_weekCount 5 = .ok (.invokevirtual 125, 3) := by decide +kernel
theorem dX4_weekCount_8 : decode cX4_weekCount 8 = .ok (.ireturn, 1) := by decide +kernel
theorem dX4_deep_0 : decode cX4_deep 0 = .ok (.aload_n 0, 1) := by decide +kernel
theorem dX4_deep_1 : decode cX4_deep 1 = .ok (.getfield 48, 3) := by decide +kernel
theorem dX4_deep_4 : decode cX4_deep 4 = .ok (.iload_n 1, 1) := by decide +kernel
theorem dX4_deep_5 : decode cX4_deep 5 = .ok (.iaload, 1) := by decide +kernel
theorem dX4_deep_6 : decode cX4_deep 6 = .ok (.aload_n 0, 1) := by decide +kernel
theorem dX4_deep_7 : decode cX4_deep 7 = .ok (.getfield 54, 3) := by decide +kernel
theorem dX4_deep_10 : decode cX4_deep 10 = .ok (.iload_n 1, 1) := by decide +kernel
theorem dX4_deep_11 : decode cX4_deep 11 = .ok (.iaload, 1) := by decide +kernel
theorem dX4_deep_12 : decode cX4_deep 12 = .ok (.aload_n 0, 1) := by decide +kernel
theorem dX4_deep_13 : decode cX4_deep 13 = .ok (.getfield 51, 3) := by decide +kernel
theorem dX4_deep_16 : decode cX4_deep 16 = .ok (.iload_n 1, 1) := by decide +kernel
theorem dX4_deep_17 : decode cX4_deep 17 = .ok (.iaload, 1) := by decide +kernel
theorem dX4_deep_18 : decode cX4_deep 18 = .ok (.iadd, 1) := by decide +kernel
theorem dX4_deep_19 : decode cX4_deep 19 = .ok (.iconst 1, 1) := by decide +kernel
theorem dX4_deep_20 : decode cX4_deep 20 = .ok (.isub, 1) := by decide +kernel
theorem dX4_deep_21 : decode cX4_deep 21 = .ok (.aload_n 0, 1) := by decide +kernel
theorem dX4_deep_22 : decode cX4_deep 22 = .ok (.getfield 51, 3) := by decide +kernel
theorem dX4_deep_25 : decode cX4_deep 25 = .ok (.iload_n 1, 1) := by decide +kernel
theorem dX4_deep_26 : decode cX4_deep 26 = .ok (.iaload, 1) := by decide +kernel
theorem dX4_deep_27 : decode cX4_deep 27 = .ok (.idiv, 1) := by decide +kernel
theorem dX4_deep_28 : decode cX4_deep 28 = .ok (.iadd, 1) := by decide +kernel
theorem dX4_deep_29 : decode cX4_deep 29 = .ok (.ireturn, 1) := by decide +kernel
theorem dX4_floats_0 : decode cX4_floats 0 = .ok (.aload_n 0, 1) := by decide +kernel
theorem dX4_floats_1 : decode cX4_floats 1 = .ok (.iload_n 1, 1) := by decide +kernel
theorem dX4_floats_2 : decode cX4_floats 2 = .ok (.invokevirtual 158, 3) := by decide +kernel
theorem dX4_floats_5 : decode cX4_floats 5 = .ok (.aload_n 0, 1) := by decide +kernel
theorem dX4_floats_6 : decode cX4_floats 6 = .ok (.aload_n 0, 1) := by decide +kernel
theorem dX4_floats_7 : decode cX4_floats 7 = .ok (.getfield 42, 3) := by decide +kernel
theorem dX4_floats_10 : decode cX4_floats 10 = .ok (.iload_n 1, 1) := by decide +kernel
theorem dX4_floats_11 : decode cX4_floats 11 = .ok (.iaload, 1) := by decide +kernel
theorem dX4_floats_12 : decode cX4_floats 12 = .ok (.invokevirtual 135, 3) := by decide +kernel
theorem dX4_floats_15 : decode cX4_floats 15 = .ok (.if_icmp .ge 7, 3) := by decide +kernel
theorem dX4_floats_18 : decode cX4_floats 18 = .ok (.iconst 1, 1) := by decide +kernel
theorem dX4_floats_19 : decode cX4_floats 19 = .ok (.goto 4, 3) := by decide +kernel
theorem dX4_floats_22 : decode cX4_floats 22 = .ok (.iconst 0, 1) := by decide +kernel
theorem dX4_floats_23 : decode cX4_floats 23 = .ok (.ireturn, 1) := by decide +kernel
theorem dX4_addBarge_0 : decode cX4_addBarge 0 = .ok (.aload_n 0, 1) := by decide +kernel
theorem dX4_addBarge_1 : decode cX4_addBarge 1 = .ok (.iload_n 1, 1) := by decide +kernel
theorem dX4_addBarge_2 : decode cX4_addBarge 2 = .ok (.invokevirtual 128, 3) := by decide +kernel
theorem dX4_addBarge_5 : decode cX4_addBarge 5 = .ok (.ifCond .ne 9, 3) := by decide +kernel
theorem dX4_addBarge_8 : decode cX4_addBarge 8 = .ok (.aload_n 0, 1) := by decide +kernel
theorem dX4_addBarge_9 : decode cX4_addBarge 9 = .ok (.iconst 1, 1) := by decide +kernel
theorem dX4_addBarge_10 : decode cX4_addBarge 10 = .ok (.invokevirtual 121, 3) := by decide +kernel
theorem dX4_addBarge_13 : decode cX4_addBarge 13 = .ok (.ireturn, 1) := by decide +kernel
theorem dX4_addBarge_14 : decode cX4_addBarge 14 = .ok (.iload_n 2, 1) := by decide +kernel
theorem dX4_addBarge_15 : decode cX4_addBarge 15 = .ok (.iconst 5, 1) := by decide +kernel
theorem dX4_addBarge_16 : decode cX4_addBarge 16 = .ok (.bipush 80, 2) := by decide +kernel
theorem dX4_addBarge_18 : decode cX4_addBarge 18 = .ok (.invokestatic 104, 3) := by decide +kernel
theorem dX4_addBarge_21 : decode cX4_addBarge 21 = .ok (.ifCond .eq 24, 3) := by decide +kernel
theorem dX4_addBarge_24 : decode cX4_addBarge 24 = .ok (.iload_n 3, 1) := by decide +kernel
theorem dX4_addBarge_25 : decode cX4_addBarge 25 = .ok (.iconst 2, 1) := by decide +kernel
theorem dX4_addBarge_26 : decode cX4_addBarge 26 = .ok (.bipush 20, 2) := by decide +kernel
theorem dX4_addBarge_28 : decode cX4_addBarge 28 = .ok (.invokestatic 104, 3) := by decide +kernel
theorem dX4_addBarge_31 : decode cX4_addBarge 31 = .ok (.ifCond .eq 14, 3) := by decide +kernel
theorem dX4_addBarge_34 : decode cX4_addBarge 34 = .ok (.iload 4, 2) := by decide +kernel
theorem dX4_addBarge_36 : decode cX4_addBarge 36 = .ok (.iconst 1, 1) := by decide +kernel
theorem dX4_addBarge_37 : decode cX4_addBarge 37 = .ok (.bipush 20, 2) := by decide +kernel
theorem dX4_addBarge_39 : decode cX4_addBarge 39 = .ok (.invokestatic 104, 3) := by decide +kernel
theorem dX4_addBarge_42 : decode cX4_addBarge 42 = .ok (.ifCond .ne 9, 3) := by decide +kernel
theorem dX4_addBarge_45 : decode cX4_addBarge 45 = .ok (.aload_n 0, 1) := by decide +kernel
theorem dX4_addBarge_46 : decode cX4_addBarge 46 = .ok (.iconst 2, 1) := by decide +kernel
theorem dX4_addBarge_47 : decode cX4_addBarge 47 = .ok (.invokevirtual 121, 3) := by decide +kernel
theorem dX4_addBarge_50 : decode cX4_addBarge 50 = .ok (.ireturn, 1) := by decide +kernel
theorem dX4_addBarge_51 : decode cX4_addBarge 51 = .ok (.aload_n 0, 1) := by decide +kernel
theorem dX4_addBarge_52 : decode cX4_addBarge 52 = .ok (.getfield 108, 3) := by decide +kernel
theorem dX4_addBarge_55 : decode cX4_addBarge 55 = .ok (.bipush 8, 2) := by decide +kernel
theorem dX4_addBarge_57 : decode cX4_addBarge 57 = .ok (.if_icmp .ne 9, 3) := by decide +kernel
theorem dX4_addBarge_60 : decode cX4_addBarge 60 = .ok (.aload_n 0, 1) := by decide +kernel
theorem dX4_addBarge_61 : decode cX4_addBarge 61 = .ok (.iconst 3, 1) := by decide +kernel
theorem dX4_addBarge_62 : decode cX4_addBarge 62 = .ok (.invokevirtual 121, 3) := by decide +kernel
theorem dX4_addBarge_65 : decode cX4_addBarge 65 = .ok (.ireturn, 1) := by decide +kernel
theorem dX4_addBarge_66 : decode cX4_addBarge 66 = .ok (.iload_n 3, 1) := by decide +kernel
theorem dX4_addBarge_67 : decode cX4_addBarge 67 = .ok (.aload_n 0, 1) := by decide +kernel
theorem dX4_addBarge_68 : decode cX4_addBarge 68 = .ok (.iload_n 1, 1) := by decide +kernel
theorem dX4_addBarge_69 : decode cX4_addBarge 69 = .ok (.invokevirtual 135, 3) := by decide +kernel
theorem dX4_addBarge_72 : decode cX4_addBarge 72 = .ok (.if_icmp .lt 9, 3) := by decide +kernel
theorem dX4_addBarge_75 : decode cX4_addBarge 75 = .ok (.aload_n 0, 1) := by decide +kernel
theorem dX4_addBarge_76 : decode cX4_addBarge 76 = .ok (.iconst 4, 1) := by decide +kernel
theorem dX4_addBarge_77 : decode cX4_addBarge 77 = .ok (.invokevirtual 121, 3) := by decide +kernel
theorem dX4_addBarge_80 : decode cX4_addBarge 80 = .ok (.ireturn, 1) := by decide +kernel
theorem dX4_addBarge_81 : decode cX4_addBarge 81 = .ok (.aload_n 0, 1) := by decide +kernel
theorem dX4_addBarge_82 : decode cX4_addBarge 82 = .ok (.getfield 42, 3) := by decide +kernel
theorem dX4_addBarge_85 : decode cX4_addBarge 85 = .ok (.aload_n 0, 1) := by decide +kernel
theorem dX4_addBarge_86 : decode cX4_addBarge 86 = .ok (.getfield 108, 3) := by decide +kernel
theorem dX4_addBarge_89 : decode cX4_addBarge 89 = .ok (.iload_n 1, 1) := by decide +kernel
theorem dX4_addBarge_90 : decode cX4_addBarge 90 = .ok (.iastore, 1) := by decide +kernel
theorem dX4_addBarge_91 : decode cX4_addBarge 91 = .ok (.aload_n 0, 1) := by decide +kernel
theorem dX4_addBarge_92 : decode cX4_addBarge 92 = .ok (.getfield 45, 3) := by decide +kernel
theorem dX4_addBarge_95 : decode cX4_addBarge 95 = .ok (.aload_n 0, 1) := by decide +kernel
theorem dX4_addBarge_96 : decode cX4_addBarge 96 = .ok (.getfield 108, 3) := by decide +kernel
theorem dX4_addBarge_99 : decode cX4_addBarge 99 = .ok (.iload_n 2, 1) := by decide +kernel
theorem dX4_addBarge_100 : decode cX4_addBarge 100 = .ok (.iastore, 1) := by decide +kernel
theorem dX4_addBarge_101 : decode cX4_addBarge 101 = .ok (.aload_n 0, 1) := by decide +kernel
theorem dX4_addBarge_102 : decode cX4_addBarge 102 = .ok (.getfield 48, 3) := by decide +kernel
theorem dX4_addBarge_105 : decode cX4_addBarge 105 = .ok (.aload_n 0, 1) := by decide +kernel
theorem dX4_addBarge_106 : decode cX4_addBarge 106 = .ok (.getfield 108, 3) := by decide +kernel
theorem dX4_addBarge_109 : decode cX4_addBarge 109 = .ok (.iload_n 3, 1) := by decide +kernel
theorem dX4_addBarge_110 : decode cX4_addBarge 110 = .ok (.iastore, 1) := by decide +kernel
theorem dX4_addBarge_111 : decode cX4_addBarge 111 = .ok (.aload_n 0, 1) := by decide +kernel
theorem dX4_addBarge_112 : decode cX4_addBarge 112 = .ok (.getfield 51, 3) := by decide +kernel
theorem dX4_addBarge_115 : decode cX4_addBarge 115 = .ok (.aload_n 0, 1) := by decide +kernel
theorem dX4_addBarge_116 : decode cX4_addBarge 116 = .ok (.getfield 108, 3) := by decide +kernel
theorem dX4_addBarge_119 : decode cX4_addBarge 119 = .ok (.iload 4, 2) := by decide +kernel
theorem dX4_addBarge_121 : decode cX4_addBarge 121 = .ok (.iastore, 1) := by decide +kernel
theorem dX4_addBarge_122 : decode cX4_addBarge 122 = .ok (.aload_n 0, 1) := by decide +kernel
theorem dX4_addBarge_123 : decode cX4_addBarge 123 = .ok (.getfield 57, 3) := by decide +kernel
theorem dX4_addBarge_126 : decode cX4_addBarge 126 = .ok (.aload_n 0, 1) := by decide +kernel
theorem dX4_addBarge_127 : decode cX4_addBarge 127 = .ok (.getfield 108, 3) := by decide +kernel
theorem dX4_addBarge_130 : decode cX4_addBarge 130 = .ok (.iconst (-1), 1) := by decide +kernel
theorem dX4_addBarge_131 : decode cX4_addBarge 131 = .ok (.iastore, 1) := by decide +kernel
theorem dX4_addBarge_132 : decode cX4_addBarge 132 = .ok (.aload_n 0, 1) := by decide +kernel
theorem dX4_addBarge_133 : decode cX4_addBarge 133 = .ok (.getfield 60, 3) := by decide +kernel
theorem dX4_addBarge_136 : decode cX4_addBarge 136 = .ok (.aload_n 0, 1) := by decide +kernel
theorem dX4_addBarge_137 : decode cX4_addBarge 137 = .ok (.getfield 108, 3) := by decide +kernel
theorem dX4_addBarge_140 : decode cX4_addBarge 140 = .ok (.iconst (-1), 1) := by decide +kernel
theorem dX4_addBarge_141 : decode cX4_addBarge 141 = .ok (.iastore, 1) := by decide +kernel
theorem dX4_addBarge_142 : decode cX4_addBarge 142 = .ok (.aload_n 0, 1) := by decide +kernel
theorem dX4_addBarge_143 : decode cX4_addBarge 143 = .ok (.dup, 1) := by decide +kernel
theorem dX4_addBarge_144 : decode cX4_addBarge 144 = .ok (.getfield 108, 3) := by decide +kernel
theorem dX4_addBarge_147 : decode cX4_addBarge 147 = .ok (.iconst 1, 1) := by decide +kernel
theorem dX4_addBarge_148 : decode cX4_addBarge 148 = .ok (.iadd, 1) := by decide +kernel
theorem dX4_addBarge_149 : decode cX4_addBarge 149 = .ok (.putfield 108, 3) := by decide +kernel
theorem dX4_addBarge_152 : decode cX4_addBarge 152 = .ok (.aload_n 0, 1) := by decide +kernel
theorem dX4_addBarge_153 : decode cX4_addBarge 153 = .ok (.aload_n 0, 1) := by decide +kernel
theorem dX4_addBarge_154 : decode cX4_addBarge 154 = .ok (.getfield 108, 3) := by decide +kernel
theorem dX4_addBarge_157 : decode cX4_addBarge 157 = .ok (.iconst 1, 1) := by decide +kernel
theorem dX4_addBarge_158 : decode cX4_addBarge 158 = .ok (.isub, 1) := by decide +kernel
theorem dX4_addBarge_159 : decode cX4_addBarge 159 = .ok (.invokevirtual 125, 3) := by decide +kernel
theorem dX4_addBarge_162 : decode cX4_addBarge 162 = .ok (.ireturn, 1) := by decide +kernel
theorem dX4_bargeCount_0 : decode cX4_bargeCount 0 = .ok (.aload_n 0, 1) := by decide +kernel
theorem dX4_bargeCount_1 : decode cX4_bargeCount 1 = .ok (.aload_n 0, 1) := by decide +kernel
theorem dX4_bargeCount_2 : decode cX4_bargeCount 2 = .ok (.getfield 108, 3) := by decide +kernel
theorem dX4_bargeCount_5 : decode cX4_bargeCount 5 = .ok (.invokevirtual 125, 3) := by decide +kernel
theorem dX4_bargeCount_8 : decode cX4_bargeCount 8 = .ok (.ireturn, 1) := by decide +kernel
theorem dX4_reachOf_0 : decode cX4_reachOf 0 = .ok (.aload_n 0, 1) := by decide +kernel
theorem dX4_reachOf_1 : decode cX4_reachOf 1 = .ok (.iload_n 1, 1) := by decide +kernel
theorem dX4_reachOf_2 : decode cX4_reachOf 2 = .ok (.invokevirtual 161, 3) := by decide +kernel
theorem dX4_reachOf_5 : decode cX4_reachOf 5 = .ok (.ifCond .eq 16, 3) := by decide +kernel
theorem dX4_reachOf_8 : decode cX4_reachOf 8 = .ok (.aload_n 0, 1) := by decide +kernel
theorem dX4_reachOf_9 : decode cX4_reachOf 9 = .ok (.aload_n 0, 1) := by decide +kernel
theorem dX4_reachOf_10 : decode cX4_reachOf 10 = .ok (.getfield 42, 3) := by decide +kernel
theorem dX4_reachOf_13 : decode cX4_reachOf 13 = .ok (.iload_n 1, 1) := by decide +kernel
theorem dX4_reachOf_14 : decode cX4_reachOf 14 = .ok (.iaload, 1) := by decide +kernel
theorem dX4_reachOf_15 : decode cX4_reachOf 15 = .ok (.invokevirtual 125, 3) := by decide +kernel
theorem dX4_reachOf_18 : decode cX4_reachOf 18 = .ok (.goto 8, 3) := by decide +kernel
theorem dX4_reachOf_21 : decode cX4_reachOf 21 = .ok (.aload_n 0, 1) := by decide +kernel
theorem dX4_reachOf_22 : decode cX4_reachOf 22 = .ok (.iconst 1, 1) := by decide +kernel
theorem dX4_reachOf_23 : decode cX4_reachOf 23 = .ok (.invokevirtual 121, 3) := by decide +kernel
theorem dX4_reachOf_26 : decode cX4_reachOf 26 = .ok (.ireturn, 1) := by decide +kernel
theorem dX4_cargoOf_0 : decode cX4_cargoOf 0 = .ok (.aload_n 0, 1) := by decide +kernel
theorem dX4_cargoOf_1 : decode cX4_cargoOf 1 = .ok (.iload_n 1, 1) := by decide +kernel
theorem dX4_cargoOf_2 : decode cX4_cargoOf 2 = .ok (.invokevirtual 161, 3) := by decide +kernel
theorem dX4_cargoOf_5 : decode cX4_cargoOf 5 = .ok (.ifCond .eq 16, 3) := by decide +kernel
theorem dX4_cargoOf_8 : decode cX4_cargoOf 8 = .ok (.aload_n 0, 1) := by decide +kernel
theorem dX4_cargoOf_9 : decode cX4_cargoOf 9 = .ok (.aload_n 0, 1) := by decide +kernel
theorem dX4_cargoOf_10 : decode cX4_cargoOf 10 = .ok (.getfield 54, 3) := by decide +kernel
theorem dX4_cargoOf_13 : decode cX4_cargoOf 13 = .ok (.iload_n 1, 1) := by decide +kernel
theorem dX4_cargoOf_14 : decode cX4_cargoOf 14 = .ok (.iaload, 1) := by decide +kernel
theorem dX4_cargoOf_15 : decode cX4_cargoOf 15 = .ok (.invokevirtual 125, 3) := by decide +kernel
theorem dX4_cargoOf_18 : decode cX4_cargoOf 18 = .ok (.goto 8, 3) := by decide +kernel
theorem dX4_cargoOf_21 : decode cX4_cargoOf 21 = .ok (.aload_n 0, 1) := by decide +kernel
theorem dX4_cargoOf_22 : decode cX4_cargoOf 22 = .ok (.iconst 1, 1) := by decide +kernel
theorem dX4_cargoOf_23 : decode cX4_cargoOf 23 = .ok (.invokevirtual 121, 3) := by decide +kernel
theorem dX4_cargoOf_26 : decode cX4_cargoOf 26 = .ok (.ireturn, 1) := by decide +kernel
theorem dX4_draughtOf_0 : decode cX4_draughtOf 0 = .ok (.aload_n 0, 1) := by decide +kernel
theorem dX4_draughtOf_1 : decode cX4_draughtOf 1 = .ok (.iload_n 1, 1) := by decide +kernel
theorem dX4_draughtOf_2 : decode cX4_draughtOf 2 = .ok (.invokevirtual 161, 3) := by decide +kernel
theorem dX4_draughtOf_5 : decode cX4_draughtOf 5 = .ok (.ifCond .eq 15, 3) := by decide +kernel
theorem dX4_draughtOf_8 : decode cX4_draughtOf 8 = .ok (.aload_n 0, 1) := by decide +kernel
theorem dX4_draughtOf_9 : decode cX4_draughtOf 9 = .ok (.aload_n 0, 1) := by decide +kernel
theorem dX4_draughtOf_10 : decode cX4_draughtOf 10 = .ok (.iload_n 1, 1) := by decide +kernel
theorem dX4_draughtOf_11 : decode cX4_draughtOf 11 = .ok (.invokevirtual 158, 3) := by decide +kernel
theorem dX4_draughtOf_14 : decode cX4_draughtOf 14 = .ok (.invokevirtual 125, 3) := by decide +kernel
theorem dX4_draughtOf_17 : decode cX4_draughtOf 17 = .ok (.goto 8, 3) := by decide +kernel
theorem dX4_draughtOf_20 : decode cX4_draughtOf 20 = .ok (.aload_n 0, 1) := by decide +kernel
theorem dX4_draughtOf_21 : decode cX4_draughtOf 21 = .ok (.iconst 1, 1) := by decide +kernel
theorem dX4_draughtOf_22 : decode cX4_draughtOf 22 = .ok (.invokevirtual 121, 3) := by decide +kernel
theorem dX4_draughtOf_25 : decode cX4_draughtOf 25 = .ok (.ireturn, 1) := by decide +kernel
theorem dX4_isAfloat_0 : decode cX4_isAfloat 0 = .ok (.aload_n 0, 1) := by decide +kernel
theorem dX4_isAfloat_1 : decode cX4_isAfloat 1 = .ok (.aload_n 0, 1) := by decide +kernel
theorem dX4_isAfloat_2 : decode cX4_isAfloat 2 = .ok (.iload_n 1, 1) := by decide +kernel
theorem dX4_isAfloat_3 : decode cX4_isAfloat 3 = .ok (.invokevirtual 161, 3) := by decide +kernel
theorem dX4_isAfloat_6 : decode cX4_isAfloat 6 = .ok (.ifCond .eq 7, 3) := by decide +kernel
theorem dX4_isAfloat_9 : decode cX4_isAfloat 9 = .ok (.iconst 0, 1) := by decide +kernel
theorem dX4_isAfloat_10 : decode cX4_isAfloat 10 = .ok (.goto 4, 3) := by decide +kernel
theorem dX4_isAfloat_13 : decode cX4_isAfloat 13 = .ok (.iconst 1, 1) := by decide +kernel
theorem dX4_isAfloat_14 : decode cX4_isAfloat 14 = .ok (.aload_n 0, 1) := by decide +kernel
theorem dX4_isAfloat_15 : decode cX4_isAfloat 15 = .ok (.iload_n 1, 1) := by decide +kernel
theorem dX4_isAfloat_16 : decode cX4_isAfloat 16 = .ok (.invokevirtual 161, 3) := by decide +kernel
theorem dX4_isAfloat_19 : decode cX4_isAfloat 19 = .ok (.ifCond .eq 15, 3) := by decide +kernel
theorem dX4_isAfloat_22 : decode cX4_isAfloat 22 = .ok (.aload_n 0, 1) := by decide +kernel
theorem dX4_isAfloat_23 : decode cX4_isAfloat 23 = .ok (.iload_n 1, 1) := by decide +kernel
theorem dX4_isAfloat_24 : decode cX4_isAfloat 24 = .ok (.invokevirtual 164, 3) := by decide +kernel
theorem dX4_isAfloat_27 : decode cX4_isAfloat 27 = .ok (.ifCond .eq 7, 3) := by decide +kernel
theorem dX4_isAfloat_30 : decode cX4_isAfloat 30 = .ok (.iconst 1, 1) := by decide +kernel
theorem dX4_isAfloat_31 : decode cX4_isAfloat 31 = .ok (.goto 4, 3) := by decide +kernel
theorem dX4_isAfloat_34 : decode cX4_isAfloat 34 = .ok (.iconst 0, 1) := by decide +kernel
theorem dX4_isAfloat_35 : decode cX4_isAfloat 35 = .ok (.invokevirtual 141, 3) := by decide +kernel
theorem dX4_isAfloat_38 : decode cX4_isAfloat 38 = .ok (.ireturn, 1) := by decide +kernel
theorem dX4_first_0 : decode cX4_first 0 = .ok (.iload_n 1, 1) := by decide +kernel
theorem dX4_first_1 : decode cX4_first 1 = .ok (.istore_n 2, 1) := by decide +kernel
theorem dX4_first_2 : decode cX4_first 2 = .ok (.aload_n 0, 1) := by decide +kernel
theorem dX4_first_3 : decode cX4_first 3 = .ok (.getfield 57, 3) := by decide +kernel
theorem dX4_first_6 : decode cX4_first 6 = .ok (.iload_n 2, 1) := by decide +kernel
theorem dX4_first_7 : decode cX4_first 7 = .ok (.iaload, 1) := by decide +kernel
theorem dX4_first_8 : decode cX4_first 8 = .ok (.iconst (-1), 1) := by decide +kernel
theorem dX4_first_9 : decode cX4_first 9 = .ok (.if_icmp .eq 13, 3) := by decide +kernel
theorem dX4_first_12 : decode cX4_first 12 = .ok (.aload_n 0, 1) := by decide +kernel
theorem dX4_first_13 : decode cX4_first 13 = .ok (.getfield 57, 3) := by decide +kernel
theorem dX4_first_16 : decode cX4_first 16 = .ok (.iload_n 2, 1) := by decide +kernel
theorem dX4_first_17 : decode cX4_first 17 = .ok (.iaload, 1) := by decide +kernel
theorem dX4_first_18 : decode cX4_first 18 = .ok (.istore_n 2, 1) := by decide +kernel
theorem dX4_first_19 : decode cX4_first 19 = .ok (.goto (-17), 3) := by decide +kernel
theorem dX4_first_22 : decode cX4_first 22 = .ok (.iload_n 2, 1) := by decide +kernel
theorem dX4_first_23 : decode cX4_first 23 = .ok (.ireturn, 1) := by decide +kernel
theorem dX4_size_0 : decode cX4_size 0 = .ok (.iconst 0, 1) := by decide +kernel
theorem dX4_size_1 : decode cX4_size 1 = .ok (.istore_n 2, 1) := by decide +kernel
theorem dX4_size_2 : decode cX4_size 2 = .ok (.aload_n 0, 1) := by decide +kernel
theorem dX4_size_3 : decode cX4_size 3 = .ok (.iload_n 1, 1) := by decide +kernel
theorem dX4_size_4 : decode cX4_size 4 = .ok (.invokevirtual 167, 3) := by decide +kernel
theorem dX4_size_7 : decode cX4_size 7 = .ok (.istore_n 3, 1) := by decide +kernel
theorem dX4_size_8 : decode cX4_size 8 = .ok (.iload_n 3, 1) := by decide +kernel
theorem dX4_size_9 : decode cX4_size 9 = .ok (.iconst (-1), 1) := by decide +kernel
theorem dX4_size_10 : decode cX4_size 10 = .ok (.if_icmp .eq 16, 3) := by decide +kernel
theorem dX4_size_13 : decode cX4_size 13 = .ok (.iinc 2 1, 3) := by decide +kernel
theorem dX4_size_16 : decode cX4_size 16 = .ok (.aload_n 0, 1) := by decide +kernel
theorem dX4_size_17 : decode cX4_size 17 = .ok (.getfield 60, 3) := by decide +kernel
theorem dX4_size_20 : decode cX4_size 20 = .ok (.iload_n 3, 1) := by decide +kernel
theorem dX4_size_21 : decode cX4_size 21 = .ok (.iaload, 1) := by decide +kernel
theorem dX4_size_22 : decode cX4_size 22 = .ok (.istore_n 3, 1) := by decide +kernel
theorem dX4_size_23 : decode cX4_size 23 = .ok (.goto (-15), 3) := by decide +kernel
theorem dX4_size_26 : decode cX4_size 26 = .ok (.iload_n 2, 1) := by decide +kernel
theorem dX4_size_27 : decode cX4_size 27 = .ok (.ireturn, 1) := by decide +kernel
theorem dX4_couple_0 : decode cX4_couple 0 = .ok (.aload_n 0, 1) := by decide +kernel
theorem dX4_couple_1 : decode cX4_couple 1 = .ok (.iload_n 1, 1) := by decide +kernel
theorem dX4_couple_2 : decode cX4_couple 2 = .ok (.invokevirtual 161, 3) := by decide +kernel
theorem dX4_couple_5 : decode cX4_couple 5 = .ok (.ifCond .eq 11, 3) := by decide +kernel
theorem dX4_couple_8 : decode cX4_couple 8 = .ok (.aload_n 0, 1) := by decide +kernel
theorem dX4_couple_9 : decode cX4_couple 9 = .ok (.iload_n 2, 1) := by decide +kernel
theorem dX4_couple_10 : decode cX4_couple 10 = .ok (.invokevirtual 161, 3) := by decide +kernel
theorem dX4_couple_13 : decode cX4_couple 13 = .ok (.ifCond .ne 9, 3) := by decide +kernel
theorem dX4_couple_16 : decode cX4_couple 16 = .ok (.aload_n 0, 1) := by decide +kernel
theorem dX4_couple_17 : decode cX4_couple 17 = .ok (.iconst 1, 1) := by decide +kernel
theorem dX4_couple_18 : decode cX4_couple 18 = .ok (.invokevirtual 121, 3) := by decide +kernel
theorem dX4_couple_21 : decode cX4_couple 21 = .ok (.ireturn, 1) := by decide +kernel
theorem dX4_couple_22 : decode cX4_couple 22 = .ok (.aload_n 0, 1) := by decide +kernel
theorem dX4_couple_23 : decode cX4_couple 23 = .ok (.iload_n 1, 1) := by decide +kernel
theorem dX4_couple_24 : decode cX4_couple 24 = .ok (.invokevirtual 167, 3) := by decide +kernel
theorem dX4_couple_27 : decode cX4_couple 27 = .ok (.aload_n 0, 1) := by decide +kernel
theorem dX4_couple_28 : decode cX4_couple 28 = .ok (.iload_n 2, 1) := by decide +kernel
theorem dX4_couple_29 : decode cX4_couple 29 = .ok (.invokevirtual 167, 3) := by decide +kernel
theorem dX4_couple_32 : decode cX4_couple 32 = .ok (.if_icmp .ne 9, 3) := by decide +kernel
theorem dX4_couple_35 : decode cX4_couple 35 = .ok (.aload_n 0, 1) := by decide +kernel
theorem dX4_couple_36 : decode cX4_couple 36 = .ok (.iconst 2, 1) := by decide +kernel
theorem dX4_couple_37 : decode cX4_couple 37 = .ok (.invokevirtual 121, 3) := by decide +kernel
theorem dX4_couple_40 : decode cX4_couple 40 = .ok (.ireturn, 1) := by decide +kernel
theorem dX4_couple_41 : decode cX4_couple 41 = .ok (.aload_n 0, 1) := by decide +kernel
theorem dX4_couple_42 : decode cX4_couple 42 = .ok (.getfield 42, 3) := by decide +kernel
theorem dX4_couple_45 : decode cX4_couple 45 = .ok (.iload_n 1, 1) := by decide +kernel
theorem dX4_couple_46 : decode cX4_couple 46 = .ok (.iaload, 1) := by decide +kernel
theorem dX4_couple_47 : decode cX4_couple 47 = .ok (.aload_n 0, 1) := by decide +kernel
theorem dX4_couple_48 : decode cX4_couple 48 = .ok (.getfield 42, 3) := by decide +kernel
theorem dX4_couple_51 : decode cX4_couple 51 = .ok (.iload_n 2, 1) := by decide +kernel
theorem dX4_couple_52 : decode cX4_couple 52 = .ok (.iaload, 1) := by decide +kernel
theorem dX4_couple_53 : decode cX4_couple 53 = .ok (.if_icmp .ne 18, 3) := by decide +kernel
theorem dX4_couple_56 : decode cX4_couple 56 = .ok (.aload_n 0, 1) := by decide +kernel
theorem dX4_couple_57 : decode cX4_couple 57 = .ok (.iload_n 1, 1) := by decide +kernel
theorem dX4_couple_58 : decode cX4_couple 58 = .ok (.invokevirtual 170, 3) := by decide +kernel
theorem dX4_couple_61 : decode cX4_couple 61 = .ok (.aload_n 0, 1) := by decide +kernel
theorem dX4_couple_62 : decode cX4_couple 62 = .ok (.iload_n 2, 1) := by decide +kernel
theorem dX4_couple_63 : decode cX4_couple 63 = .ok (.invokevirtual 170, 3) := by decide +kernel
theorem dX4_couple_66 : decode cX4_couple 66 = .ok (.iadd, 1) := by decide +kernel
theorem dX4_couple_67 : decode cX4_couple 67 = .ok (.iconst 4, 1) := by decide +kernel
theorem dX4_couple_68 : decode cX4_couple 68 = .ok (.if_icmp .le 9, 3) := by decide +kernel
theorem dX4_couple_71 : decode cX4_couple 71 = .ok (.aload_n 0, 1) := by decide +kernel
theorem dX4_couple_72 : decode cX4_couple 72 = .ok (.iconst 3, 1) := by decide +kernel
theorem dX4_couple_73 : decode cX4_couple 73 = .ok (.invokevirtual 121, 3) := by decide +kernel
theorem dX4_couple_76 : decode cX4_couple 76 = .ok (.ireturn, 1) := by decide +kernel
theorem dX4_couple_77 : decode cX4_couple 77 = .ok (.iload_n 1, 1) := by decide +kernel
theorem dX4_couple_78 : decode cX4_couple 78 = .ok (.istore_n 3, 1) := by decide +kernel
theorem dX4_couple_79 : decode cX4_couple 79 = .ok (.aload_n 0, 1) := by decide +kernel
theorem dX4_couple_80 : decode cX4_couple 80 = .ok (.getfield 60, 3) := by decide +kernel
theorem dX4_couple_83 : decode cX4_couple 83 = .ok (.iload_n 3, 1) := by decide +kernel
theorem dX4_couple_84 : decode cX4_couple 84 = .ok (.iaload, 1) := by decide +kernel
theorem dX4_couple_85 : decode cX4_couple 85 = .ok (.iconst (-1), 1) := by decide +kernel
theorem dX4_couple_86 : decode cX4_couple 86 = .ok (.if_icmp .eq 13, 3) := by decide +kernel
theorem dX4_couple_89 : decode cX4_couple 89 = .ok (.aload_n 0, 1) := by decide +kernel
theorem dX4_couple_90 : decode cX4_couple 90 = .ok (.getfield 60, 3) := by decide +kernel
theorem dX4_couple_93 : decode cX4_couple 93 = .ok (.iload_n 3, 1) := by decide +kernel
theorem dX4_couple_94 : decode cX4_couple 94 = .ok (.iaload, 1) := by decide +kernel
theorem dX4_couple_95 : decode cX4_couple 95 = .ok (.istore_n 3, 1) := by decide +kernel
theorem dX4_couple_96 : decode cX4_couple 96 = .ok (.goto (-17), 3) := by decide +kernel
theorem dX4_couple_99 : decode cX4_couple 99 = .ok (.aload_n 0, 1) := by decide +kernel
theorem dX4_couple_100 : decode cX4_couple 100 = .ok (.iload_n 2, 1) := by decide +kernel
theorem dX4_couple_101 : decode cX4_couple 101 = .ok (.invokevirtual 167, 3) := by decide +kernel
theorem dX4_couple_104 : decode cX4_couple 104 = .ok (.istore 4, 2) := by decide +kernel
theorem dX4_couple_106 : decode cX4_couple 106 = .ok (.aload_n 0, 1) := by decide +kernel
theorem dX4_couple_107 : decode cX4_couple 107 = .ok (.getfield 60, 3) := by decide +kernel
theorem dX4_couple_110 : decode cX4_couple 110 = .ok (.iload_n 3, 1) := by decide +kernel
theorem dX4_couple_111 : decode cX4_couple 111 = .ok (.iload 4, 2) := by decide +kernel
theorem dX4_couple_113 : decode cX4_couple 113 = .ok (.iastore, 1) := by decide +kernel
theorem dX4_couple_114 : decode cX4_couple 114 = .ok (.aload_n 0, 1) := by decide +kernel
theorem dX4_couple_115 : decode cX4_couple 115 = .ok (.getfield 57, 3) := by decide +kernel
theorem dX4_couple_118 : decode cX4_couple 118 = .ok (.iload 4, 2) := by decide +kernel
theorem dX4_couple_120 : decode cX4_couple 120 = .ok (.iload_n 3, 1) := by decide +kernel
theorem dX4_couple_121 : decode cX4_couple 121 = .ok (.iastore, 1) := by decide +kernel
theorem dX4_couple_122 : decode cX4_couple 122 = .ok (.aload_n 0, 1) := by decide +kernel
theorem dX4_couple_123 : decode cX4_couple 123 = .ok (.aload_n 0, 1) := by decide +kernel
theorem dX4_couple_124 : decode cX4_couple 124 = .ok (.iload_n 1, 1) := by decide +kernel
theorem dX4_couple_125 : decode cX4_couple 125 = .ok (.invokevirtual 170, 3) := by decide +kernel
theorem dX4_couple_128 : decode cX4_couple 128 = .ok (.invokevirtual 125, 3) := by decide +kernel
theorem dX4_couple_131 : decode cX4_couple 131 = .ok (.ireturn, 1) := by decide +kernel
theorem dX4_uncouple_0 : decode cX4_uncouple 0 = .ok (.aload_n 0, 1) := by decide +kernel
theorem dX4_uncouple_1 : decode cX4_uncouple 1 = .ok (.iload_n 1, 1) := by decide +kernel
theorem dX4_uncouple_2 : decode cX4_uncouple 2 = .ok (.invokevirtual 161, 3) := by decide +kernel
theorem dX4_uncouple_5 : decode cX4_uncouple 5 = .ok (.ifCond .ne 9, 3) := by decide +kernel
theorem dX4_uncouple_8 : decode cX4_uncouple 8 = .ok (.aload_n 0, 1) := by decide +kernel
theorem dX4_uncouple_9 : decode cX4_uncouple 9 = .ok (.iconst 1, 1) := by decide +kernel
theorem dX4_uncouple_10 : decode cX4_uncouple 10 = .ok (.invokevirtual 121, 3) := by decide +kernel
theorem dX4_uncouple_13 : decode cX4_uncouple 13 = .ok (.ireturn, 1) := by decide +kernel
theorem dX4_uncouple_14 : decode cX4_uncouple 14 = .ok (.aload_n 0, 1) := by decide +kernel
theorem dX4_uncouple_15 : decode cX4_uncouple 15 = .ok (.getfield 57, 3) := by decide +kernel
theorem dX4_uncouple_18 : decode cX4_uncouple 18 = .ok (.iload_n 1, 1) := by decide +kernel
theorem dX4_uncouple_19 : decode cX4_uncouple 19 = .ok (.iaload, 1) := by decide +kernel
theorem dX4_uncouple_20 : decode cX4_uncouple 20 = .ok (.iconst (-1), 1) := by decide +kernel
theorem dX4_uncouple_21 : decode cX4_uncouple 21 = .ok (.if_icmp .ne 9, 3) := by decide +kernel
theorem dX4_uncouple_24 : decode cX4_uncouple 24 = .ok (.aload_n 0, 1) := by decide +kernel
theorem dX4_uncouple_25 : decode cX4_uncouple 25 = .ok (.iconst 2, 1) := by decide +kernel
theorem dX4_uncouple_26 : decode cX4_uncouple 26 = .ok (.invokevirtual 121, 3) := by decide +kernel
theorem dX4_uncouple_29 : decode cX4_uncouple 29 = .ok (.ireturn, 1) := by decide +kernel
theorem dX4_uncouple_30 : decode cX4_uncouple 30 = .ok (.aload_n 0, 1) := by decide +kernel
theorem dX4_uncouple_31 : decode cX4_uncouple 31 = .ok (.getfield 57, 3) := by decide +kernel
theorem dX4_uncouple_34 : decode cX4_uncouple 34 = .ok (.iload_n 1, 1) := by decide +kernel
theorem dX4_uncouple_35 : decode cX4_uncouple 35 = .ok (.iaload, 1) := by decide +kernel
theorem dX4_uncouple_36 : decode cX4_uncouple 36 = .ok (.istore_n 2, 1) := by decide +kernel
theorem dX4_uncouple_37 : decode cX4_uncouple 37 = .ok (.aload_n 0, 1) := by decide +kernel
theorem dX4_uncouple_38 : decode cX4_uncouple 38 = .ok (.getfield 60, 3) := by decide +kernel
theorem dX4_uncouple_41 : decode cX4_uncouple 41 = .ok (.iload_n 2, 1) := by decide +kernel
theorem dX4_uncouple_42 : decode cX4_uncouple 42 = .ok (.iconst (-1), 1) := by decide +kernel
theorem dX4_uncouple_43 : decode cX4_uncouple 43 = .ok (.iastore, 1) := by decide +kernel
theorem dX4_uncouple_44 : decode cX4_uncouple 44 = .ok (.aload_n 0, 1) := by decide +kernel
theorem dX4_uncouple_45 : decode cX4_uncouple 45 = .ok (.getfield 57, 3) := by decide +kernel
theorem dX4_uncouple_48 : decode cX4_uncouple 48 = .ok (.iload_n 1, 1) := by decide +kernel
theorem dX4_uncouple_49 : decode cX4_uncouple 49 = .ok (.iconst (-1), 1) := by decide +kernel
theorem dX4_uncouple_50 : decode cX4_uncouple 50 = .ok (.iastore, 1) := by decide +kernel
theorem dX4_uncouple_51 : decode cX4_uncouple 51 = .ok (.aload_n 0, 1) := by decide +kernel
theorem dX4_uncouple_52 : decode cX4_uncouple 52 = .ok (.aload_n 0, 1) := by decide +kernel
theorem dX4_uncouple_53 : decode cX4_uncouple 53 = .ok (.iload_n 2, 1) := by decide +kernel
theorem dX4_uncouple_54 : decode cX4_uncouple 54 = .ok (.invokevirtual 170, 3) := by decide +kernel
theorem dX4_uncouple_57 : decode cX4_uncouple 57 = .ok (.invokevirtual 125, 3) := by decide +kernel
theorem dX4_uncouple_60 : decode cX4_uncouple 60 = .ok (.ireturn, 1) := by decide +kernel
theorem dX4_convoySize_0 : decode cX4_convoySize 0 = .ok (.aload_n 0, 1) := by decide +kernel
theorem dX4_convoySize_1 : decode cX4_convoySize 1 = .ok (.iload_n 1, 1) := by decide +kernel
theorem dX4_convoySize_2 : decode cX4_convoySize 2 = .ok (.invokevirtual 161, 3) := by decide +kernel
theorem dX4_convoySize_5 : decode cX4_convoySize 5 = .ok (.ifCond .eq 15, 3) := by decide +kernel
theorem dX4_convoySize_8 : decode cX4_convoySize 8 = .ok (.aload_n 0, 1) := by decide +kernel
theorem dX4_convoySize_9 : decode cX4_convoySize 9 = .ok (.aload_n 0, 1) := by decide +kernel
theorem dX4_convoySize_10 : decode cX4_convoySize 10 = .ok (.iload_n 1, 1) := by decide +kernel
theorem dX4_convoySize_11 : decode cX4_convoySize 11 = .ok (.invokevirtual 170, 3) := by decide +kernel
theorem dX4_convoySize_14 : decode cX4_convoySize 14 = .ok (.invokevirtual 125, 3) := by decide +kernel
theorem dX4_convoySize_17 : decode cX4_convoySize 17 = .ok (.goto 8, 3) := by decide +kernel
theorem dX4_convoySize_20 : decode cX4_convoySize 20 = .ok (.aload_n 0, 1) := by decide +kernel
theorem dX4_convoySize_21 : decode cX4_convoySize 21 = .ok (.iconst 1, 1) := by decide +kernel
theorem dX4_convoySize_22 : decode cX4_convoySize 22 = .ok (.invokevirtual 121, 3) := by decide +kernel
theorem dX4_convoySize_25 : decode cX4_convoySize 25 = .ok (.ireturn, 1) := by decide +kernel
theorem dX4_convoyAt_0 : decode cX4_convoyAt 0 = .ok (.aload_n 0, 1) := by decide +kernel
theorem dX4_convoyAt_1 : decode cX4_convoyAt 1 = .ok (.iload_n 1, 1) := by decide +kernel
theorem dX4_convoyAt_2 : decode cX4_convoyAt 2 = .ok (.invokevirtual 161, 3) := by decide +kernel
theorem dX4_convoyAt_5 : decode cX4_convoyAt 5 = .ok (.ifCond .ne 9, 3) := by decide +kernel
theorem dX4_convoyAt_8 : decode cX4_convoyAt 8 = .ok (.aload_n 0, 1) := by decide +kernel
theorem dX4_convoyAt_9 : decode cX4_convoyAt 9 = .ok (.iconst 1, 1) := by decide +kernel
theorem dX4_convoyAt_10 : decode cX4_convoyAt 10 = .ok (.invokevirtual 121, 3) := by decide +kernel
theorem dX4_convoyAt_13 : decode cX4_convoyAt 13 = .ok (.ireturn, 1) := by decide +kernel
theorem dX4_convoyAt_14 : decode cX4_convoyAt 14 = .ok (.iconst 0, 1) := by decide +kernel
theorem dX4_convoyAt_15 : decode cX4_convoyAt 15 = .ok (.istore_n 3, 1) := by decide +kernel
theorem dX4_convoyAt_16 : decode cX4_convoyAt 16 = .ok (.aload_n 0, 1) := by decide +kernel
theorem dX4_convoyAt_17 : decode cX4_convoyAt 17 = .ok (.iload_n 1, 1) := by decide +kernel
theorem dX4_convoyAt_18 : decode cX4_convoyAt 18 = .ok (.invokevirtual 167, 3) := by decide +kernel
theorem dX4_convoyAt_21 : decode cX4_convoyAt 21 = .ok (.istore 4, 2) := by decide +kernel
theorem dX4_convoyAt_23 : decode cX4_convoyAt 23 = .ok (.iload 4, 2) := by decide +kernel
theorem dX4_convoyAt_25 : decode cX4_convoyAt 25 = .ok (.iconst (-1), 1) := by decide +kernel
theorem dX4_convoyAt_26 : decode cX4_convoyAt 26 = .ok (.if_icmp .eq 30, 3) := by decide +kernel
theorem dX4_convoyAt_29 : decode cX4_convoyAt 29 = .ok (.iload_n 3, 1) := by decide +kernel
theorem dX4_convoyAt_30 : decode cX4_convoyAt 30 = .ok (.iload_n 2, 1) := by decide +kernel
theorem dX4_convoyAt_31 : decode cX4_convoyAt 31 = .ok (.if_icmp .ne 10, 3) := by decide +kernel
theorem dX4_convoyAt_34 : decode cX4_convoyAt 34 = .ok (.aload_n 0, 1) := by decide +kernel
theorem dX4_convoyAt_35 : decode cX4_convoyAt 35 = .ok (.iload 4, 2) := by decide +kernel
theorem dX4_convoyAt_37 : decode cX4_convoyAt 37 = .ok (.invokevirtual 125, 3) := by decide +kernel
theorem dX4_convoyAt_40 : decode cX4_convoyAt 40 = .ok (.ireturn, 1) := by decide +kernel
theorem dX4_convoyAt_41 : decode cX4_convoyAt 41 = .ok (.iinc 3 1, 3) := by decide +kernel
theorem dX4_convoyAt_44 : decode cX4_convoyAt 44 = .ok (.aload_n 0, 1) := by decide +kernel
theorem dX4_convoyAt_45 : decode cX4_convoyAt 45 = .ok (.getfield 60, 3) := by decide +kernel
theorem dX4_convoyAt_48 : decode cX4_convoyAt 48 = .ok (.iload 4, 2) := by decide +kernel
theorem dX4_convoyAt_50 : decode cX4_convoyAt 50 = .ok (.iaload, 1) := by decide +kernel
theorem dX4_convoyAt_51 : decode cX4_convoyAt 51 = .ok (.istore 4, 2) := by decide +kernel
theorem dX4_convoyAt_53 : decode cX4_convoyAt 53 = .ok (.goto (-30), 3) := by decide +kernel
theorem dX4_convoyAt_56 : decode cX4_convoyAt 56 = .ok (.aload_n 0, 1) := by decide +kernel
theorem dX4_convoyAt_57 : decode cX4_convoyAt 57 = .ok (.iconst 2, 1) := by decide +kernel
theorem dX4_convoyAt_58 : decode cX4_convoyAt 58 = .ok (.invokevirtual 121, 3) := by decide +kernel
theorem dX4_convoyAt_61 : decode cX4_convoyAt 61 = .ok (.ireturn, 1) := by decide +kernel
theorem dX4_isTooLong_0 : decode cX4_isTooLong 0 = .ok (.iconst 0, 1) := by decide +kernel
theorem dX4_isTooLong_1 : decode cX4_isTooLong 1 = .ok (.istore_n 3, 1) := by decide +kernel
theorem dX4_isTooLong_2 : decode cX4_isTooLong 2 = .ok (.aload_n 0, 1) := by decide +kernel
theorem dX4_isTooLong_3 : decode cX4_isTooLong 3 = .ok (.iload_n 1, 1) := by decide +kernel
theorem dX4_isTooLong_4 : decode cX4_isTooLong 4 = .ok (.invokevirtual 167, 3) := by decide +kernel
theorem dX4_isTooLong_7 : decode cX4_isTooLong 7 = .ok (.istore 4, 2) := by decide +kernel
theorem dX4_isTooLong_9 : decode cX4_isTooLong 9 = .ok (.iload 4, 2) := by decide +kernel
theorem dX4_isTooLong_11 : decode cX4_isTooLong 11 = .ok (.iconst (-1), 1) := by decide +kernel
theorem dX4_isTooLong_12 : decode cX4_isTooLong 12 = .ok (.if_icmp .eq 41, 3) := by decide +kernel
theorem dX4_isTooLong_15 : decode cX4_isTooLong 15 = .ok (.iload_n 3, 1) := by decide +kernel
theorem dX4_isTooLong_16 : decode cX4_isTooLong 16 = .ok (.ifCond .ne 19, 3) := by decide +kernel
theorem dX4_isTooLong_19 : decode cX4_isTooLong 19 = .ok (.aload_n 0, 1) := by decide +kernel
theorem dX4_isTooLong_20 : decode cX4_isTooLong 20 = .ok (.getfield 45, 3) := by decide +kernel
theorem dX4_isTooLong_23 : decode cX4_isTooLong 23 = .ok (.iload 4, 2) := by decide +kernel
theorem dX4_isTooLong_25 : decode cX4_isTooLong 25 = .ok (.iaload, 1) := by decide +kernel
theorem dX4_isTooLong_26 : decode cX4_isTooLong 26 = .ok (.aload_n 0, 1) := by decide +kernel
theorem dX4_isTooLong_27 : decode cX4_isTooLong 27 = .ok (.getfield 29, 3) := by decide +kernel
theorem dX4_isTooLong_30 : decode cX4_isTooLong 30 = .ok (.iload_n 2, 1) := by decide +kernel
theorem dX4_isTooLong_31 : decode cX4_isTooLong 31 = .ok (.iaload, 1) := by decide +kernel
theorem dX4_isTooLong_32 : decode cX4_isTooLong 32 = .ok (.if_icmp .le 7, 3) := by decide +kernel
theorem dX4_isTooLong_35 : decode cX4_isTooLong 35 = .ok (.iconst 1, 1) := by decide +kernel
theorem dX4_isTooLong_36 : decode cX4_isTooLong 36 = .ok (.goto 4, 3) := by decide +kernel
theorem dX4_isTooLong_39 : decode cX4_isTooLong 39 = .ok (.iconst 0, 1) := by decide +kernel
theorem dX4_isTooLong_40 : decode cX4_isTooLong 40 = .ok (.istore_n 3, 1) := by decide +kernel
theorem dX4_isTooLong_41 : decode cX4_isTooLong 41 = .ok (.aload_n 0, 1) := by decide +kernel
theorem dX4_isTooLong_42 : decode cX4_isTooLong 42 = .ok (.getfield 60, 3) := by decide +kernel
theorem dX4_isTooLong_45 : decode cX4_isTooLong 45 = .ok (.iload 4, 2) := by decide +kernel
theorem dX4_isTooLong_47 : decode cX4_isTooLong 47 = .ok (.iaload, 1) := by decide +kernel
theorem dX4_isTooLong_48 : decode cX4_isTooLong 48 = .ok (.istore 4, 2) := by decide +kernel
theorem dX4_isTooLong_50 : decode cX4_isTooLong 50 = .ok (.goto (-41), 3) := by decide +kernel
theorem dX4_isTooLong_53 : decode cX4_isTooLong 53 = .ok (.iload_n 3, 1) := by decide +kernel
theorem dX4_isTooLong_54 : decode cX4_isTooLong 54 = .ok (.ireturn, 1) := by decide +kernel
theorem dX4_endOfPart_0 : decode cX4_endOfPart 0 = .ok (.iload_n 1, 1) := by decide +kernel
theorem dX4_endOfPart_1 : decode cX4_endOfPart 1 = .ok (.istore_n 3, 1) := by decide +kernel
theorem dX4_endOfPart_2 : decode cX4_endOfPart 2 = .ok (.iconst 0, 1) := by decide +kernel
theorem dX4_endOfPart_3 : decode cX4_endOfPart 3 = .ok (.istore 4, 2) := by decide +kernel
theorem dX4_endOfPart_5 : decode cX4_endOfPart 5 = .ok (.iload_n 3, 1) := by decide +kernel
theorem dX4_endOfPart_6 : decode cX4_endOfPart 6 = .ok (.iconst (-1), 1) := by decide +kernel
theorem dX4_endOfPart_7 : decode cX4_endOfPart 7 = .ok (.if_icmp .eq 42, 3) := by decide +kernel
theorem dX4_endOfPart_10 : decode cX4_endOfPart 10 = .ok (.iload 4, 2) := by decide +kernel
theorem dX4_endOfPart_12 : decode cX4_endOfPart 12 = .ok (.aload_n 0, 1) := by decide +kernel
theorem dX4_endOfPart_13 : decode cX4_endOfPart 13 = .ok (.getfield 45, 3) := by decide +kernel
theorem dX4_endOfPart_16 : decode cX4_endOfPart 16 = .ok (.iload_n 3, 1) := by decide +kernel
theorem dX4_endOfPart_17 : decode cX4_endOfPart 17 = .ok (.iaload, 1) := by decide +kernel
theorem dX4_endOfPart_18 : decode cX4_endOfPart 18 = .ok (.iadd, 1) := by decide +kernel
theorem dX4_endOfPart_19 : decode cX4_endOfPart 19 = .ok (.aload_n 0, 1) := by decide +kernel
theorem dX4_endOfPart_20 : decode cX4_endOfPart 20 = .ok (.getfield 29, 3) := by decide +kernel
theorem dX4_endOfPart_23 : decode cX4_endOfPart 23 = .ok (.iload_n 2, 1) := by decide +kernel
theorem dX4_endOfPart_24 : decode cX4_endOfPart 24 = .ok (.iaload, 1) := by decide +kernel
theorem dX4_endOfPart_25 : decode cX4_endOfPart 25 = .ok (.if_icmp .gt 24, 3) := by decide +kernel
theorem dX4_endOfPart_28 : decode cX4_endOfPart 28 = .ok (.iload 4, 2) := by decide +kernel
theorem dX4_endOfPart_30 : decode cX4_endOfPart 30 = .ok (.aload_n 0, 1) := by decide +kernel
theorem dX4_endOfPart_31 : decode cX4_endOfPart 31 = .ok (.getfield 45, 3) := by decide +kernel
theorem dX4_endOfPart_34 : decode cX4_endOfPart 34 = .ok (.iload_n 3, 1) := by decide +kernel
theorem dX4_endOfPart_35 : decode cX4_endOfPart 35 = .ok (.iaload, 1) := by decide +kernel
theorem dX4_endOfPart_36 : decode cX4_endOfPart 36 = .ok (.iadd, 1) := by decide +kernel
theorem dX4_endOfPart_37 : decode cX4_endOfPart 37 = .ok (.istore 4, 2) := by decide +kernel
theorem dX4_endOfPart_39 : decode cX4_endOfPart 39 = .ok (.aload_n 0, 1) := by decide +kernel
theorem dX4_endOfPart_40 : decode cX4_endOfPart 40 = .ok (.getfield 60, 3) := by decide +kernel
theorem dX4_endOfPart_43 : decode cX4_endOfPart 43 = .ok (.iload_n 3, 1) := by decide +kernel
theorem dX4_endOfPart_44 : decode cX4_endOfPart 44 = .ok (.iaload, 1) := by decide +kernel
theorem dX4_endOfPart_45 : decode cX4_endOfPart 45 = .ok (.istore_n 3, 1) := by decide +kernel
theorem dX4_endOfPart_46 : decode cX4_endOfPart 46 = .ok (.goto (-41), 3) := by decide +kernel
theorem dX4_endOfPart_49 : decode cX4_endOfPart 49 = .ok (.iload_n 3, 1) := by decide +kernel
theorem dX4_endOfPart_50 : decode cX4_endOfPart 50 = .ok (.ireturn, 1) := by decide +kernel
theorem dX4_partsFor_0 : decode cX4_partsFor 0 = .ok (.aload_n 0, 1) := by decide +kernel
theorem dX4_partsFor_1 : decode cX4_partsFor 1 = .ok (.iload_n 1, 1) := by decide +kernel
theorem dX4_partsFor_2 : decode cX4_partsFor 2 = .ok (.invokevirtual 161, 3) := by decide +kernel
theorem dX4_partsFor_5 : decode cX4_partsFor 5 = .ok (.ifCond .eq 11, 3) := by decide +kernel
theorem dX4_partsFor_8 : decode cX4_partsFor 8 = .ok (.aload_n 0, 1) := by decide +kernel
theorem dX4_partsFor_9 : decode cX4_partsFor 9 = .ok (.iload_n 2, 1) := by decide +kernel
theorem dX4_partsFor_10 : decode cX4_partsFor 10 = .ok (.invokevirtual 138, 3) := by decide +kernel
theorem dX4_partsFor_13 : decode cX4_partsFor 13 = .ok (.ifCond .ne 9, 3) := by decide +kernel
theorem dX4_partsFor_16 : decode cX4_partsFor 16 = .ok (.aload_n 0, 1) := by decide +kernel
theorem dX4_partsFor_17 : decode cX4_partsFor 17 = .ok (.iconst 1, 1) := by decide +kernel
theorem dX4_partsFor_18 : decode cX4_partsFor 18 = .ok (.invokevirtual 121, 3) := by decide +kernel
theorem dX4_partsFor_21 : decode cX4_partsFor 21 = .ok (.ireturn, 1) := by decide +kernel
theorem dX4_partsFor_22 : decode cX4_partsFor 22 = .ok (.aload_n 0, 1) := by decide +kernel
theorem dX4_partsFor_23 : decode cX4_partsFor 23 = .ok (.iload_n 1, 1) := by decide +kernel
theorem dX4_partsFor_24 : decode cX4_partsFor 24 = .ok (.iload_n 2, 1) := by decide +kernel
theorem dX4_partsFor_25 : decode cX4_partsFor 25 = .ok (.invokevirtual 173, 3) := by decide +kernel
theorem dX4_partsFor_28 : decode cX4_partsFor 28 = .ok (.ifCond .eq 9, 3) := by decide +kernel
theorem dX4_partsFor_31 : decode cX4_partsFor 31 = .ok (.aload_n 0, 1) := by decide +kernel
theorem dX4_partsFor_32 : decode cX4_partsFor 32 = .ok (.iconst 2, 1) := by decide +kernel
theorem dX4_partsFor_33 : decode cX4_partsFor 33 = .ok (.invokevirtual 121, 3) := by decide +kernel
theorem dX4_partsFor_36 : decode cX4_partsFor 36 = .ok (.ireturn, 1) := by decide +kernel
theorem dX4_partsFor_37 : decode cX4_partsFor 37 = .ok (.iconst 0, 1) := by decide +kernel
theorem dX4_partsFor_38 : decode cX4_partsFor 38 = .ok (.istore_n 3, 1) := by decide +kernel
theorem dX4_partsFor_39 : decode cX4_partsFor 39 = .ok (.aload_n 0, 1) := by decide +kernel
theorem dX4_partsFor_40 : decode cX4_partsFor 40 = .ok (.iload_n 1, 1) := by decide +kernel
theorem dX4_partsFor_41 : decode cX4_partsFor 41 = .ok (.invokevirtual 167, 3) := by decide +kernel
theorem dX4_partsFor_44 : decode cX4_partsFor 44 = .ok (.istore 4, 2) := by decide +kernel
theorem dX4_partsFor_46 : decode cX4_partsFor 46 = .ok (.iload 4, 2) := by decide +kernel
theorem dX4_partsFor_48 : decode cX4_partsFor 48 = .ok (.iconst (-1), 1) := by decide +kernel
theorem dX4_partsFor_49 : decode cX4_partsFor 49 = .ok (.if_icmp .eq 18, 3) := by decide +kernel
theorem dX4_partsFor_52 : decode cX4_partsFor 52 = .ok (.iinc 3 1, 3) := by decide +kernel
theorem dX4_partsFor_55 : decode cX4_partsFor 55 = .ok (.aload_n 0, 1) := by decide +kernel
theorem dX4_partsFor_56 : decode cX4_partsFor 56 = .ok (.iload 4, 2) := by decide +kernel
theorem dX4_partsFor_58 : decode cX4_partsFor 58 = .ok (.iload_n 2, 1) := by decide +kernel
theorem dX4_partsFor_59 : decode cX4_partsFor 59 = .ok (.invokevirtual 177, 3) := by decide +kernel
theorem dX4_partsFor_62 : decode cX4_partsFor 62 = .ok (.istore 4, 2) := by decide +kernel
theorem dX4_partsFor_64 : decode cX4_partsFor 64 = .ok (.goto (-18), 3) := by decide +kernel
theorem dX4_partsFor_67 : decode cX4_partsFor 67 = .ok (.aload_n 0, 1) := by decide +kernel
theorem dX4_partsFor_68 : decode cX4_partsFor 68 = .ok (.iload_n 3, 1) := by decide +kernel
theorem dX4_partsFor_69 : decode cX4_partsFor 69 = .ok (.invokevirtual 125, 3) := by decide +kernel
theorem dX4_partsFor_72 : decode cX4_partsFor 72 = .ok (.ireturn, 1) := by decide +kernel
theorem dX4_keeps_0 : decode cX4_keeps 0 = .ok (.iconst 0, 1) := by decide +kernel
theorem dX4_keeps_1 : decode cX4_keeps 1 = .ok (.istore_n 1, 1) := by decide +kernel
theorem dX4_keeps_2 : decode cX4_keeps 2 = .ok (.iload_n 1, 1) := by decide +kernel
theorem dX4_keeps_3 : decode cX4_keeps 3 = .ok (.bipush 6, 2) := by decide +kernel
theorem dX4_keeps_5 : decode cX4_keeps 5 = .ok (.if_icmp .ge 21, 3) := by decide +kernel
theorem dX4_keeps_8 : decode cX4_keeps 8 = .ok (.aload_n 0, 1) := by decide +kernel
theorem dX4_keeps_9 : decode cX4_keeps 9 = .ok (.getfield 85, 3) := by decide +kernel
theorem dX4_keeps_12 : decode cX4_keeps 12 = .ok (.iload_n 1, 1) := by decide +kernel
theorem dX4_keeps_13 : decode cX4_keeps 13 = .ok (.aload_n 0, 1) := by decide +kernel
theorem dX4_keeps_14 : decode cX4_keeps 14 = .ok (.getfield 17, 3) := by decide +kernel
theorem dX4_keeps_17 : decode cX4_keeps 17 = .ok (.iload_n 1, 1) := by decide +kernel
theorem dX4_keeps_18 : decode cX4_keeps 18 = .ok (.iaload, 1) := by decide +kernel
theorem dX4_keeps_19 : decode cX4_keeps 19 = .ok (.iastore, 1) := by decide +kernel
theorem dX4_keeps_20 : decode cX4_keeps 20 = .ok (.iinc 1 1, 3) := by decide +kernel
theorem dX4_keeps_23 : decode cX4_keeps 23 = .ok (.goto (-21), 3) := by decide +kernel
theorem dX4_keeps_26 : decode cX4_keeps 26 = .ok (.iconst 0, 1) := by decide +kernel
theorem dX4_keeps_27 : decode cX4_keeps 27 = .ok (.istore_n 1, 1) := by decide +kernel
theorem dX4_keeps_28 : decode cX4_keeps 28 = .ok (.iload_n 1, 1) := by decide +kernel
theorem dX4_keeps_29 : decode cX4_keeps 29 = .ok (.iconst 5, 1) := by decide +kernel
theorem dX4_keeps_30 : decode cX4_keeps 30 = .ok (.if_icmp .ge 33, 3) := by decide +kernel
theorem dX4_keeps_33 : decode cX4_keeps 33 = .ok (.aload_n 0, 1) := by decide +kernel
theorem dX4_keeps_34 : decode cX4_keeps 34 = .ok (.getfield 88, 3) := by decide +kernel
theorem dX4_keeps_37 : decode cX4_keeps 37 = .ok (.iload_n 1, 1) := by decide +kernel
theorem dX4_keeps_38 : decode cX4_keeps 38 = .ok (.aload_n 0, 1) := by decide +kernel
theorem dX4_keeps_39 : decode cX4_keeps 39 = .ok (.getfield 35, 3) := by decide +kernel
theorem dX4_keeps_42 : decode cX4_keeps 42 = .ok (.iload_n 1, 1) := by decide +kernel
theorem dX4_keeps_43 : decode cX4_keeps 43 = .ok (.iaload, 1) := by decide +kernel
theorem dX4_keeps_44 : decode cX4_keeps 44 = .ok (.iastore, 1) := by decide +kernel
theorem dX4_keeps_45 : decode cX4_keeps 45 = .ok (.aload_n 0, 1) := by decide +kernel
theorem dX4_keeps_46 : decode cX4_keeps 46 = .ok (.getfield 94, 3) := by decide +kernel
theorem dX4_keeps_49 : decode cX4_keeps 49 = .ok (.iload_n 1, 1) := by decide +kernel
theorem dX4_keeps_50 : decode cX4_keeps 50 = .ok (.aload_n 0, 1) := by decide +kernel
theorem dX4_keeps_51 : decode cX4_keeps 51 = .ok (.getfield 38, 3) := by decide +kernel
theorem dX4_keeps_54 : decode cX4_keeps 54 = .ok (.iload_n 1, 1) := by decide +kernel
theorem dX4_keeps_55 : decode cX4_keeps 55 = .ok (.baload, 1) := by decide +kernel
theorem dX4_keeps_56 : decode cX4_keeps 56 = .ok (.bastore, 1) := by decide +kernel
theorem dX4_keeps_57 : decode cX4_keeps 57 = .ok (.iinc 1 1, 3) := by decide +kernel
theorem dX4_keeps_60 : decode cX4_keeps 60 = .ok (.goto (-32), 3) := by decide +kernel
theorem dX4_keeps_63 : decode cX4_keeps 63 = .ok (.iconst 0, 1) := by decide +kernel
theorem dX4_keeps_64 : decode cX4_keeps 64 = .ok (.istore_n 1, 1) := by decide +kernel
theorem dX4_keeps_65 : decode cX4_keeps 65 = .ok (.iload_n 1, 1) := by decide +kernel
theorem dX4_keeps_66 : decode cX4_keeps 66 = .ok (.bipush 8, 2) := by decide +kernel
theorem dX4_keeps_68 : decode cX4_keeps 68 = .ok (.if_icmp .ge 21, 3) := by decide +kernel
theorem dX4_keeps_71 : decode cX4_keeps 71 = .ok (.aload_n 0, 1) := by decide +kernel
theorem dX4_keeps_72 : decode cX4_keeps 72 = .ok (.getfield 91, 3) := by decide +kernel
theorem dX4_keeps_75 : decode cX4_keeps 75 = .ok (.iload_n 1, 1) := by decide +kernel
theorem dX4_keeps_76 : decode cX4_keeps 76 = .ok (.aload_n 0, 1) := by decide +kernel
theorem dX4_keeps_77 : decode cX4_keeps 77 = .ok (.getfield 42, 3) := by decide +kernel
theorem dX4_keeps_80 : decode cX4_keeps 80 = .ok (.iload_n 1, 1) := by decide +kernel
theorem dX4_keeps_81 : decode cX4_keeps 81 = .ok (.iaload, 1) := by decide +kernel
theorem dX4_keeps_82 : decode cX4_keeps 82 = .ok (.iastore, 1) := by decide +kernel
theorem dX4_keeps_83 : decode cX4_keeps 83 = .ok (.iinc 1 1, 3) := by decide +kernel
theorem dX4_keeps_86 : decode cX4_keeps 86 = .ok (.goto (-21), 3) := by decide +kernel
theorem dX4_keeps_89 : decode cX4_keeps 89 = .ok (.aload_n 0, 1) := by decide +kernel
theorem dX4_keeps_90 : decode cX4_keeps 90 = .ok (.aload_n 0, 1) := by decide +kernel
theorem dX4_keeps_91 : decode cX4_keeps 91 = .ok (.getfield 115, 3) := by decide +kernel
theorem dX4_keeps_94 : decode cX4_keeps 94 = .ok (.putfield 181, 3) := by decide +kernel
theorem dX4_keeps_97 : decode cX4_keeps 97 = .ok (.aload_n 0, 1) := by decide +kernel
theorem dX4_keeps_98 : decode cX4_keeps 98 = .ok (.aload_n 0, 1) := by decide +kernel
theorem dX4_keeps_99 : decode cX4_keeps 99 = .ok (.getfield 72, 3) := by decide +kernel
theorem dX4_keeps_102 : decode cX4_keeps 102 = .ok (.putfield 184, 3) := by decide +kernel
theorem dX4_keeps_105 : decode cX4_keeps 105 = .ok (.return_, 1) := by decide +kernel
theorem dX4_takesBack_0 : decode cX4_takesBack 0 = .ok (.iconst 0, 1) := by decide +kernel
theorem dX4_takesBack_1 : decode cX4_takesBack 1 = .ok (.istore_n 1, 1) := by decide +kernel
theorem dX4_takesBack_2 : decode cX4_takesBack 2 = .ok (.iload_n 1, 1) := by decide +kernel
theorem dX4_takesBack_3 : decode cX4_takesBack 3 = .ok (.bipush 6, 2) := by decide +kernel
theorem dX4_takesBack_5 : decode cX4_takesBack 5 = .ok (.if_icmp .ge 21, 3) := by decide +kernel
theorem dX4_takesBack_8 : decode cX4_takesBack 8 = .ok (.aload_n 0, 1) := by decide +kernel
theorem dX4_takesBack_9 : decode cX4_takesBack 9 = .ok (.getfield 17, 3) := by decide +kernel
theorem dX4_takesBack_12 : decode cX4_takesBack 12 = .ok (.iload_n 1, 1) := by decide +kernel
theorem dX4_takesBack_13 : decode cX4_takesBack 13 = .ok (.aload_n 0, 1) := by decide +kernel
theorem dX4_takesBack_14 : decode cX4_takesBack 14 = .ok (.getfield 85, 3) := by decide +kernel
theorem dX4_takesBack_17 : decode cX4_takesBack 17 = .ok (.iload_n 1, 1) := by decide +kernel
theorem dX4_takesBack_18 : decode cX4_takesBack 18 = .ok (.iaload, 1) := by decide +kernel
theorem dX4_takesBack_19 : decode cX4_takesBack 19 = .ok (.iastore, 1) := by decide +kernel
theorem dX4_takesBack_20 : decode cX4_takesBack 20 = .ok (.iinc 1 1, 3) := by decide +kernel
theorem dX4_takesBack_23 : decode cX4_takesBack 23 = .ok (.goto (-21), 3) := by decide +kernel
theorem dX4_takesBack_26 : decode cX4_takesBack 26 = .ok (.iconst 0, 1) := by decide +kernel
theorem dX4_takesBack_27 : decode cX4_takesBack 27 = .ok (.istore_n 1, 1) := by decide +kernel
theorem dX4_takesBack_28 : decode cX4_takesBack 28 = .ok (.iload_n 1, 1) := by decide +kernel
theorem dX4_takesBack_29 : decode cX4_takesBack 29 = .ok (.iconst 5, 1) := by decide +kernel
theorem dX4_takesBack_30 : decode cX4_takesBack 30 = .ok (.if_icmp .ge 33, 3) := by decide +kernel
theorem dX4_takesBack_33 : decode cX4_takesBack 33 = .ok (.aload_n 0, 1) := by decide +kernel
theorem dX4_takesBack_34 : decode cX4_takesBack 34 = .ok (.getfield 35, 3) := by decide +kernel
theorem dX4_takesBack_37 : decode cX4_takesBack 37 = .ok (.iload_n 1, 1) := by decide +kernel
theorem dX4_takesBack_38 : decode cX4_takesBack 38 = .ok (.aload_n 0, 1) := by decide +kernel
theorem dX4_takesBack_39 : decode cX4_takesBack 39 = .ok (.getfield 88, 3) := by decide +kernel
theorem dX4_takesBack_42 : decode cX4_takesBack 42 = .ok (.iload_n 1, 1) := by decide +kernel
theorem dX4_takesBack_43 : decode cX4_takesBack 43 = .ok (.iaload, 1) := by decide +kernel
theorem dX4_takesBack_44 : decode cX4_takesBack 44 = .ok (.iastore, 1) := by decide +kernel
theorem dX4_takesBack_45 : decode cX4_takesBack 45 = .ok (.aload_n 0, 1) := by decide +kernel
theorem dX4_takesBack_46 : decode cX4_takesBack 46 = .ok (.getfield 38, 3) := by decide +kernel
theorem dX4_takesBack_49 : decode cX4_takesBack 49 = .ok (.iload_n 1, 1) := by decide +kernel
theorem dX4_takesBack_50 : decode cX4_takesBack 50 = .ok (.aload_n 0, 1) := by decide +kernel
theorem dX4_takesBack_51 : decode cX4_takesBack 51 = .ok (.getfield 94, 3) := by decide +kernel
theorem dX4_takesBack_54 : decode cX4_takesBack 54 = .ok (.iload_n 1, 1) := by decide +kernel
theorem dX4_takesBack_55 : decode cX4_takesBack 55 = .ok (.baload, 1) := by decide +kernel
theorem dX4_takesBack_56 : decode cX4_takesBack 56 = .ok (.bastore, 1) := by decide +kernel
theorem dX4_takesBack_57 : decode cX4_takesBack 57 = .ok (.iinc 1 1, 3) := by decide +kernel
theorem dX4_takesBack_60 : decode cX4_takesBack 60 = .ok (.goto (-32), 3) := by decide +kernel
theorem dX4_takesBack_63 : decode cX4_takesBack 63 = .ok (.iconst 0, 1) := by decide +kernel
theorem dX4_takesBack_64 : decode cX4_takesBack 64 = .ok (.istore_n 1, 1) := by decide +kernel
theorem dX4_takesBack_65 : decode cX4_takesBack 65 = .ok (.iload_n 1, 1) := by decide +kernel
theorem dX4_takesBack_66 : decode cX4_takesBack 66 = .ok (.bipush 8, 2) := by decide +kernel
theorem dX4_takesBack_68 : decode cX4_takesBack 68 = .ok (.if_icmp .ge 21, 3) := by decide +kernel
theorem dX4_takesBack_71 : decode cX4_takesBack 71 = .ok (.aload_n 0, 1) := by decide +kernel
theorem dX4_takesBack_72 : decode cX4_takesBack 72 = .ok (.getfield 42, 3) := by decide +kernel
theorem dX4_takesBack_75 : decode cX4_takesBack 75 = .ok (.iload_n 1, 1) := by decide +kernel
theorem dX4_takesBack_76 : decode cX4_takesBack 76 = .ok (.aload_n 0, 1) := by decide +kernel
theorem dX4_takesBack_77 : decode cX4_takesBack 77 = .ok (.getfield 91, 3) := by decide +kernel
theorem dX4_takesBack_80 : decode cX4_takesBack 80 = .ok (.iload_n 1, 1) := by decide +kernel
theorem dX4_takesBack_81 : decode cX4_takesBack 81 = .ok (.iaload, 1) := by decide +kernel
theorem dX4_takesBack_82 : decode cX4_takesBack 82 = .ok (.iastore, 1) := by decide +kernel
theorem dX4_takesBack_83 : decode cX4_takesBack 83 = .ok (.iinc 1 1, 3) := by decide +kernel
theorem dX4_takesBack_86 : decode cX4_takesBack 86 = .ok (.goto (-21), 3) := by decide +kernel
theorem dX4_takesBack_89 : decode cX4_takesBack 89 = .ok (.aload_n 0, 1) := by decide +kernel
theorem dX4_takesBack_90 : decode cX4_takesBack 90 = .ok (.aload_n 0, 1) := by decide +kernel
theorem dX4_takesBack_91 : decode cX4_takesBack 91 = .ok (.getfield 181, 3) := by decide +kernel
theorem dX4_takesBack_94 : decode cX4_takesBack 94 = .ok (.putfield 115, 3) := by decide +kernel
theorem dX4_takesBack_97 : decode cX4_takesBack 97 = .ok (.aload_n 0, 1) := by decide +kernel
theorem dX4_takesBack_98 : decode cX4_takesBack 98 = .ok (.aload_n 0, 1) := by decide +kernel
theorem dX4_takesBack_99 : decode cX4_takesBack 99 = .ok (.getfield 184, 3) := by decide +kernel
theorem dX4_takesBack_102 : decode cX4_takesBack 102 = .ok (.putfield 72, 3) := by decide +kernel
theorem dX4_takesBack_105 : decode cX4_takesBack 105 = .ok (.return_, 1) := by decide +kernel
theorem dX4_refuses_0 : decode cX4_refuses 0 = .ok (.aload_n 0, 1) := by decide +kernel
theorem dX4_refuses_1 : decode cX4_refuses 1 = .ok (.iload_n 1, 1) := by decide +kernel
theorem dX4_refuses_2 : decode cX4_refuses 2 = .ok (.putfield 187, 3) := by decide +kernel
theorem dX4_refuses_5 : decode cX4_refuses 5 = .ok (.aload_n 0, 1) := by decide +kernel
theorem dX4_refuses_6 : decode cX4_refuses 6 = .ok (.iload_n 2, 1) := by decide +kernel
theorem dX4_refuses_7 : decode cX4_refuses 7 = .ok (.putfield 190, 3) := by decide +kernel
theorem dX4_refuses_10 : decode cX4_refuses 10 = .ok (.iconst 0, 1) := by decide +kernel
theorem dX4_refuses_11 : decode cX4_refuses 11 = .ok (.ireturn, 1) := by decide +kernel
theorem dX4_locks_0 : decode cX4_locks 0 = .ok (.iload_n 1, 1) := by decide +kernel
theorem dX4_locks_1 : decode cX4_locks 1 = .ok (.istore 5, 2) := by decide +kernel
theorem dX4_locks_3 : decode cX4_locks 3 = .ok (.iload 5, 2) := by decide +kernel
theorem dX4_locks_5 : decode cX4_locks 5 = .ok (.iload_n 2, 1) := by decide +kernel
theorem dX4_locks_6 : decode cX4_locks 6 = .ok (.if_icmp .eq 26, 3) := by decide +kernel
theorem dX4_locks_9 : decode cX4_locks 9 = .ok (.aload_n 0, 1) := by decide +kernel
theorem dX4_locks_10 : decode cX4_locks 10 = .ok (.iload 5, 2) := by decide +kernel
theorem dX4_locks_12 : decode cX4_locks 12 = .ok (.invokevirtual 164, 3) := by decide +kernel
theorem dX4_locks_15 : decode cX4_locks 15 = .ok (.ifCond .ne 5, 3) := by decide +kernel
theorem dX4_locks_18 : decode cX4_locks 18 = .ok (.iconst 3, 1) := by decide +kernel
theorem dX4_locks_19 : decode cX4_locks 19 = .ok (.ireturn, 1) := by decide +kernel
theorem dX4_locks_20 : decode cX4_locks 20 = .ok (.aload_n 0, 1) := by decide +kernel
theorem dX4_locks_21 : decode cX4_locks 21 = .ok (.getfield 60, 3) := by decide +kernel
theorem dX4_locks_24 : decode cX4_locks 24 = .ok (.iload 5, 2) := by decide +kernel
theorem dX4_locks_26 : decode cX4_locks 26 = .ok (.iaload, 1) := by decide +kernel
theorem dX4_locks_27 : decode cX4_locks 27 = .ok (.istore 5, 2) := by decide +kernel
theorem dX4_locks_29 : decode cX4_locks 29 = .ok (.goto (-26), 3) := by decide +kernel
theorem dX4_locks_32 : decode cX4_locks 32 = .ok (.iload 4, 2) := by decide +kernel
theorem dX4_locks_34 : decode cX4_locks 34 = .ok (.ifCond .ne 17, 3) := by decide +kernel
theorem dX4_locks_37 : decode cX4_locks 37 = .ok (.aload_n 0, 1) := by decide +kernel
theorem dX4_locks_38 : decode cX4_locks 38 = .ok (.getfield 38, 3) := by decide +kernel
theorem dX4_locks_41 : decode cX4_locks 41 = .ok (.iload_n 3, 1) := by decide +kernel
theorem dX4_locks_42 : decode cX4_locks 42 = .ok (.baload, 1) := by decide +kernel
theorem dX4_locks_43 : decode cX4_locks 43 = .ok (.ifCond .eq 8, 3) := by decide +kernel
theorem dX4_locks_46 : decode cX4_locks 46 = .ok (.aload_n 0, 1) := by decide +kernel
theorem dX4_locks_47 : decode cX4_locks 47 = .ok (.iload_n 3, 1) := by decide +kernel
theorem dX4_locks_48 : decode cX4_locks 48 = .ok (.invokevirtual 145, 3) := by decide +kernel
theorem dX4_locks_51 : decode cX4_locks 51 = .ok (.aload_n 0, 1) := by decide +kernel
theorem dX4_locks_52 : decode cX4_locks 52 = .ok (.getfield 38, 3) := by decide +kernel
theorem dX4_locks_55 : decode cX4_locks 55 = .ok (.iload_n 3, 1) := by decide +kernel
theorem dX4_locks_56 : decode cX4_locks 56 = .ok (.baload, 1) := by decide +kernel
theorem dX4_locks_57 : decode cX4_locks 57 = .ok (.ifCond .ne 20, 3) := by decide +kernel
theorem dX4_locks_60 : decode cX4_locks 60 = .ok (.aload_n 0, 1) := by decide +kernel
theorem dX4_locks_61 : decode cX4_locks 61 = .ok (.getfield 17, 3) := by decide +kernel
theorem dX4_locks_64 : decode cX4_locks 64 = .ok (.iload_n 3, 1) := by decide +kernel
theorem dX4_locks_65 : decode cX4_locks 65 = .ok (.iaload, 1) := by decide +kernel
theorem dX4_locks_66 : decode cX4_locks 66 = .ok (.aload_n 0, 1) := by decide +kernel
theorem dX4_locks_67 : decode cX4_locks 67 = .ok (.getfield 26, 3) := by decide +kernel
theorem dX4_locks_70 : decode cX4_locks 70 = .ok (.iload_n 3, 1) := by decide +kernel
theorem dX4_locks_71 : decode cX4_locks 71 = .ok (.iaload, 1) := by decide +kernel
theorem dX4_locks_72 : decode cX4_locks 72 = .ok (.if_icmp .ge 5, 3) := by decide +kernel
theorem dX4_locks_75 : decode cX4_locks 75 = .ok (.iconst 4, 1) := by decide +kernel
theorem dX4_locks_76 : decode cX4_locks 76 = .ok (.ireturn, 1) := by decide +kernel
theorem dX4_locks_77 : decode cX4_locks 77 = .ok (.aload_n 0, 1) := by decide +kernel
theorem dX4_locks_78 : decode cX4_locks 78 = .ok (.getfield 38, 3) := by decide +kernel
theorem dX4_locks_81 : decode cX4_locks 81 = .ok (.iload_n 3, 1) := by decide +kernel
theorem dX4_locks_82 : decode cX4_locks 82 = .ok (.baload, 1) := by decide +kernel
theorem dX4_locks_83 : decode cX4_locks 83 = .ok (.ifCond .ne 8, 3) := by decide +kernel
theorem dX4_locks_86 : decode cX4_locks 86 = .ok (.aload_n 0, 1) := by decide +kernel
theorem dX4_locks_87 : decode cX4_locks 87 = .ok (.iload_n 3, 1) := by decide +kernel
theorem dX4_locks_88 : decode cX4_locks 88 = .ok (.invokevirtual 149, 3) := by decide +kernel
theorem dX4_locks_91 : decode cX4_locks 91 = .ok (.iload 4, 2) := by decide +kernel
theorem dX4_locks_93 : decode cX4_locks 93 = .ok (.ifCond .eq 8, 3) := by decide +kernel
theorem dX4_locks_96 : decode cX4_locks 96 = .ok (.aload_n 0, 1) := by decide +kernel
theorem dX4_locks_97 : decode cX4_locks 97 = .ok (.iload_n 3, 1) := by decide +kernel
theorem dX4_locks_98 : decode cX4_locks 98 = .ok (.invokevirtual 145, 3) := by decide +kernel
theorem dX4_locks_101 : decode cX4_locks 101 = .ok (.iload_n 1, 1) := by decide +kernel
theorem dX4_locks_102 : decode cX4_locks 102 = .ok (.istore 5, 2) := by decide +kernel
theorem dX4_locks_104 : decode cX4_locks 104 = .ok (.iload 5, 2) := by decide +kernel
theorem dX4_locks_106 : decode cX4_locks 106 = .ok (.iload_n 2, 1) := by decide +kernel
theorem dX4_locks_107 : decode cX4_locks 107 = .ok (.if_icmp .eq 34, 3) := by decide +kernel
theorem dX4_locks_110 : decode cX4_locks 110 = .ok (.aload_n 0, 1) := by decide +kernel
theorem dX4_locks_111 : decode cX4_locks 111 = .ok (.getfield 42, 3) := by decide +kernel
theorem dX4_locks_114 : decode cX4_locks 114 = .ok (.iload 5, 2) := by decide +kernel
theorem dX4_locks_116 : decode cX4_locks 116 = .ok (.iload 4, 2) := by decide +kernel
theorem dX4_locks_118 : decode cX4_locks 118 = .ok (.ifCond .eq 9, 3) := by decide +kernel
theorem dX4_locks_121 : decode cX4_locks 121 = .ok (.iload_n 3, 1) := by decide +kernel
theorem dX4_locks_122 : decode cX4_locks 122 = .ok (.iconst 1, 1) := by decide +kernel
theorem dX4_locks_123 : decode cX4_locks 123 = .ok (.iadd, 1) := by decide +kernel
theorem dX4_locks_124 : decode cX4_locks 124 = .ok (.goto 4, 3) := by decide +kernel
theorem dX4_locks_127 : decode cX4_locks 127 = .ok (.iload_n 3, 1) := by decide +kernel
theorem dX4_locks_128 : decode cX4_locks 128 = .ok (.iastore, 1) := by decide +kernel
theorem dX4_locks_129 : decode cX4_locks 129 = .ok (.aload_n 0, 1) := by decide +kernel
theorem dX4_locks_130 : decode cX4_locks 130 = .ok (.getfield 60, 3) := by decide +kernel
theorem dX4_locks_133 : decode cX4_locks 133 = .ok (.iload 5, 2) := by decide +kernel
theorem dX4_locks_135 : decode cX4_locks 135 = .ok (.iaload, 1) := by decide +kernel
theorem dX4_locks_136 : decode cX4_locks 136 = .ok (.istore 5, 2) := by decide +kernel
theorem dX4_locks_138 : decode cX4_locks 138 = .ok (.goto (-34), 3) := by decide +kernel
theorem dX4_locks_141 : decode cX4_locks 141 = .ok (.iload_n 1, 1) := by decide +kernel
theorem dX4_locks_142 : decode cX4_locks 142 = .ok (.istore 5, 2) := by decide +kernel
theorem dX4_locks_144 : decode cX4_locks 144 = .ok (.iload 5, 2) := by decide +kernel
theorem dX4_locks_146 : decode cX4_locks 146 = .ok (.iload_n 2, 1) := by decide +kernel
theorem dX4_locks_147 : decode cX4_locks 147 = .ok (.if_icmp .eq 26, 3) := by decide +kernel
theorem dX4_locks_150 : decode cX4_locks 150 = .ok (.aload_n 0, 1) := by decide +kernel
theorem dX4_locks_151 : decode cX4_locks 151 = .ok (.iload 5, 2) := by decide +kernel
theorem dX4_locks_153 : decode cX4_locks 153 = .ok (.invokevirtual 164, 3) := by decide +kernel
theorem dX4_locks_156 : decode cX4_locks 156 = .ok (.ifCond .ne 5, 3) := by decide +kernel
theorem dX4_locks_159 : decode cX4_locks 159 = .ok (.iconst 5, 1) := by decide +kernel
theorem dX4_locks_160 : decode cX4_locks 160 = .ok (.ireturn, 1) := by decide +kernel
theorem dX4_locks_161 : decode cX4_locks 161 = .ok (.aload_n 0, 1) := by decide +kernel
theorem dX4_locks_162 : decode cX4_locks 162 = .ok (.getfield 60, 3) := by decide +kernel
theorem dX4_locks_165 : decode cX4_locks 165 = .ok (.iload 5, 2) := by decide +kernel
theorem dX4_locks_167 : decode cX4_locks 167 = .ok (.iaload, 1) := by decide +kernel
theorem dX4_locks_168 : decode cX4_locks 168 = .ok (.istore 5, 2) := by decide +kernel
theorem dX4_locks_170 : decode cX4_locks 170 = .ok (.goto (-26), 3) := by decide +kernel
theorem dX4_locks_173 : decode cX4_locks 173 = .ok (.iconst 0, 1) := by decide +kernel
theorem dX4_locks_174 : decode cX4_locks 174 = .ok (.ireturn, 1) := by decide +kernel
theorem dX4_passes_0 : decode cX4_passes 0 = .ok (.iload_n 2, 1) := by decide +kernel
theorem dX4_passes_1 : decode cX4_passes 1 = .ok (.ifCond .eq 12, 3) := by decide +kernel
theorem dX4_passes_4 : decode cX4_passes 4 = .ok (.aload_n 0, 1) := by decide +kernel
theorem dX4_passes_5 : decode cX4_passes 5 = .ok (.getfield 42, 3) := by decide +kernel
theorem dX4_passes_8 : decode cX4_passes 8 = .ok (.iload_n 1, 1) := by decide +kernel
theorem dX4_passes_9 : decode cX4_passes 9 = .ok (.iaload, 1) := by decide +kernel
theorem dX4_passes_10 : decode cX4_passes 10 = .ok (.goto 11, 3) := by decide +kernel
theorem dX4_passes_13 : decode cX4_passes 13 = .ok (.aload_n 0, 1) := by decide +kernel
theorem dX4_passes_14 : decode cX4_passes 14 = .ok (.getfield 42, 3) := by decide +kernel
theorem dX4_passes_17 : decode cX4_passes 17 = .ok (.iload_n 1, 1) := by decide +kernel
theorem dX4_passes_18 : decode cX4_passes 18 = .ok (.iaload, 1) := by decide +kernel
theorem dX4_passes_19 : decode cX4_passes 19 = .ok (.iconst 1, 1) := by decide +kernel
theorem dX4_passes_20 : decode cX4_passes 20 = .ok (.isub, 1) := by decide +kernel
theorem dX4_passes_21 : decode cX4_passes 21 = .ok (.istore_n 3, 1) := by decide +kernel
theorem dX4_passes_22 : decode cX4_passes 22 = .ok (.aload_n 0, 1) := by decide +kernel
theorem dX4_passes_23 : decode cX4_passes 23 = .ok (.iload_n 1, 1) := by decide +kernel
theorem dX4_passes_24 : decode cX4_passes 24 = .ok (.iload_n 3, 1) := by decide +kernel
theorem dX4_passes_25 : decode cX4_passes 25 = .ok (.invokevirtual 173, 3) := by decide +kernel
theorem dX4_passes_28 : decode cX4_passes 28 = .ok (.ifCond .eq 10, 3) := by decide +kernel
theorem dX4_passes_31 : decode cX4_passes 31 = .ok (.aload_n 0, 1) := by decide +kernel
theorem dX4_passes_32 : decode cX4_passes 32 = .ok (.iconst 1, 1) := by decide +kernel
theorem dX4_passes_33 : decode cX4_passes 33 = .ok (.iload_n 3, 1) := by decide +kernel
theorem dX4_passes_34 : decode cX4_passes 34 = .ok (.invokevirtual 193, 3) := by decide +kernel
theorem dX4_passes_37 : decode cX4_passes 37 = .ok (.ireturn, 1) := by decide +kernel
theorem dX4_passes_38 : decode cX4_passes 38 = .ok (.aload_n 0, 1) := by decide +kernel
theorem dX4_passes_39 : decode cX4_passes 39 = .ok (.iload_n 1, 1) := by decide +kernel
theorem dX4_passes_40 : decode cX4_passes 40 = .ok (.invokevirtual 167, 3) := by decide +kernel
theorem dX4_passes_43 : decode cX4_passes 43 = .ok (.istore 4, 2) := by decide +kernel
theorem dX4_passes_45 : decode cX4_passes 45 = .ok (.iload 4, 2) := by decide +kernel
theorem dX4_passes_47 : decode cX4_passes 47 = .ok (.iconst (-1), 1) := by decide +kernel
theorem dX4_passes_48 : decode cX4_passes 48 = .ok (.if_icmp .eq 37, 3) := by decide +kernel
theorem dX4_passes_51 : decode cX4_passes 51 = .ok (.aload_n 0, 1) := by decide +kernel
theorem dX4_passes_52 : decode cX4_passes 52 = .ok (.iload 4, 2) := by decide +kernel
theorem dX4_passes_54 : decode cX4_passes 54 = .ok (.invokevirtual 158, 3) := by decide +kernel
theorem dX4_passes_57 : decode cX4_passes 57 = .ok (.aload_n 0, 1) := by decide +kernel
theorem dX4_passes_58 : decode cX4_passes 58 = .ok (.getfield 32, 3) := by decide +kernel
theorem dX4_passes_61 : decode cX4_passes 61 = .ok (.iload_n 3, 1) := by decide +kernel
theorem dX4_passes_62 : decode cX4_passes 62 = .ok (.iaload, 1) := by decide +kernel
theorem dX4_passes_63 : decode cX4_passes 63 = .ok (.if_icmp .le 10, 3) := by decide +kernel
theorem dX4_passes_66 : decode cX4_passes 66 = .ok (.aload_n 0, 1) := by decide +kernel
theorem dX4_passes_67 : decode cX4_passes 67 = .ok (.iconst 2, 1) := by decide +kernel
theorem dX4_passes_68 : decode cX4_passes 68 = .ok (.iload_n 3, 1) := by decide +kernel
theorem dX4_passes_69 : decode cX4_passes 69 = .ok (.invokevirtual 193, 3) := by decide +kernel
theorem dX4_passes_72 : decode cX4_passes 72 = .ok (.ireturn, 1) := by decide +kernel
theorem dX4_passes_73 : decode cX4_passes 73 = .ok (.aload_n 0, 1) := by decide +kernel
theorem dX4_passes_74 : decode cX4_passes 74 = .ok (.getfield 60, 3) := by decide +kernel
theorem dX4_passes_77 : decode cX4_passes 77 = .ok (.iload 4, 2) := by decide +kernel
theorem dX4_passes_79 : decode cX4_passes 79 = .ok (.iaload, 1) := by decide +kernel
theorem dX4_passes_80 : decode cX4_passes 80 = .ok (.istore 4, 2) := by decide +kernel
theorem dX4_passes_82 : decode cX4_passes 82 = .ok (.goto (-37), 3) := by decide +kernel
theorem dX4_passes_85 : decode cX4_passes 85 = .ok (.iconst 0, 1) := by decide +kernel
theorem dX4_passes_86 : decode cX4_passes 86 = .ok (.istore 4, 2) := by decide +kernel
theorem dX4_passes_88 : decode cX4_passes 88 = .ok (.aload_n 0, 1) := by decide +kernel
theorem dX4_passes_89 : decode cX4_passes 89 = .ok (.iload_n 1, 1) := by decide +kernel
theorem dX4_passes_90 : decode cX4_passes 90 = .ok (.invokevirtual 167, 3) := by decide +kernel
theorem dX4_passes_93 : decode cX4_passes 93 = .ok (.istore 5, 2) := by decide +kernel
theorem dX4_passes_95 : decode cX4_passes 95 = .ok (.iload 5, 2) := by decide +kernel
theorem dX4_passes_97 : decode cX4_passes 97 = .ok (.iconst (-1), 1) := by decide +kernel
theorem dX4_passes_98 : decode cX4_passes 98 = .ok (.if_icmp .eq 48, 3) := by decide +kernel
theorem dX4_passes_101 : decode cX4_passes 101 = .ok (.aload_n 0, 1) := by decide +kernel
theorem dX4_passes_102 : decode cX4_passes 102 = .ok (.iload 5, 2) := by decide +kernel
theorem dX4_passes_104 : decode cX4_passes 104 = .ok (.aload_n 0, 1) := by decide +kernel
theorem dX4_passes_105 : decode cX4_passes 105 = .ok (.iload 5, 2) := by decide +kernel
theorem dX4_passes_107 : decode cX4_passes 107 = .ok (.iload_n 3, 1) := by decide +kernel
theorem dX4_passes_108 : decode cX4_passes 108 = .ok (.invokevirtual 177, 3) := by decide +kernel
theorem dX4_passes_111 : decode cX4_passes 111 = .ok (.iload_n 3, 1) := by decide +kernel
theorem dX4_passes_112 : decode cX4_passes 112 = .ok (.iload_n 2, 1) := by decide +kernel
theorem dX4_passes_113 : decode cX4_passes 113 = .ok (.invokevirtual 196, 3) := by decide +kernel
theorem dX4_passes_116 : decode cX4_passes 116 = .ok (.istore 6, 2) := by decide +kernel
theorem dX4_passes_118 : decode cX4_passes 118 = .ok (.iload 6, 2) := by decide +kernel
theorem dX4_passes_120 : decode cX4_passes 120 = .ok (.ifCond .eq 11, 3) := by decide +kernel
theorem dX4_passes_123 : decode cX4_passes 123 = .ok (.aload_n 0, 1) := by decide +kernel
theorem dX4_passes_124 : decode cX4_passes 124 = .ok (.iload 6, 2) := by decide +kernel
theorem dX4_passes_126 : decode cX4_passes 126 = .ok (.iload_n 3, 1) := by decide +kernel
theorem dX4_passes_127 : decode cX4_passes 127 = .ok (.invokevirtual 193, 3) := by decide +kernel
theorem dX4_passes_130 : decode cX4_passes 130 = .ok (.ireturn, 1) := by decide +kernel
theorem dX4_passes_131 : decode cX4_passes 131 = .ok (.iinc 4 1, 3) := by decide +kernel
theorem dX4_passes_134 : decode cX4_passes 134 = .ok (.aload_n 0, 1) := by decide +kernel
theorem dX4_passes_135 : decode cX4_passes 135 = .ok (.iload 5, 2) := by decide +kernel
theorem dX4_passes_137 : decode cX4_passes 137 = .ok (.iload_n 3, 1) := by decide +kernel
theorem dX4_passes_138 : decode cX4_passes 138 = .ok (.invokevirtual 177, 3) := by decide +kernel
theorem dX4_passes_141 : decode cX4_passes 141 = .ok (.istore 5, 2) := by decide +kernel
theorem dX4_passes_143 : decode cX4_passes 143 = .ok (.goto (-48), 3) := by decide +kernel
theorem dX4_passes_146 : decode cX4_passes 146 = .ok (.iload 4, 2) := by decide +kernel
theorem dX4_passes_148 : decode cX4_passes 148 = .ok (.ireturn, 1) := by decide +kernel
theorem dX4_sails_0 : decode cX4_sails 0 = .ok (.iconst 0, 1) := by decide +kernel
theorem dX4_sails_1 : decode cX4_sails 1 = .ok (.istore_n 3, 1) := by decide +kernel
theorem dX4_sails_2 : decode cX4_sails 2 = .ok (.aload_n 0, 1) := by decide +kernel
theorem dX4_sails_3 : decode cX4_sails 3 = .ok (.getfield 42, 3) := by decide +kernel
theorem dX4_sails_6 : decode cX4_sails 6 = .ok (.iload_n 1, 1) := by decide +kernel
theorem dX4_sails_7 : decode cX4_sails 7 = .ok (.iaload, 1) := by decide +kernel
theorem dX4_sails_8 : decode cX4_sails 8 = .ok (.iload_n 2, 1) := by decide +kernel
theorem dX4_sails_9 : decode cX4_sails 9 = .ok (.if_icmp .eq 40, 3) := by decide +kernel
theorem dX4_sails_12 : decode cX4_sails 12 = .ok (.aload_n 0, 1) := by decide +kernel
theorem dX4_sails_13 : decode cX4_sails 13 = .ok (.iload_n 1, 1) := by decide +kernel
theorem dX4_sails_14 : decode cX4_sails 14 = .ok (.aload_n 0, 1) := by decide +kernel
theorem dX4_sails_15 : decode cX4_sails 15 = .ok (.getfield 42, 3) := by decide +kernel
theorem dX4_sails_18 : decode cX4_sails 18 = .ok (.iload_n 1, 1) := by decide +kernel
theorem dX4_sails_19 : decode cX4_sails 19 = .ok (.iaload, 1) := by decide +kernel
theorem dX4_sails_20 : decode cX4_sails 20 = .ok (.iload_n 2, 1) := by decide +kernel
theorem dX4_sails_21 : decode cX4_sails 21 = .ok (.if_icmp .ge 7, 3) := by decide +kernel
theorem dX4_sails_24 : decode cX4_sails 24 = .ok (.iconst 1, 1) := by decide +kernel
theorem dX4_sails_25 : decode cX4_sails 25 = .ok (.goto 4, 3) := by decide +kernel
theorem dX4_sails_28 : decode cX4_sails 28 = .ok (.iconst 0, 1) := by decide +kernel
theorem dX4_sails_29 : decode cX4_sails 29 = .ok (.invokevirtual 200, 3) := by decide +kernel
theorem dX4_sails_32 : decode cX4_sails 32 = .ok (.istore 4, 2) := by decide +kernel
theorem dX4_sails_34 : decode cX4_sails 34 = .ok (.iload 4, 2) := by decide +kernel
theorem dX4_sails_36 : decode cX4_sails 36 = .ok (.ifCond .ne 5, 3) := by decide +kernel
theorem dX4_sails_39 : decode cX4_sails 39 = .ok (.iconst 0, 1) := by decide +kernel
theorem dX4_sails_40 : decode cX4_sails 40 = .ok (.ireturn, 1) := by decide +kernel
theorem dX4_sails_41 : decode cX4_sails 41 = .ok (.iload_n 3, 1) := by decide +kernel
theorem dX4_sails_42 : decode cX4_sails 42 = .ok (.iload 4, 2) := by decide +kernel
theorem dX4_sails_44 : decode cX4_sails 44 = .ok (.iadd, 1) := by decide +kernel
theorem dX4_sails_45 : decode cX4_sails 45 = .ok (.istore_n 3, 1) := by decide +kernel
theorem dX4_sails_46 : decode cX4_sails 46 = .ok (.goto (-44), 3) := by decide +kernel
theorem dX4_sails_49 : decode cX4_sails 49 = .ok (.iload_n 3, 1) := by decide +kernel
theorem dX4_sails_50 : decode cX4_sails 50 = .ok (.ireturn, 1) := by decide +kernel
theorem dX4_ends_0 : decode cX4_ends 0 = .ok (.iload_n 1, 1) := by decide +kernel
theorem dX4_ends_1 : decode cX4_ends 1 = .ok (.ifCond .le 9, 3) := by decide +kernel
theorem dX4_ends_4 : decode cX4_ends 4 = .ok (.aload_n 0, 1) := by decide +kernel
theorem dX4_ends_5 : decode cX4_ends 5 = .ok (.iload_n 1, 1) := by decide +kernel
theorem dX4_ends_6 : decode cX4_ends 6 = .ok (.invokevirtual 125, 3) := by decide +kernel
theorem dX4_ends_9 : decode cX4_ends 9 = .ok (.ireturn, 1) := by decide +kernel
theorem dX4_ends_10 : decode cX4_ends 10 = .ok (.aload_n 0, 1) := by decide +kernel
theorem dX4_ends_11 : decode cX4_ends 11 = .ok (.invokevirtual 204, 3) := by decide +kernel
theorem dX4_ends_14 : decode cX4_ends 14 = .ok (.aload_n 0, 1) := by decide +kernel
theorem dX4_ends_15 : decode cX4_ends 15 = .ok (.aload_n 0, 1) := by decide +kernel
theorem dX4_ends_16 : decode cX4_ends 16 = .ok (.getfield 187, 3) := by decide +kernel
theorem dX4_ends_19 : decode cX4_ends 19 = .ok (.putfield 207, 3) := by decide +kernel
theorem dX4_ends_22 : decode cX4_ends 22 = .ok (.aload_n 0, 1) := by decide +kernel
theorem dX4_ends_23 : decode cX4_ends 23 = .ok (.aload_n 0, 1) := by decide +kernel
theorem dX4_ends_24 : decode cX4_ends 24 = .ok (.getfield 190, 3) := by decide +kernel
theorem dX4_ends_27 : decode cX4_ends 27 = .ok (.putfield 210, 3) := by decide +kernel
theorem dX4_ends_30 : decode cX4_ends 30 = .ok (.aload_n 0, 1) := by decide +kernel
theorem dX4_ends_31 : decode cX4_ends 31 = .ok (.iload_n 2, 1) := by decide +kernel
theorem dX4_ends_32 : decode cX4_ends 32 = .ok (.invokevirtual 121, 3) := by decide +kernel
theorem dX4_ends_35 : decode cX4_ends 35 = .ok (.ireturn, 1) := by decide +kernel
theorem dX4_pass_0 : decode cX4_pass 0 = .ok (.aload_n 0, 1) := by decide +kernel
theorem dX4_pass_1 : decode cX4_pass 1 = .ok (.iload_n 1, 1) := by decide +kernel
theorem dX4_pass_2 : decode cX4_pass 2 = .ok (.invokevirtual 161, 3) := by decide +kernel
theorem dX4_pass_5 : decode cX4_pass 5 = .ok (.ifCond .ne 9, 3) := by decide +kernel
theorem dX4_pass_8 : decode cX4_pass 8 = .ok (.aload_n 0, 1) := by decide +kernel
theorem dX4_pass_9 : decode cX4_pass 9 = .ok (.iconst 1, 1) := by decide +kernel
theorem dX4_pass_10 : decode cX4_pass 10 = .ok (.invokevirtual 121, 3) := by decide +kernel
theorem dX4_pass_13 : decode cX4_pass 13 = .ok (.ireturn, 1) := by decide +kernel
theorem dX4_pass_14 : decode cX4_pass 14 = .ok (.aload_n 0, 1) := by decide +kernel
theorem dX4_pass_15 : decode cX4_pass 15 = .ok (.getfield 42, 3) := by decide +kernel
theorem dX4_pass_18 : decode cX4_pass 18 = .ok (.iload_n 1, 1) := by decide +kernel
theorem dX4_pass_19 : decode cX4_pass 19 = .ok (.iaload, 1) := by decide +kernel
theorem dX4_pass_20 : decode cX4_pass 20 = .ok (.iload_n 2, 1) := by decide +kernel
theorem dX4_pass_21 : decode cX4_pass 21 = .ok (.ifCond .eq 12, 3) := by decide +kernel
theorem dX4_pass_24 : decode cX4_pass 24 = .ok (.aload_n 0, 1) := by decide +kernel
theorem dX4_pass_25 : decode cX4_pass 25 = .ok (.getfield 7, 3) := by decide +kernel
theorem dX4_pass_28 : decode cX4_pass 28 = .ok (.iconst 1, 1) := by decide +kernel
theorem dX4_pass_29 : decode cX4_pass 29 = .ok (.isub, 1) := by decide +kernel
theorem dX4_pass_30 : decode cX4_pass 30 = .ok (.goto 4, 3) := by decide +kernel
theorem dX4_pass_33 : decode cX4_pass 33 = .ok (.iconst 0, 1) := by decide +kernel
theorem dX4_pass_34 : decode cX4_pass 34 = .ok (.if_icmp .ne 9, 3) := by decide +kernel
theorem dX4_pass_37 : decode cX4_pass 37 = .ok (.aload_n 0, 1) := by decide +kernel
theorem dX4_pass_38 : decode cX4_pass 38 = .ok (.iconst 2, 1) := by decide +kernel
theorem dX4_pass_39 : decode cX4_pass 39 = .ok (.invokevirtual 121, 3) := by decide +kernel
theorem dX4_pass_42 : decode cX4_pass 42 = .ok (.ireturn, 1) := by decide +kernel
theorem dX4_pass_43 : decode cX4_pass 43 = .ok (.aload_n 0, 1) := by decide +kernel
theorem dX4_pass_44 : decode cX4_pass 44 = .ok (.invokevirtual 213, 3) := by decide +kernel
theorem dX4_pass_47 : decode cX4_pass 47 = .ok (.aload_n 0, 1) := by decide +kernel
theorem dX4_pass_48 : decode cX4_pass 48 = .ok (.aload_n 0, 1) := by decide +kernel
theorem dX4_pass_49 : decode cX4_pass 49 = .ok (.iload_n 1, 1) := by decide +kernel
theorem dX4_pass_50 : decode cX4_pass 50 = .ok (.iload_n 2, 1) := by decide +kernel
theorem dX4_pass_51 : decode cX4_pass 51 = .ok (.invokevirtual 200, 3) := by decide +kernel
theorem dX4_pass_54 : decode cX4_pass 54 = .ok (.iconst 3, 1) := by decide +kernel
theorem dX4_pass_55 : decode cX4_pass 55 = .ok (.invokevirtual 216, 3) := by decide +kernel
theorem dX4_pass_58 : decode cX4_pass 58 = .ok (.ireturn, 1) := by decide +kernel
theorem dX4_voyage_0 : decode cX4_voyage 0 = .ok (.aload_n 0, 1) := by decide +kernel
theorem dX4_voyage_1 : decode cX4_voyage 1 = .ok (.iload_n 1, 1) := by decide +kernel
theorem dX4_voyage_2 : decode cX4_voyage 2 = .ok (.invokevirtual 161, 3) := by decide +kernel
theorem dX4_voyage_5 : decode cX4_voyage 5 = .ok (.ifCond .eq 11, 3) := by decide +kernel
theorem dX4_voyage_8 : decode cX4_voyage 8 = .ok (.aload_n 0, 1) := by decide +kernel
theorem dX4_voyage_9 : decode cX4_voyage 9 = .ok (.iload_n 2, 1) := by decide +kernel
theorem dX4_voyage_10 : decode cX4_voyage 10 = .ok (.invokevirtual 128, 3) := by decide +kernel
theorem dX4_voyage_13 : decode cX4_voyage 13 = .ok (.ifCond .ne 9, 3) := by decide +kernel
theorem dX4_voyage_16 : decode cX4_voyage 16 = .ok (.aload_n 0, 1) := by decide +kernel
theorem dX4_voyage_17 : decode cX4_voyage 17 = .ok (.iconst 1, 1) := by decide +kernel
theorem dX4_voyage_18 : decode cX4_voyage 18 = .ok (.invokevirtual 121, 3) := by decide +kernel
theorem dX4_voyage_21 : decode cX4_voyage 21 = .ok (.ireturn, 1) := by decide +kernel
theorem dX4_voyage_22 : decode cX4_voyage 22 = .ok (.aload_n 0, 1) := by decide +kernel
theorem dX4_voyage_23 : decode cX4_voyage 23 = .ok (.getfield 42, 3) := by decide +kernel
theorem dX4_voyage_26 : decode cX4_voyage 26 = .ok (.iload_n 1, 1) := by decide +kernel
theorem dX4_voyage_27 : decode cX4_voyage 27 = .ok (.iaload, 1) := by decide +kernel
theorem dX4_voyage_28 : decode cX4_voyage 28 = .ok (.iload_n 2, 1) := by decide +kernel
theorem dX4_voyage_29 : decode cX4_voyage 29 = .ok (.if_icmp .ne 9, 3) := by decide +kernel
theorem dX4_voyage_32 : decode cX4_voyage 32 = .ok (.aload_n 0, 1) := by decide +kernel
theorem dX4_voyage_33 : decode cX4_voyage 33 = .ok (.iconst 2, 1) := by decide +kernel
theorem dX4_voyage_34 : decode cX4_voyage 34 = .ok (.invokevirtual 121, 3) := by decide +kernel
theorem dX4_voyage_37 : decode cX4_voyage 37 = .ok (.ireturn, 1) := by decide +kernel
theorem dX4_voyage_38 : decode cX4_voyage 38 = .ok (.aload_n 0, 1) := by decide +kernel
theorem dX4_voyage_39 : decode cX4_voyage 39 = .ok (.invokevirtual 213, 3) := by decide +kernel
theorem dX4_voyage_42 : decode cX4_voyage 42 = .ok (.aload_n 0, 1) := by decide +kernel
theorem dX4_voyage_43 : decode cX4_voyage 43 = .ok (.aload_n 0, 1) := by decide +kernel
theorem dX4_voyage_44 : decode cX4_voyage 44 = .ok (.iload_n 1, 1) := by decide +kernel
theorem dX4_voyage_45 : decode cX4_voyage 45 = .ok (.iload_n 2, 1) := by decide +kernel
theorem dX4_voyage_46 : decode cX4_voyage 46 = .ok (.invokevirtual 219, 3) := by decide +kernel
theorem dX4_voyage_49 : decode cX4_voyage 49 = .ok (.iconst 3, 1) := by decide +kernel
theorem dX4_voyage_50 : decode cX4_voyage 50 = .ok (.invokevirtual 216, 3) := by decide +kernel
theorem dX4_voyage_53 : decode cX4_voyage 53 = .ok (.ireturn, 1) := by decide +kernel
theorem dX4_can_0 : decode cX4_can 0 = .ok (.aload_n 0, 1) := by decide +kernel
theorem dX4_can_1 : decode cX4_can 1 = .ok (.getfield 42, 3) := by decide +kernel
theorem dX4_can_4 : decode cX4_can 4 = .ok (.iload_n 1, 1) := by decide +kernel
theorem dX4_can_5 : decode cX4_can 5 = .ok (.iaload, 1) := by decide +kernel
theorem dX4_can_6 : decode cX4_can 6 = .ok (.iload_n 2, 1) := by decide +kernel
theorem dX4_can_7 : decode cX4_can 7 = .ok (.if_icmp .ne 5, 3) := by decide +kernel
theorem dX4_can_10 : decode cX4_can 10 = .ok (.iconst 1, 1) := by decide +kernel
theorem dX4_can_11 : decode cX4_can 11 = .ok (.ireturn, 1) := by decide +kernel
theorem dX4_can_12 : decode cX4_can 12 = .ok (.aload_n 0, 1) := by decide +kernel
theorem dX4_can_13 : decode cX4_can 13 = .ok (.invokevirtual 213, 3) := by decide +kernel
theorem dX4_can_16 : decode cX4_can 16 = .ok (.aload_n 0, 1) := by decide +kernel
theorem dX4_can_17 : decode cX4_can 17 = .ok (.iload_n 1, 1) := by decide +kernel
theorem dX4_can_18 : decode cX4_can 18 = .ok (.iload_n 2, 1) := by decide +kernel
theorem dX4_can_19 : decode cX4_can 19 = .ok (.invokevirtual 219, 3) := by decide +kernel
theorem dX4_can_22 : decode cX4_can 22 = .ok (.istore_n 3, 1) := by decide +kernel
theorem dX4_can_23 : decode cX4_can 23 = .ok (.aload_n 0, 1) := by decide +kernel
theorem dX4_can_24 : decode cX4_can 24 = .ok (.invokevirtual 204, 3) := by decide +kernel
theorem dX4_can_27 : decode cX4_can 27 = .ok (.iload_n 3, 1) := by decide +kernel
theorem dX4_can_28 : decode cX4_can 28 = .ok (.ifCond .le 7, 3) := by decide +kernel
theorem dX4_can_31 : decode cX4_can 31 = .ok (.iconst 1, 1) := by decide +kernel
theorem dX4_can_32 : decode cX4_can 32 = .ok (.goto 4, 3) := by decide +kernel
theorem dX4_can_35 : decode cX4_can 35 = .ok (.iconst 0, 1) := by decide +kernel
theorem dX4_can_36 : decode cX4_can 36 = .ok (.ireturn, 1) := by decide +kernel
theorem dX4_isPossible_0 : decode cX4_isPossible 0 = .ok (.aload_n 0, 1) := by decide +kernel
theorem dX4_isPossible_1 : decode cX4_isPossible 1 = .ok (.iload_n 1, 1) := by decide +kernel
theorem dX4_isPossible_2 : decode cX4_isPossible 2 = .ok (.invokevirtual 161, 3) := by decide +kernel
theorem dX4_isPossible_5 : decode cX4_isPossible 5 = .ok (.ifCond .eq 15, 3) := by decide +kernel
theorem dX4_isPossible_8 : decode cX4_isPossible 8 = .ok (.aload_n 0, 1) := by decide +kernel
theorem dX4_isPossible_9 : decode cX4_isPossible 9 = .ok (.iload_n 2, 1) := by decide +kernel
theorem dX4_isPossible_10 : decode cX4_isPossible 10 = .ok (.invokevirtual 128, 3) := by decide +kernel
theorem dX4_isPossible_13 : decode cX4_isPossible 13 = .ok (.ifCond .eq 7, 3) := by decide +kernel
theorem dX4_isPossible_16 : decode cX4_isPossible 16 = .ok (.iconst 1, 1) := by decide +kernel
theorem dX4_isPossible_17 : decode cX4_isPossible 17 = .ok (.goto 4, 3) := by decide +kernel
theorem dX4_isPossible_20 : decode cX4_isPossible 20 = .ok (.iconst 0, 1) := by decide +kernel
theorem dX4_isPossible_21 : decode cX4_isPossible 21 = .ok (.istore_n 3, 1) := by decide +kernel
theorem dX4_isPossible_22 : decode cX4_isPossible 22 = .ok (.aload_n 0, 1) := by decide +kernel
theorem dX4_isPossible_23 : decode cX4_isPossible 23 = .ok (.iload_n 3, 1) := by decide +kernel
theorem dX4_isPossible_24 : decode cX4_isPossible 24 = .ok (.ifCond .eq 7, 3) := by decide +kernel
theorem dX4_isPossible_27 : decode cX4_isPossible 27 = .ok (.iconst 0, 1) := by decide +kernel
theorem dX4_isPossible_28 : decode cX4_isPossible 28 = .ok (.goto 4, 3) := by decide +kernel
theorem dX4_isPossible_31 : decode cX4_isPossible 31 = .ok (.iconst 1, 1) := by decide +kernel
theorem dX4_isPossible_32 : decode cX4_isPossible 32 = .ok (.iload_n 3, 1) := by decide +kernel
theorem dX4_isPossible_33 : decode cX4_isPossible 33 = .ok (.ifCond .eq 16, 3) := by decide +kernel
theorem dX4_isPossible_36 : decode cX4_isPossible 36 = .ok (.aload_n 0, 1) := by decide +kernel
theorem dX4_isPossible_37 : decode cX4_isPossible 37 = .ok (.iload_n 1, 1) := by decide +kernel
theorem dX4_isPossible_38 : decode cX4_isPossible 38 = .ok (.iload_n 2, 1) := by decide +kernel
theorem dX4_isPossible_39 : decode cX4_isPossible 39 = .ok (.invokevirtual 222, 3) := by decide +kernel
theorem dX4_isPossible_42 : decode cX4_isPossible 42 = .ok (.ifCond .eq 7, 3) := by decide +kernel
theorem dX4_isPossible_45 : decode cX4_isPossible 45 = .ok (.iconst 1, 1) := by decide +kernel
theorem dX4_isPossible_46 : decode cX4_isPossible 46 = .ok (.goto 4, 3) := by decide +kernel
theorem dX4_isPossible_49 : decode cX4_isPossible 49 = .ok (.iconst 0, 1) := by decide +kernel
theorem dX4_isPossible_50 : decode cX4_isPossible 50 = .ok (.invokevirtual 141, 3) := by decide +kernel
theorem dX4_isPossible_53 : decode cX4_isPossible 53 = .ok (.ireturn, 1) := by decide +kernel
theorem dX4_allThrough_0 : decode cX4_allThrough 0 = .ok (.iconst 0, 1) := by decide +kernel
theorem dX4_allThrough_1 : decode cX4_allThrough 1 = .ok (.istore_n 1, 1) := by decide +kernel
theorem dX4_allThrough_2 : decode cX4_allThrough 2 = .ok (.iconst 0, 1) := by decide +kernel
theorem dX4_allThrough_3 : decode cX4_allThrough 3 = .ok (.istore_n 2, 1) := by decide +kernel
theorem dX4_allThrough_4 : decode cX4_allThrough 4 = .ok (.iload_n 2, 1) := by decide +kernel
theorem dX4_allThrough_5 : decode cX4_allThrough 5 = .ok (.iconst 5, 1) := by decide +kernel
theorem dX4_allThrough_6 : decode cX4_allThrough 6 = .ok (.if_icmp .ge 18, 3) := by decide +kernel
theorem dX4_allThrough_9 : decode cX4_allThrough 9 = .ok (.iload_n 1, 1) := by decide +kernel
theorem dX4_allThrough_10 : decode cX4_allThrough 10 = .ok (.aload_n 0, 1) := by decide +kernel
theorem dX4_allThrough_11 : decode cX4_allThrough 11 = .ok (.getfield 35, 3) := by decide +kernel
theorem dX4_allThrough_14 : decode cX4_allThrough 14 = .ok (.iload_n 2, 1) := by decide +kernel
theorem dX4_allThrough_15 : decode cX4_allThrough 15 = .ok (.iaload, 1) := by decide +kernel
theorem dX4_allThrough_16 : decode cX4_allThrough 16 = .ok (.iadd, 1) := by decide +kernel
theorem dX4_allThrough_17 : decode cX4_allThrough 17 = .ok (.istore_n 1, 1) := by decide +kernel
theorem dX4_allThrough_18 : decode cX4_allThrough 18 = .ok (.iinc 2 1, 3) := by decide +kernel
theorem dX4_allThrough_21 : decode cX4_allThrough 21 = .ok (.goto (-17), 3) := by decide +kernel
theorem dX4_allThrough_24 : decode cX4_allThrough 24 = .ok (.iload_n 1, 1) := by decide +kernel
theorem dX4_allThrough_25 : decode cX4_allThrough 25 = .ok (.ireturn, 1) := by decide +kernel
theorem dX4_waterFor_0 : decode cX4_waterFor 0 = .ok (.aload_n 0, 1) := by decide +kernel
theorem dX4_waterFor_1 : decode cX4_waterFor 1 = .ok (.iload_n 1, 1) := by decide +kernel
theorem dX4_waterFor_2 : decode cX4_waterFor 2 = .ok (.invokevirtual 161, 3) := by decide +kernel
theorem dX4_waterFor_5 : decode cX4_waterFor 5 = .ok (.ifCond .eq 11, 3) := by decide +kernel
theorem dX4_waterFor_8 : decode cX4_waterFor 8 = .ok (.aload_n 0, 1) := by decide +kernel
theorem dX4_waterFor_9 : decode cX4_waterFor 9 = .ok (.iload_n 2, 1) := by decide +kernel
theorem dX4_waterFor_10 : decode cX4_waterFor 10 = .ok (.invokevirtual 128, 3) := by decide +kernel
theorem dX4_waterFor_13 : decode cX4_waterFor 13 = .ok (.ifCond .ne 9, 3) := by decide +kernel
theorem dX4_waterFor_16 : decode cX4_waterFor 16 = .ok (.aload_n 0, 1) := by decide +kernel
theorem dX4_waterFor_17 : decode cX4_waterFor 17 = .ok (.iconst 1, 1) := by decide +kernel
theorem dX4_waterFor_18 : decode cX4_waterFor 18 = .ok (.invokevirtual 121, 3) := by decide +kernel
theorem dX4_waterFor_21 : decode cX4_waterFor 21 = .ok (.ireturn, 1) := by decide +kernel
theorem dX4_waterFor_22 : decode cX4_waterFor 22 = .ok (.aload_n 0, 1) := by decide +kernel
theorem dX4_waterFor_23 : decode cX4_waterFor 23 = .ok (.invokevirtual 225, 3) := by decide +kernel
theorem dX4_waterFor_26 : decode cX4_waterFor 26 = .ok (.istore_n 3, 1) := by decide +kernel
theorem dX4_waterFor_27 : decode cX4_waterFor 27 = .ok (.aload_n 0, 1) := by decide +kernel
theorem dX4_waterFor_28 : decode cX4_waterFor 28 = .ok (.getfield 42, 3) := by decide +kernel
theorem dX4_waterFor_31 : decode cX4_waterFor 31 = .ok (.iload_n 1, 1) := by decide +kernel
theorem dX4_waterFor_32 : decode cX4_waterFor 32 = .ok (.iaload, 1) := by decide +kernel
theorem dX4_waterFor_33 : decode cX4_waterFor 33 = .ok (.iload_n 2, 1) := by decide +kernel
theorem dX4_waterFor_34 : decode cX4_waterFor 34 = .ok (.if_icmp .ne 7, 3) := by decide +kernel
theorem dX4_waterFor_37 : decode cX4_waterFor 37 = .ok (.iconst 1, 1) := by decide +kernel
theorem dX4_waterFor_38 : decode cX4_waterFor 38 = .ok (.goto 4, 3) := by decide +kernel
theorem dX4_waterFor_41 : decode cX4_waterFor 41 = .ok (.iconst 0, 1) := by decide +kernel
theorem dX4_waterFor_42 : decode cX4_waterFor 42 = .ok (.istore 4, 2) := by decide +kernel
theorem dX4_waterFor_44 : decode cX4_waterFor 44 = .ok (.aload_n 0, 1) := by decide +kernel
theorem dX4_waterFor_45 : decode cX4_waterFor 45 = .ok (.invokevirtual 213, 3) := by decide +kernel
theorem dX4_waterFor_48 : decode cX4_waterFor 48 = .ok (.aload_n 0, 1) := by decide +kernel
theorem dX4_waterFor_49 : decode cX4_waterFor 49 = .ok (.iload_n 1, 1) := by decide +kernel
theorem dX4_waterFor_50 : decode cX4_waterFor 50 = .ok (.iload_n 2, 1) := by decide +kernel
theorem dX4_waterFor_51 : decode cX4_waterFor 51 = .ok (.invokevirtual 219, 3) := by decide +kernel
theorem dX4_waterFor_54 : decode cX4_waterFor 54 = .ok (.istore 5, 2) := by decide +kernel
theorem dX4_waterFor_56 : decode cX4_waterFor 56 = .ok (.aload_n 0, 1) := by decide +kernel
theorem dX4_waterFor_57 : decode cX4_waterFor 57 = .ok (.invokevirtual 225, 3) := by decide +kernel
theorem dX4_waterFor_60 : decode cX4_waterFor 60 = .ok (.iload_n 3, 1) := by decide +kernel
theorem dX4_waterFor_61 : decode cX4_waterFor 61 = .ok (.isub, 1) := by decide +kernel
theorem dX4_waterFor_62 : decode cX4_waterFor 62 = .ok (.istore 6, 2) := by decide +kernel
theorem dX4_waterFor_64 : decode cX4_waterFor 64 = .ok (.aload_n 0, 1) := by decide +kernel
theorem dX4_waterFor_65 : decode cX4_waterFor 65 = .ok (.invokevirtual 204, 3) := by decide +kernel
theorem dX4_waterFor_68 : decode cX4_waterFor 68 = .ok (.iload 4, 2) := by decide +kernel
theorem dX4_waterFor_70 : decode cX4_waterFor 70 = .ok (.ifCond .ne 8, 3) := by decide +kernel
theorem dX4_waterFor_73 : decode cX4_waterFor 73 = .ok (.iload 5, 2) := by decide +kernel
theorem dX4_waterFor_75 : decode cX4_waterFor 75 = .ok (.ifCond .le 12, 3) := by decide +kernel
theorem dX4_waterFor_78 : decode cX4_waterFor 78 = .ok (.aload_n 0, 1) := by decide +kernel
theorem dX4_waterFor_79 : decode cX4_waterFor 79 = .ok (.iload 6, 2) := by decide +kernel
theorem dX4_waterFor_81 : decode cX4_waterFor 81 = .ok (.invokevirtual 125, 3) := by decide +kernel
theorem dX4_waterFor_84 : decode cX4_waterFor 84 = .ok (.goto 8, 3) := by decide +kernel
theorem dX4_waterFor_87 : decode cX4_waterFor 87 = .ok (.aload_n 0, 1) := by decide +kernel
theorem dX4_waterFor_88 : decode cX4_waterFor 88 = .ok (.iconst 2, 1) := by decide +kernel
theorem dX4_waterFor_89 : decode cX4_waterFor 89 = .ok (.invokevirtual 121, 3) := by decide +kernel
theorem dX4_waterFor_92 : decode cX4_waterFor 92 = .ok (.ireturn, 1) := by decide +kernel
theorem dX4_refusalReason_0 : decode cX4_refusalReason 0 = .ok (.aload_n 0, 1) := by decide +kernel
theorem dX4_refusalReason_1 : decode cX4_refusalReason 1 = .ok (.getfield 207, 3) := by decide +kernel
theorem dX4_refusalReason_4 : decode cX4_refusalReason 4 = .ok (.ifCond .ne 11, 3) := by decide +kernel
theorem dX4_refusalReason_7 : decode cX4_refusalReason 7 = .ok (.aload_n 0, 1) := by decide +kernel
theorem dX4_refusalReason_8 : decode cX4_refusalReason 8 = .ok (.iconst 1, 1) := by decide +kernel
theorem dX4_refusalReason_9 : decode cX4_refusalReason 9 = .ok (.invokevirtual 121, 3) := by decide +kernel
theorem dX4_refusalReason_12 : decode cX4_refusalReason 12 = .ok (.goto 11, 3) := by decide +kernel
theorem dX4_refusalReason_15 : decode cX4_refusalReason 15 = .ok (.aload_n 0, 1) := by decide +kernel
theorem dX4_refusalReason_16 : decode cX4_refusalReason 16 = .ok (.aload_n 0, 1) := by decide +kernel
theorem dX4_refusalReason_17 : decode cX4_refusalReason 17 = .ok (.getfield 207, 3) := by decide +kernel
theorem dX4_refusalReason_20 : decode cX4_refusalReason 20 = .ok (.invokevirtual 125, 3) := by decide +kernel
theorem dX4_refusalReason_23 : decode cX4_refusalReason 23 = .ok (.ireturn, 1) := by decide +kernel
theorem dX4_refusalLock_0 : decode cX4_refusalLock 0 = .ok (.aload_n 0, 1) := by decide +kernel
theorem dX4_refusalLock_1 : decode cX4_refusalLock 1 = .ok (.getfield 207, 3) := by decide +kernel
theorem dX4_refusalLock_4 : decode cX4_refusalLock 4 = .ok (.ifCond .ne 11, 3) := by decide +kernel
theorem dX4_refusalLock_7 : decode cX4_refusalLock 7 = .ok (.aload_n 0, 1) := by decide +kernel
theorem dX4_refusalLock_8 : decode cX4_refusalLock 8 = .ok (.iconst 1, 1) := by decide +kernel
theorem dX4_refusalLock_9 : decode cX4_refusalLock 9 = .ok (.invokevirtual 121, 3) := by decide +kernel
theorem dX4_refusalLock_12 : decode cX4_refusalLock 12 = .ok (.goto 11, 3) := by decide +kernel
theorem dX4_refusalLock_15 : decode cX4_refusalLock 15 = .ok (.aload_n 0, 1) := by decide +kernel
theorem dX4_refusalLock_16 : decode cX4_refusalLock 16 = .ok (.aload_n 0, 1) := by decide +kernel
theorem dX4_refusalLock_17 : decode cX4_refusalLock 17 = .ok (.getfield 210, 3) := by decide +kernel
theorem dX4_refusalLock_20 : decode cX4_refusalLock 20 = .ok (.invokevirtual 125, 3) := by decide +kernel
theorem dX4_refusalLock_23 : decode cX4_refusalLock 23 = .ok (.ireturn, 1) := by decide +kernel
theorem dX4_priceIn_0 : decode cX4_priceIn 0 = .ok (.aload_n 0, 1) := by decide +kernel
theorem dX4_priceIn_1 : decode cX4_priceIn 1 = .ok (.iload_n 1, 1) := by decide +kernel
theorem dX4_priceIn_2 : decode cX4_priceIn 2 = .ok (.invokevirtual 128, 3) := by decide +kernel
theorem dX4_priceIn_5 : decode cX4_priceIn 5 = .ok (.ifCond .eq 16, 3) := by decide +kernel
theorem dX4_priceIn_8 : decode cX4_priceIn 8 = .ok (.aload_n 0, 1) := by decide +kernel
theorem dX4_priceIn_9 : decode cX4_priceIn 9 = .ok (.aload_n 0, 1) := by decide +kernel
theorem dX4_priceIn_10 : decode cX4_priceIn 10 = .ok (.getfield 23, 3) := by decide +kernel
theorem dX4_priceIn_13 : decode cX4_priceIn 13 = .ok (.iload_n 1, 1) := by decide +kernel
theorem dX4_priceIn_14 : decode cX4_priceIn 14 = .ok (.iaload, 1) := by decide +kernel
theorem dX4_priceIn_15 : decode cX4_priceIn 15 = .ok (.invokevirtual 125, 3) := by decide +kernel
theorem dX4_priceIn_18 : decode cX4_priceIn 18 = .ok (.goto 8, 3) := by decide +kernel
theorem dX4_priceIn_21 : decode cX4_priceIn 21 = .ok (.aload_n 0, 1) := by decide +kernel
theorem dX4_priceIn_22 : decode cX4_priceIn 22 = .ok (.iconst 1, 1) := by decide +kernel
theorem dX4_priceIn_23 : decode cX4_priceIn 23 = .ok (.invokevirtual 121, 3) := by decide +kernel
theorem dX4_priceIn_26 : decode cX4_priceIn 26 = .ok (.ireturn, 1) := by decide +kernel
theorem dX4_money_0 : decode cX4_money 0 = .ok (.aload_n 0, 1) := by decide +kernel
theorem dX4_money_1 : decode cX4_money 1 = .ok (.iconst 0, 1) := by decide +kernel
theorem dX4_money_2 : decode cX4_money 2 = .ok (.putfield 101, 3) := by decide +kernel
theorem dX4_money_5 : decode cX4_money 5 = .ok (.aload_n 0, 1) := by decide +kernel
theorem dX4_money_6 : decode cX4_money 6 = .ok (.getfield 65, 3) := by decide +kernel
theorem dX4_money_9 : decode cX4_money 9 = .ok (.lreturn, 1) := by decide +kernel
theorem dX4_has_0 : decode cX4_has 0 = .ok (.aload_n 0, 1) := by decide +kernel
theorem dX4_has_1 : decode cX4_has 1 = .ok (.iload_n 1, 1) := by decide +kernel
theorem dX4_has_2 : decode cX4_has 2 = .ok (.putfield 101, 3) := by decide +kernel
theorem dX4_has_5 : decode cX4_has 5 = .ok (.iload_n 1, 1) := by decide +kernel
theorem dX4_has_6 : decode cX4_has 6 = .ok (.ifCond .ne 10, 3) := by decide +kernel
theorem dX4_has_9 : decode cX4_has 9 = .ok (.aload_n 0, 1) := by decide +kernel
theorem dX4_has_10 : decode cX4_has 10 = .ok (.getfield 65, 3) := by decide +kernel
theorem dX4_has_13 : decode cX4_has 13 = .ok (.goto 4, 3) := by decide +kernel
theorem dX4_has_16 : decode cX4_has 16 = .ok (.lconst 0, 1) := by decide +kernel
theorem dX4_has_17 : decode cX4_has 17 = .ok (.lreturn, 1) := by decide +kernel
theorem dX4_buy_0 : decode cX4_buy 0 = .ok (.aload_n 0, 1) := by decide +kernel
theorem dX4_buy_1 : decode cX4_buy 1 = .ok (.iload_n 1, 1) := by decide +kernel
theorem dX4_buy_2 : decode cX4_buy 2 = .ok (.invokevirtual 161, 3) := by decide +kernel
theorem dX4_buy_5 : decode cX4_buy 5 = .ok (.ifCond .ne 9, 3) := by decide +kernel
theorem dX4_buy_8 : decode cX4_buy 8 = .ok (.aload_n 0, 1) := by decide +kernel
theorem dX4_buy_9 : decode cX4_buy 9 = .ok (.iconst 1, 1) := by decide +kernel
theorem dX4_buy_10 : decode cX4_buy 10 = .ok (.invokevirtual 229, 3) := by decide +kernel
theorem dX4_buy_13 : decode cX4_buy 13 = .ok (.lreturn, 1) := by decide +kernel
theorem dX4_buy_14 : decode cX4_buy 14 = .ok (.iload_n 2, 1) := by decide +kernel
theorem dX4_buy_15 : decode cX4_buy 15 = .ok (.iconst 1, 1) := by decide +kernel
theorem dX4_buy_16 : decode cX4_buy 16 = .ok (.sipush 999, 3) := by decide +kernel
theorem dX4_buy_19 : decode cX4_buy 19 = .ok (.invokestatic 104, 3) := by decide +kernel
theorem dX4_buy_22 : decode cX4_buy 22 = .ok (.ifCond .ne 9, 3) := by decide +kernel
theorem dX4_buy_25 : decode cX4_buy 25 = .ok (.aload_n 0, 1) := by decide +kernel
theorem dX4_buy_26 : decode cX4_buy 26 = .ok (.iconst 2, 1) := by decide +kernel
theorem dX4_buy_27 : decode cX4_buy 27 = .ok (.invokevirtual 229, 3) := by decide +kernel
theorem dX4_buy_30 : decode cX4_buy 30 = .ok (.lreturn, 1) := by decide +kernel
theorem dX4_buy_31 : decode cX4_buy 31 = .ok (.aload_n 0, 1) := by decide +kernel
theorem dX4_buy_32 : decode cX4_buy 32 = .ok (.getfield 54, 3) := by decide +kernel
theorem dX4_buy_35 : decode cX4_buy 35 = .ok (.iload_n 1, 1) := by decide +kernel
theorem dX4_buy_36 : decode cX4_buy 36 = .ok (.dup2, 1) := by decide +kernel
theorem dX4_buy_37 : decode cX4_buy 37 = .ok (.iaload, 1) := by decide +kernel
theorem dX4_buy_38 : decode cX4_buy 38 = .ok (.iload_n 2, 1) := by decide +kernel
theorem dX4_buy_39 : decode cX4_buy 39 = .ok (.iadd, 1) := by decide +kernel
theorem dX4_buy_40 : decode cX4_buy 40 = .ok (.iastore, 1) := by decide +kernel
theorem dX4_buy_41 : decode cX4_buy 41 = .ok (.aload_n 0, 1) := by decide +kernel
theorem dX4_buy_42 : decode cX4_buy 42 = .ok (.iload_n 1, 1) := by decide +kernel
theorem dX4_buy_43 : decode cX4_buy 43 = .ok (.invokevirtual 164, 3) := by decide +kernel
theorem dX4_buy_46 : decode cX4_buy 46 = .ok (.istore_n 3, 1) := by decide +kernel
theorem dX4_buy_47 : decode cX4_buy 47 = .ok (.aload_n 0, 1) := by decide +kernel
theorem dX4_buy_48 : decode cX4_buy 48 = .ok (.getfield 54, 3) := by decide +kernel
theorem dX4_buy_51 : decode cX4_buy 51 = .ok (.iload_n 1, 1) := by decide +kernel
theorem dX4_buy_52 : decode cX4_buy 52 = .ok (.dup2, 1) := by decide +kernel
theorem dX4_buy_53 : decode cX4_buy 53 = .ok (.iaload, 1) := by decide +kernel
theorem dX4_buy_54 : decode cX4_buy 54 = .ok (.iload_n 2, 1) := by decide +kernel
theorem dX4_buy_55 : decode cX4_buy 55 = .ok (.isub, 1) := by decide +kernel
theorem dX4_buy_56 : decode cX4_buy 56 = .ok (.iastore, 1) := by decide +kernel
theorem dX4_buy_57 : decode cX4_buy 57 = .ok (.iload_n 2, 1) := by decide +kernel
theorem dX4_buy_58 : decode cX4_buy 58 = .ok (.i2l, 1) := by decide +kernel
theorem dX4_buy_59 : decode cX4_buy 59 = .ok (.aload_n 0, 1) := by decide +kernel
theorem dX4_buy_60 : decode cX4_buy 60 = .ok (.getfield 23, 3) := by decide +kernel
theorem dX4_buy_63 : decode cX4_buy 63 = .ok (.aload_n 0, 1) := by decide +kernel
theorem dX4_buy_64 : decode cX4_buy 64 = .ok (.getfield 42, 3) := by decide +kernel
theorem dX4_buy_67 : decode cX4_buy 67 = .ok (.iload_n 1, 1) := by decide +kernel
theorem dX4_buy_68 : decode cX4_buy 68 = .ok (.iaload, 1) := by decide +kernel
theorem dX4_buy_69 : decode cX4_buy 69 = .ok (.iaload, 1) := by decide +kernel
theorem dX4_buy_70 : decode cX4_buy 70 = .ok (.i2l, 1) := by decide +kernel
theorem dX4_buy_71 : decode cX4_buy 71 = .ok (.lmul, 1) := by decide +kernel
theorem dX4_buy_72 : decode cX4_buy 72 = .ok (.lstore 4, 2) := by decide +kernel
theorem dX4_buy_74 : decode cX4_buy 74 = .ok (.iload_n 3, 1) := by decide +kernel
theorem dX4_buy_75 : decode cX4_buy 75 = .ok (.ifCond .eq 13, 3) := by decide +kernel
theorem dX4_buy_78 : decode cX4_buy 78 = .ok (.lload 4, 2) := by decide +kernel
theorem dX4_buy_80 : decode cX4_buy 80 = .ok (.aload_n 0, 1) := by decide +kernel
theorem dX4_buy_81 : decode cX4_buy 81 = .ok (.getfield 65, 3) := by decide +kernel
theorem dX4_buy_84 : decode cX4_buy 84 = .ok (.lcmp, 1) := by decide +kernel
theorem dX4_buy_85 : decode cX4_buy 85 = .ok (.ifCond .le 17, 3) := by decide +kernel
theorem dX4_buy_88 : decode cX4_buy 88 = .ok (.aload_n 0, 1) := by decide +kernel
theorem dX4_buy_89 : decode cX4_buy 89 = .ok (.iload_n 3, 1) := by decide +kernel
theorem dX4_buy_90 : decode cX4_buy 90 = .ok (.ifCond .eq 7, 3) := by decide +kernel
theorem dX4_buy_93 : decode cX4_buy 93 = .ok (.iconst 4, 1) := by decide +kernel
theorem dX4_buy_94 : decode cX4_buy 94 = .ok (.goto 4, 3) := by decide +kernel
theorem dX4_buy_97 : decode cX4_buy 97 = .ok (.iconst 3, 1) := by decide +kernel
theorem dX4_buy_98 : decode cX4_buy 98 = .ok (.invokevirtual 229, 3) := by decide +kernel
theorem dX4_buy_101 : decode cX4_buy 101 = .ok (.lreturn, 1) := by decide +kernel
theorem dX4_buy_102 : decode cX4_buy 102 = .ok (.aload_n 0, 1) := by decide +kernel
theorem dX4_buy_103 : decode cX4_buy 103 = .ok (.getfield 54, 3) := by decide +kernel
theorem dX4_buy_106 : decode cX4_buy 106 = .ok (.iload_n 1, 1) := by decide +kernel
theorem dX4_buy_107 : decode cX4_buy 107 = .ok (.dup2, 1) := by decide +kernel
theorem dX4_buy_108 : decode cX4_buy 108 = .ok (.iaload, 1) := by decide +kernel
theorem dX4_buy_109 : decode cX4_buy 109 = .ok (.iload_n 2, 1) := by decide +kernel
theorem dX4_buy_110 : decode cX4_buy 110 = .ok (.iadd, 1) := by decide +kernel
theorem dX4_buy_111 : decode cX4_buy 111 = .ok (.iastore, 1) := by decide +kernel
theorem dX4_buy_112 : decode cX4_buy 112 = .ok (.aload_n 0, 1) := by decide +kernel
theorem dX4_buy_113 : decode cX4_buy 113 = .ok (.dup, 1) := by decide +kernel
theorem dX4_buy_114 : decode cX4_buy 114 = .ok (.getfield 65, 3) := by decide +kernel
theorem dX4_buy_117 : decode cX4_buy 117 = .ok (.lload 4, 2) := by decide +kernel
theorem dX4_buy_119 : decode cX4_buy 119 = .ok (.lsub, 1) := by decide +kernel
theorem dX4_buy_120 : decode cX4_buy 120 = .ok (.putfield 65, 3) := by decide +kernel
theorem dX4_buy_123 : decode cX4_buy 123 = .ok (.aload_n 0, 1) := by decide +kernel
theorem dX4_buy_124 : decode cX4_buy 124 = .ok (.iconst 0, 1) := by decide +kernel
theorem dX4_buy_125 : decode cX4_buy 125 = .ok (.invokevirtual 229, 3) := by decide +kernel
theorem dX4_buy_128 : decode cX4_buy 128 = .ok (.lreturn, 1) := by decide +kernel
theorem dX4_sells_0 : decode cX4_sells 0 = .ok (.aload_n 0, 1) := by decide +kernel
theorem dX4_sells_1 : decode cX4_sells 1 = .ok (.getfield 54, 3) := by decide +kernel
theorem dX4_sells_4 : decode cX4_sells 4 = .ok (.iload_n 1, 1) := by decide +kernel
theorem dX4_sells_5 : decode cX4_sells 5 = .ok (.dup2, 1) := by decide +kernel
theorem dX4_sells_6 : decode cX4_sells 6 = .ok (.iaload, 1) := by decide +kernel
theorem dX4_sells_7 : decode cX4_sells 7 = .ok (.iload_n 2, 1) := by decide +kernel
theorem dX4_sells_8 : decode cX4_sells 8 = .ok (.isub, 1) := by decide +kernel
theorem dX4_sells_9 : decode cX4_sells 9 = .ok (.iastore, 1) := by decide +kernel
theorem dX4_sells_10 : decode cX4_sells 10 = .ok (.aload_n 0, 1) := by decide +kernel
theorem dX4_sells_11 : decode cX4_sells 11 = .ok (.dup, 1) := by decide +kernel
theorem dX4_sells_12 : decode cX4_sells 12 = .ok (.getfield 65, 3) := by decide +kernel
theorem dX4_sells_15 : decode cX4_sells 15 = .ok (.iload_n 2, 1) := by decide +kernel
theorem dX4_sells_16 : decode cX4_sells 16 = .ok (.i2l, 1) := by decide +kernel
theorem dX4_sells_17 : decode cX4_sells 17 = .ok (.aload_n 0, 1) := by decide +kernel
theorem dX4_sells_18 : decode cX4_sells 18 = .ok (.getfield 23, 3) := by decide +kernel
theorem dX4_sells_21 : decode cX4_sells 21 = .ok (.aload_n 0, 1) := by decide +kernel
theorem dX4_sells_22 : decode cX4_sells 22 = .ok (.getfield 42, 3) := by decide +kernel
theorem dX4_sells_25 : decode cX4_sells 25 = .ok (.iload_n 1, 1) := by decide +kernel
theorem dX4_sells_26 : decode cX4_sells 26 = .ok (.iaload, 1) := by decide +kernel
theorem dX4_sells_27 : decode cX4_sells 27 = .ok (.iaload, 1) := by decide +kernel
theorem dX4_sells_28 : decode cX4_sells 28 = .ok (.i2l, 1) := by decide +kernel
theorem dX4_sells_29 : decode cX4_sells 29 = .ok (.lmul, 1) := by decide +kernel
theorem dX4_sells_30 : decode cX4_sells 30 = .ok (.ladd, 1) := by decide +kernel
theorem dX4_sells_31 : decode cX4_sells 31 = .ok (.putfield 65, 3) := by decide +kernel
theorem dX4_sells_34 : decode cX4_sells 34 = .ok (.return_, 1) := by decide +kernel
theorem dX4_sell_0 : decode cX4_sell 0 = .ok (.aload_n 0, 1) := by decide +kernel
theorem dX4_sell_1 : decode cX4_sell 1 = .ok (.iload_n 1, 1) := by decide +kernel
theorem dX4_sell_2 : decode cX4_sell 2 = .ok (.invokevirtual 161, 3) := by decide +kernel
theorem dX4_sell_5 : decode cX4_sell 5 = .ok (.ifCond .ne 9, 3) := by decide +kernel
theorem dX4_sell_8 : decode cX4_sell 8 = .ok (.aload_n 0, 1) := by decide +kernel
theorem dX4_sell_9 : decode cX4_sell 9 = .ok (.iconst 1, 1) := by decide +kernel
theorem dX4_sell_10 : decode cX4_sell 10 = .ok (.invokevirtual 229, 3) := by decide +kernel
theorem dX4_sell_13 : decode cX4_sell 13 = .ok (.lreturn, 1) := by decide +kernel
theorem dX4_sell_14 : decode cX4_sell 14 = .ok (.iload_n 2, 1) := by decide +kernel
theorem dX4_sell_15 : decode cX4_sell 15 = .ok (.iconst 1, 1) := by decide +kernel
theorem dX4_sell_16 : decode cX4_sell 16 = .ok (.sipush 999, 3) := by decide +kernel
theorem dX4_sell_19 : decode cX4_sell 19 = .ok (.invokestatic 104, 3) := by decide +kernel
theorem dX4_sell_22 : decode cX4_sell 22 = .ok (.ifCond .ne 9, 3) := by decide +kernel
theorem dX4_sell_25 : decode cX4_sell 25 = .ok (.aload_n 0, 1) := by decide +kernel
theorem dX4_sell_26 : decode cX4_sell 26 = .ok (.iconst 2, 1) := by decide +kernel
theorem dX4_sell_27 : decode cX4_sell 27 = .ok (.invokevirtual 229, 3) := by decide +kernel
theorem dX4_sell_30 : decode cX4_sell 30 = .ok (.lreturn, 1) := by decide +kernel
theorem dX4_sell_31 : decode cX4_sell 31 = .ok (.aload_n 0, 1) := by decide +kernel
theorem dX4_sell_32 : decode cX4_sell 32 = .ok (.getfield 54, 3) := by decide +kernel
theorem dX4_sell_35 : decode cX4_sell 35 = .ok (.iload_n 1, 1) := by decide +kernel
theorem dX4_sell_36 : decode cX4_sell 36 = .ok (.iaload, 1) := by decide +kernel
theorem dX4_sell_37 : decode cX4_sell 37 = .ok (.iload_n 2, 1) := by decide +kernel
theorem dX4_sell_38 : decode cX4_sell 38 = .ok (.if_icmp .ge 9, 3) := by decide +kernel
theorem dX4_sell_41 : decode cX4_sell 41 = .ok (.aload_n 0, 1) := by decide +kernel
theorem dX4_sell_42 : decode cX4_sell 42 = .ok (.iconst 3, 1) := by decide +kernel
theorem dX4_sell_43 : decode cX4_sell 43 = .ok (.invokevirtual 229, 3) := by decide +kernel
theorem dX4_sell_46 : decode cX4_sell 46 = .ok (.lreturn, 1) := by decide +kernel
theorem dX4_sell_47 : decode cX4_sell 47 = .ok (.aload_n 0, 1) := by decide +kernel
theorem dX4_sell_48 : decode cX4_sell 48 = .ok (.iload_n 1, 1) := by decide +kernel
theorem dX4_sell_49 : decode cX4_sell 49 = .ok (.iload_n 2, 1) := by decide +kernel
theorem dX4_sell_50 : decode cX4_sell 50 = .ok (.invokevirtual 233, 3) := by decide +kernel
theorem dX4_sell_53 : decode cX4_sell 53 = .ok (.aload_n 0, 1) := by decide +kernel
theorem dX4_sell_54 : decode cX4_sell 54 = .ok (.iconst 0, 1) := by decide +kernel
theorem dX4_sell_55 : decode cX4_sell 55 = .ok (.invokevirtual 229, 3) := by decide +kernel
theorem dX4_sell_58 : decode cX4_sell 58 = .ok (.lreturn, 1) := by decide +kernel
theorem dX4_sellToDraught_0 : decode cX4_sellToDraught 0 = .ok (.aload_n 0, 1) := by decide +kernel
theorem dX4_sellToDraught_1 : decode cX4_sellToDraught 1 = .ok (.iload_n 1, 1) := by decide +kernel
theorem dX4_sellToDraught_2 : decode cX4_sellToDraught 2 = .ok (.invokevirtual 161, 3) := by decide +kernel
theorem dX4_sellToDraught_5 : decode cX4_sellToDraught 5 = .ok (.ifCond .ne 9, 3) := by decide +kernel
theorem dX4_sellToDraught_8 : decode cX4_sellToDraught 8 = .ok (.aload_n 0, 1) := by decide +kernel
theorem dX4_sellToDraught_9 : decode cX4_sellToDraught 9 = .ok (.iconst 1, 1) := by decide +kernel
theorem dX4_sellToDraught_10 : decode cX4_sellToDraught 10 = .ok (.invokevirtual 121, 3) := by decide +kernel
theorem dX4_sellToDraught_13 : decode cX4_sellToDraught 13 = .ok (.ireturn, 1) := by decide +kernel
theorem dX4_sellToDraught_14 : decode cX4_sellToDraught 14 = .ok (.iload_n 2, 1) := by decide +kernel
theorem dX4_sellToDraught_15 : decode cX4_sellToDraught 15 = .ok (.iconst 1, 1) := by decide +kernel
theorem dX4_sellToDraught_16 : decode cX4_sellToDraught 16 = .ok (.bipush 60, 2) := by decide +kernel
theorem dX4_sellToDraught_18 : decode cX4_sellToDraught 18 = .ok (.invokestatic 104, 3) := by decide +kernel
theorem dX4_sellToDraught_21 : decode cX4_sellToDraught 21 = .ok (.ifCond .ne 9, 3) := by decide +kernel
theorem dX4_sellToDraught_24 : decode cX4_sellToDraught 24 = .ok (.aload_n 0, 1) := by decide +kernel
theorem dX4_sellToDraught_25 : decode cX4_sellToDraught 25 = .ok (.iconst 2, 1) := by decide +kernel
theorem dX4_sellToDraught_26 : decode cX4_sellToDraught 26 = .ok (.invokevirtual 121, 3) := by decide +kernel
theorem dX4_sellToDraught_29 : decode cX4_sellToDraught 29 = .ok (.ireturn, 1) := by decide +kernel
theorem dX4_sellToDraught_30 : decode cX4_sellToDraught 30 = .ok (.aload_n 0, 1) := by decide +kernel
theorem dX4_sellToDraught_31 : decode cX4_sellToDraught 31 = .ok (.getfield 48, 3) := by decide +kernel
theorem dX4_sellToDraught_34 : decode cX4_sellToDraught 34 = .ok (.iload_n 1, 1) := by decide +kernel
theorem dX4_sellToDraught_35 : decode cX4_sellToDraught 35 = .ok (.iaload, 1) := by decide +kernel
theorem dX4_sellToDraught_36 : decode cX4_sellToDraught 36 = .ok (.iload_n 2, 1) := by decide +kernel
theorem dX4_sellToDraught_37 : decode cX4_sellToDraught 37 = .ok (.if_icmp .le 9, 3) := by decide +kernel
theorem dX4_sellToDraught_40 : decode cX4_sellToDraught 40 = .ok (.aload_n 0, 1) := by decide +kernel
theorem dX4_sellToDraught_41 : decode cX4_sellToDraught 41 = .ok (.iconst 3, 1) := by decide +kernel
theorem dX4_sellToDraught_42 : decode cX4_sellToDraught 42 = .ok (.invokevirtual 121, 3) := by decide +kernel
theorem dX4_sellToDraught_45 : decode cX4_sellToDraught 45 = .ok (.ireturn, 1) := by decide +kernel
theorem dX4_sellToDraught_46 : decode cX4_sellToDraught 46 = .ok (.iconst 0, 1) := by decide +kernel
theorem dX4_sellToDraught_47 : decode cX4_sellToDraught 47 = .ok (.istore_n 3, 1) := by decide +kernel
theorem dX4_sellToDraught_48 : decode cX4_sellToDraught 48 = .ok (.aload_n 0, 1) := by decide +kernel
theorem dX4_sellToDraught_49 : decode cX4_sellToDraught 49 = .ok (.iload_n 1, 1) := by decide +kernel
theorem dX4_sellToDraught_50 : decode cX4_sellToDraught 50 = .ok (.invokevirtual 158, 3) := by decide +kernel
theorem dX4_sellToDraught_53 : decode cX4_sellToDraught 53 = .ok (.iload_n 2, 1) := by decide +kernel
theorem dX4_sellToDraught_54 : decode cX4_sellToDraught 54 = .ok (.if_icmp .le 15, 3) := by decide +kernel
theorem dX4_sellToDraught_57 : decode cX4_sellToDraught 57 = .ok (.aload_n 0, 1) := by decide +kernel
theorem dX4_sellToDraught_58 : decode cX4_sellToDraught 58 = .ok (.iload_n 1, 1) := by decide +kernel
theorem dX4_sellToDraught_59 : decode cX4_sellToDraught 59 = .ok (.iconst 1, 1) := by decide +kernel
theorem dX4_sellToDraught_60 : decode cX4_sellToDraught 60 = .ok (.invokevirtual 233, 3) := by decide +kernel
theorem dX4_sellToDraught_63 : decode cX4_sellToDraught 63 = .ok (.iinc 3 1, 3) := by decide +kernel
theorem dX4_sellToDraught_66 : decode cX4_sellToDraught 66 = .ok (.goto (-18), 3) := by decide +kernel
theorem dX4_sellToDraught_69 : decode cX4_sellToDraught 69 = .ok (.aload_n 0, 1) := by decide +kernel
theorem dX4_sellToDraught_70 : decode cX4_sellToDraught 70 = .ok (.iload_n 3, 1) := by decide +kernel
theorem dX4_sellToDraught_71 : decode cX4_sellToDraught 71 = .ok (.invokevirtual 125, 3) := by decide +kernel
theorem dX4_sellToDraught_74 : decode cX4_sellToDraught 74 = .ok (.ireturn, 1) := by decide +kernel
theorem dX4_greatestLoad_0 : decode cX4_greatestLoad 0 = .ok (.aload_n 0, 1) := by decide +kernel
theorem dX4_greatestLoad_1 : decode cX4_greatestLoad 1 = .ok (.iload_n 1, 1) := by decide +kernel
theorem dX4_greatestLoad_2 : decode cX4_greatestLoad 2 = .ok (.invokevirtual 161, 3) := by decide +kernel
theorem dX4_greatestLoad_5 : decode cX4_greatestLoad 5 = .ok (.ifCond .ne 9, 3) := by decide +kernel
theorem dX4_greatestLoad_8 : decode cX4_greatestLoad 8 = .ok (.aload_n 0, 1) := by decide +kernel
theorem dX4_greatestLoad_9 : decode cX4_greatestLoad 9 = .ok (.iconst 1, 1) := by decide +kernel
theorem dX4_greatestLoad_10 : decode cX4_greatestLoad 10 = .ok (.invokevirtual 121, 3) := by decide +kernel
theorem dX4_greatestLoad_13 : decode cX4_greatestLoad 13 = .ok (.ireturn, 1) := by decide +kernel
theorem dX4_greatestLoad_14 : decode cX4_greatestLoad 14 = .ok (.aload_n 0, 1) := by decide +kernel
theorem dX4_greatestLoad_15 : decode cX4_greatestLoad 15 = .ok (.aload_n 0, 1) := by decide +kernel
theorem dX4_greatestLoad_16 : decode cX4_greatestLoad 16 = .ok (.getfield 42, 3) := by decide +kernel
theorem dX4_greatestLoad_19 : decode cX4_greatestLoad 19 = .ok (.iload_n 1, 1) := by decide +kernel
theorem dX4_greatestLoad_20 : decode cX4_greatestLoad 20 = .ok (.iaload, 1) := by decide +kernel
theorem dX4_greatestLoad_21 : decode cX4_greatestLoad 21 = .ok (.invokevirtual 135, 3) := by decide +kernel
theorem dX4_greatestLoad_24 : decode cX4_greatestLoad 24 = .ok (.iconst 1, 1) := by decide +kernel
theorem dX4_greatestLoad_25 : decode cX4_greatestLoad 25 = .ok (.isub, 1) := by decide +kernel
theorem dX4_greatestLoad_26 : decode cX4_greatestLoad 26 = .ok (.aload_n 0, 1) := by decide +kernel
theorem dX4_greatestLoad_27 : decode cX4_greatestLoad 27 = .ok (.getfield 48, 3) := by decide +kernel
theorem dX4_greatestLoad_30 : decode cX4_greatestLoad 30 = .ok (.iload_n 1, 1) := by decide +kernel
theorem dX4_greatestLoad_31 : decode cX4_greatestLoad 31 = .ok (.iaload, 1) := by decide +kernel
theorem dX4_greatestLoad_32 : decode cX4_greatestLoad 32 = .ok (.isub, 1) := by decide +kernel
theorem dX4_greatestLoad_33 : decode cX4_greatestLoad 33 = .ok (.aload_n 0, 1) := by decide +kernel
theorem dX4_greatestLoad_34 : decode cX4_greatestLoad 34 = .ok (.getfield 51, 3) := by decide +kernel
theorem dX4_greatestLoad_37 : decode cX4_greatestLoad 37 = .ok (.iload_n 1, 1) := by decide +kernel
theorem dX4_greatestLoad_38 : decode cX4_greatestLoad 38 = .ok (.iaload, 1) := by decide +kernel
theorem dX4_greatestLoad_39 : decode cX4_greatestLoad 39 = .ok (.imul, 1) := by decide +kernel
theorem dX4_greatestLoad_40 : decode cX4_greatestLoad 40 = .ok (.aload_n 0, 1) := by decide +kernel
theorem dX4_greatestLoad_41 : decode cX4_greatestLoad 41 = .ok (.getfield 54, 3) := by decide +kernel
theorem dX4_greatestLoad_44 : decode cX4_greatestLoad 44 = .ok (.iload_n 1, 1) := by decide +kernel
theorem dX4_greatestLoad_45 : decode cX4_greatestLoad 45 = .ok (.iaload, 1) := by decide +kernel
theorem dX4_greatestLoad_46 : decode cX4_greatestLoad 46 = .ok (.isub, 1) := by decide +kernel
theorem dX4_greatestLoad_47 : decode cX4_greatestLoad 47 = .ok (.istore_n 2, 1) := by decide +kernel
theorem dX4_greatestLoad_48 : decode cX4_greatestLoad 48 = .ok (.aload_n 0, 1) := by decide +kernel
theorem dX4_greatestLoad_49 : decode cX4_greatestLoad 49 = .ok (.aload_n 0, 1) := by decide +kernel
theorem dX4_greatestLoad_50 : decode cX4_greatestLoad 50 = .ok (.iload_n 1, 1) := by decide +kernel
theorem dX4_greatestLoad_51 : decode cX4_greatestLoad 51 = .ok (.invokevirtual 164, 3) := by decide +kernel
theorem dX4_greatestLoad_54 : decode cX4_greatestLoad 54 = .ok (.ifCond .eq 7, 3) := by decide +kernel
theorem dX4_greatestLoad_57 : decode cX4_greatestLoad 57 = .ok (.iload_n 2, 1) := by decide +kernel
theorem dX4_greatestLoad_58 : decode cX4_greatestLoad 58 = .ok (.goto 4, 3) := by decide +kernel
theorem dX4_greatestLoad_61 : decode cX4_greatestLoad 61 = .ok (.iconst 0, 1) := by decide +kernel
theorem dX4_greatestLoad_62 : decode cX4_greatestLoad 62 = .ok (.invokevirtual 125, 3) := by decide +kernel
theorem dX4_greatestLoad_65 : decode cX4_greatestLoad 65 = .ok (.ireturn, 1) := by decide +kernel
theorem dX4_worthIn_0 : decode cX4_worthIn 0 = .ok (.aload_n 0, 1) := by decide +kernel
theorem dX4_worthIn_1 : decode cX4_worthIn 1 = .ok (.iload_n 1, 1) := by decide +kernel
theorem dX4_worthIn_2 : decode cX4_worthIn 2 = .ok (.invokevirtual 161, 3) := by decide +kernel
theorem dX4_worthIn_5 : decode cX4_worthIn 5 = .ok (.ifCond .eq 31, 3) := by decide +kernel
theorem dX4_worthIn_8 : decode cX4_worthIn 8 = .ok (.aload_n 0, 1) := by decide +kernel
theorem dX4_worthIn_9 : decode cX4_worthIn 9 = .ok (.iload_n 2, 1) := by decide +kernel
theorem dX4_worthIn_10 : decode cX4_worthIn 10 = .ok (.invokevirtual 128, 3) := by decide +kernel
theorem dX4_worthIn_13 : decode cX4_worthIn 13 = .ok (.ifCond .eq 23, 3) := by decide +kernel
theorem dX4_worthIn_16 : decode cX4_worthIn 16 = .ok (.aload_n 0, 1) := by decide +kernel
theorem dX4_worthIn_17 : decode cX4_worthIn 17 = .ok (.aload_n 0, 1) := by decide +kernel
theorem dX4_worthIn_18 : decode cX4_worthIn 18 = .ok (.getfield 54, 3) := by decide +kernel
theorem dX4_worthIn_21 : decode cX4_worthIn 21 = .ok (.iload_n 1, 1) := by decide +kernel
theorem dX4_worthIn_22 : decode cX4_worthIn 22 = .ok (.iaload, 1) := by decide +kernel
theorem dX4_worthIn_23 : decode cX4_worthIn 23 = .ok (.aload_n 0, 1) := by decide +kernel
theorem dX4_worthIn_24 : decode cX4_worthIn 24 = .ok (.getfield 23, 3) := by decide +kernel
theorem dX4_worthIn_27 : decode cX4_worthIn 27 = .ok (.iload_n 2, 1) := by decide +kernel
theorem dX4_worthIn_28 : decode cX4_worthIn 28 = .ok (.iaload, 1) := by decide +kernel
theorem dX4_worthIn_29 : decode cX4_worthIn 29 = .ok (.imul, 1) := by decide +kernel
theorem dX4_worthIn_30 : decode cX4_worthIn 30 = .ok (.invokevirtual 125, 3) := by decide +kernel
theorem dX4_worthIn_33 : decode cX4_worthIn 33 = .ok (.goto 8, 3) := by decide +kernel
theorem dX4_worthIn_36 : decode cX4_worthIn 36 = .ok (.aload_n 0, 1) := by decide +kernel
theorem dX4_worthIn_37 : decode cX4_worthIn 37 = .ok (.iconst 1, 1) := by decide +kernel
theorem dX4_worthIn_38 : decode cX4_worthIn 38 = .ok (.invokevirtual 121, 3) := by decide +kernel
theorem dX4_worthIn_41 : decode cX4_worthIn 41 = .ok (.ireturn, 1) := by decide +kernel
theorem dX4_bestReach_0 : decode cX4_bestReach 0 = .ok (.aload_n 0, 1) := by decide +kernel
theorem dX4_bestReach_1 : decode cX4_bestReach 1 = .ok (.iload_n 1, 1) := by decide +kernel
theorem dX4_bestReach_2 : decode cX4_bestReach 2 = .ok (.invokevirtual 161, 3) := by decide +kernel
theorem dX4_bestReach_5 : decode cX4_bestReach 5 = .ok (.ifCond .ne 9, 3) := by decide +kernel
theorem dX4_bestReach_8 : decode cX4_bestReach 8 = .ok (.aload_n 0, 1) := by decide +kernel
theorem dX4_bestReach_9 : decode cX4_bestReach 9 = .ok (.iconst 1, 1) := by decide +kernel
theorem dX4_bestReach_10 : decode cX4_bestReach 10 = .ok (.invokevirtual 121, 3) := by decide +kernel
theorem dX4_bestReach_13 : decode cX4_bestReach 13 = .ok (.ireturn, 1) := by decide +kernel
theorem dX4_bestReach_14 : decode cX4_bestReach 14 = .ok (.iconst (-1), 1) := by decide +kernel
theorem dX4_bestReach_15 : decode cX4_bestReach 15 = .ok (.istore_n 2, 1) := by decide +kernel
theorem dX4_bestReach_16 : decode cX4_bestReach 16 = .ok (.iconst 0, 1) := by decide +kernel
theorem dX4_bestReach_17 : decode cX4_bestReach 17 = .ok (.istore_n 3, 1) := by decide +kernel
theorem dX4_bestReach_18 : decode cX4_bestReach 18 = .ok (.iload_n 3, 1) := by decide +kernel
theorem dX4_bestReach_19 : decode cX4_bestReach 19 = .ok (.aload_n 0, 1) := by decide +kernel
theorem dX4_bestReach_20 : decode cX4_bestReach 20 = .ok (.getfield 7, 3) := by decide +kernel
theorem dX4_bestReach_23 : decode cX4_bestReach 23 = .ok (.if_icmp .ge 54, 3) := by decide +kernel
theorem dX4_bestReach_26 : decode cX4_bestReach 26 = .ok (.iload_n 2, 1) := by decide +kernel
theorem dX4_bestReach_27 : decode cX4_bestReach 27 = .ok (.iconst (-1), 1) := by decide +kernel
theorem dX4_bestReach_28 : decode cX4_bestReach 28 = .ok (.if_icmp .eq 32, 3) := by decide +kernel
theorem dX4_bestReach_31 : decode cX4_bestReach 31 = .ok (.aload_n 0, 1) := by decide +kernel
theorem dX4_bestReach_32 : decode cX4_bestReach 32 = .ok (.getfield 54, 3) := by decide +kernel
theorem dX4_bestReach_35 : decode cX4_bestReach 35 = .ok (.iload_n 1, 1) := by decide +kernel
theorem dX4_bestReach_36 : decode cX4_bestReach 36 = .ok (.iaload, 1) := by decide +kernel
theorem dX4_bestReach_37 : decode cX4_bestReach 37 = .ok (.aload_n 0, 1) := by decide +kernel
theorem dX4_bestReach_38 : decode cX4_bestReach 38 = .ok (.getfield 23, 3) := by decide +kernel
theorem dX4_bestReach_41 : decode cX4_bestReach 41 = .ok (.iload_n 3, 1) := by decide +kernel
theorem dX4_bestReach_42 : decode cX4_bestReach 42 = .ok (.iaload, 1) := by decide +kernel
theorem dX4_bestReach_43 : decode cX4_bestReach 43 = .ok (.imul, 1) := by decide +kernel
theorem dX4_bestReach_44 : decode cX4_bestReach 44 = .ok (.aload_n 0, 1) := by decide +kernel
theorem dX4_bestReach_45 : decode cX4_bestReach 45 = .ok (.getfield 54, 3) := by decide +kernel
theorem dX4_bestReach_48 : decode cX4_bestReach 48 = .ok (.iload_n 1, 1) := by decide +kernel
theorem dX4_bestReach_49 : decode cX4_bestReach 49 = .ok (.iaload, 1) := by decide +kernel
theorem dX4_bestReach_50 : decode cX4_bestReach 50 = .ok (.aload_n 0, 1) := by decide +kernel
theorem dX4_bestReach_51 : decode cX4_bestReach 51 = .ok (.getfield 23, 3) := by decide +kernel
theorem dX4_bestReach_54 : decode cX4_bestReach 54 = .ok (.iload_n 2, 1) := by decide +kernel
theorem dX4_bestReach_55 : decode cX4_bestReach 55 = .ok (.iaload, 1) := by decide +kernel
theorem dX4_bestReach_56 : decode cX4_bestReach 56 = .ok (.imul, 1) := by decide +kernel
theorem dX4_bestReach_57 : decode cX4_bestReach 57 = .ok (.if_icmp .le 14, 3) := by decide +kernel
theorem dX4_bestReach_60 : decode cX4_bestReach 60 = .ok (.aload_n 0, 1) := by decide +kernel
theorem dX4_bestReach_61 : decode cX4_bestReach 61 = .ok (.iload_n 1, 1) := by decide +kernel
theorem dX4_bestReach_62 : decode cX4_bestReach 62 = .ok (.iload_n 3, 1) := by decide +kernel
theorem dX4_bestReach_63 : decode cX4_bestReach 63 = .ok (.invokevirtual 222, 3) := by decide +kernel
theorem dX4_bestReach_66 : decode cX4_bestReach 66 = .ok (.ifCond .eq 5, 3) := by decide +kernel
theorem dX4_bestReach_69 : decode cX4_bestReach 69 = .ok (.iload_n 3, 1) := by decide +kernel
theorem dX4_bestReach_70 : decode cX4_bestReach 70 = .ok (.istore_n 2, 1) := by decide +kernel
theorem dX4_bestReach_71 : decode cX4_bestReach 71 = .ok (.iinc 3 1, 3) := by decide +kernel
theorem dX4_bestReach_74 : decode cX4_bestReach 74 = .ok (.goto (-56), 3) := by decide +kernel
theorem dX4_bestReach_77 : decode cX4_bestReach 77 = .ok (.aload_n 0, 1) := by decide +kernel
theorem dX4_bestReach_78 : decode cX4_bestReach 78 = .ok (.iload_n 2, 1) := by decide +kernel
theorem dX4_bestReach_79 : decode cX4_bestReach 79 = .ok (.invokevirtual 125, 3) := by decide +kernel
theorem dX4_bestReach_82 : decode cX4_bestReach 82 = .ok (.ireturn, 1) := by decide +kernel
theorem dX4_cameTotal_0 : decode cX4_cameTotal 0 = .ok (.aload_n 0, 1) := by decide +kernel
theorem dX4_cameTotal_1 : decode cX4_cameTotal 1 = .ok (.aload_n 0, 1) := by decide +kernel
theorem dX4_cameTotal_2 : decode cX4_cameTotal 2 = .ok (.getfield 69, 3) := by decide +kernel
theorem dX4_cameTotal_5 : decode cX4_cameTotal 5 = .ok (.invokevirtual 125, 3) := by decide +kernel
theorem dX4_cameTotal_8 : decode cX4_cameTotal 8 = .ok (.ireturn, 1) := by decide +kernel
theorem dX4_seaTotal_0 : decode cX4_seaTotal 0 = .ok (.aload_n 0, 1) := by decide +kernel
theorem dX4_seaTotal_1 : decode cX4_seaTotal 1 = .ok (.aload_n 0, 1) := by decide +kernel
theorem dX4_seaTotal_2 : decode cX4_seaTotal 2 = .ok (.getfield 115, 3) := by decide +kernel
theorem dX4_seaTotal_5 : decode cX4_seaTotal 5 = .ok (.invokevirtual 125, 3) := by decide +kernel
theorem dX4_seaTotal_8 : decode cX4_seaTotal 8 = .ok (.ireturn, 1) := by decide +kernel
theorem dX4_airTotal_0 : decode cX4_airTotal 0 = .ok (.aload_n 0, 1) := by decide +kernel
theorem dX4_airTotal_1 : decode cX4_airTotal 1 = .ok (.aload_n 0, 1) := by decide +kernel
theorem dX4_airTotal_2 : decode cX4_airTotal 2 = .ok (.getfield 152, 3) := by decide +kernel
theorem dX4_airTotal_5 : decode cX4_airTotal 5 = .ok (.invokevirtual 125, 3) := by decide +kernel
theorem dX4_airTotal_8 : decode cX4_airTotal 8 = .ok (.ireturn, 1) := by decide +kernel
theorem dX4_held_0 : decode cX4_held 0 = .ok (.iconst 0, 1) := by decide +kernel
theorem dX4_held_1 : decode cX4_held 1 = .ok (.istore_n 1, 1) := by decide +kernel
theorem dX4_held_2 : decode cX4_held 2 = .ok (.iconst 0, 1) := by decide +kernel
theorem dX4_held_3 : decode cX4_held 3 = .ok (.istore_n 2, 1) := by decide +kernel
theorem dX4_held_4 : decode cX4_held 4 = .ok (.iload_n 2, 1) := by decide +kernel
theorem dX4_held_5 : decode cX4_held 5 = .ok (.aload_n 0, 1) := by decide +kernel
theorem dX4_held_6 : decode cX4_held 6 = .ok (.getfield 7, 3) := by decide +kernel
theorem dX4_held_9 : decode cX4_held 9 = .ok (.if_icmp .ge 18, 3) := by decide +kernel
theorem dX4_held_12 : decode cX4_held 12 = .ok (.iload_n 1, 1) := by decide +kernel
theorem dX4_held_13 : decode cX4_held 13 = .ok (.aload_n 0, 1) := by decide +kernel
theorem dX4_held_14 : decode cX4_held 14 = .ok (.getfield 17, 3) := by decide +kernel
theorem dX4_held_17 : decode cX4_held 17 = .ok (.iload_n 2, 1) := by decide +kernel
theorem dX4_held_18 : decode cX4_held 18 = .ok (.iaload, 1) := by decide +kernel
theorem dX4_held_19 : decode cX4_held 19 = .ok (.iadd, 1) := by decide +kernel
theorem dX4_held_20 : decode cX4_held 20 = .ok (.istore_n 1, 1) := by decide +kernel
theorem dX4_held_21 : decode cX4_held 21 = .ok (.iinc 2 1, 3) := by decide +kernel
theorem dX4_held_24 : decode cX4_held 24 = .ok (.goto (-20), 3) := by decide +kernel
theorem dX4_held_27 : decode cX4_held 27 = .ok (.iconst 0, 1) := by decide +kernel
theorem dX4_held_28 : decode cX4_held 28 = .ok (.istore_n 2, 1) := by decide +kernel
theorem dX4_held_29 : decode cX4_held 29 = .ok (.iload_n 2, 1) := by decide +kernel
theorem dX4_held_30 : decode cX4_held 30 = .ok (.iconst 5, 1) := by decide +kernel
theorem dX4_held_31 : decode cX4_held 31 = .ok (.if_icmp .ge 31, 3) := by decide +kernel
theorem dX4_held_34 : decode cX4_held 34 = .ok (.iload_n 1, 1) := by decide +kernel
theorem dX4_held_35 : decode cX4_held 35 = .ok (.aload_n 0, 1) := by decide +kernel
theorem dX4_held_36 : decode cX4_held 36 = .ok (.getfield 38, 3) := by decide +kernel
theorem dX4_held_39 : decode cX4_held 39 = .ok (.iload_n 2, 1) := by decide +kernel
theorem dX4_held_40 : decode cX4_held 40 = .ok (.baload, 1) := by decide +kernel
theorem dX4_held_41 : decode cX4_held 41 = .ok (.ifCond .eq 12, 3) := by decide +kernel
theorem dX4_held_44 : decode cX4_held 44 = .ok (.aload_n 0, 1) := by decide +kernel
theorem dX4_held_45 : decode cX4_held 45 = .ok (.getfield 26, 3) := by decide +kernel
theorem dX4_held_48 : decode cX4_held 48 = .ok (.iload_n 2, 1) := by decide +kernel
theorem dX4_held_49 : decode cX4_held 49 = .ok (.iaload, 1) := by decide +kernel
theorem dX4_held_50 : decode cX4_held 50 = .ok (.goto 4, 3) := by decide +kernel
theorem dX4_held_53 : decode cX4_held 53 = .ok (.iconst 0, 1) := by decide +kernel
theorem dX4_held_54 : decode cX4_held 54 = .ok (.iadd, 1) := by decide +kernel
theorem dX4_held_55 : decode cX4_held 55 = .ok (.istore_n 1, 1) := by decide +kernel
theorem dX4_held_56 : decode cX4_held 56 = .ok (.iinc 2 1, 3) := by decide +kernel
theorem dX4_held_59 : decode cX4_held 59 = .ok (.goto (-30), 3) := by decide +kernel
theorem dX4_held_62 : decode cX4_held 62 = .ok (.iload_n 1, 1) := by decide +kernel
theorem dX4_held_63 : decode cX4_held 63 = .ok (.ireturn, 1) := by decide +kernel
theorem dX4_heldTotal_0 : decode cX4_heldTotal 0 = .ok (.aload_n 0, 1) := by decide +kernel
theorem dX4_heldTotal_1 : decode cX4_heldTotal 1 = .ok (.aload_n 0, 1) := by decide +kernel
theorem dX4_heldTotal_2 : decode cX4_heldTotal 2 = .ok (.invokevirtual 237, 3) := by decide +kernel
theorem dX4_heldTotal_5 : decode cX4_heldTotal 5 = .ok (.invokevirtual 125, 3) := by decide +kernel
theorem dX4_heldTotal_8 : decode cX4_heldTotal 8 = .ok (.ireturn, 1) := by decide +kernel
theorem dX4_movementCount_0 : decode cX4_movementCount 0 = .ok (.aload_n 0, 1) := by decide +kernel
theorem dX4_movementCount_1 : decode cX4_movementCount 1 = .ok (.aload_n 0, 1) := by decide +kernel
theorem dX4_movementCount_2 : decode cX4_movementCount 2 = .ok (.getfield 72, 3) := by decide +kernel
theorem dX4_movementCount_5 : decode cX4_movementCount 5 = .ok (.invokevirtual 125, 3) := by decide +kernel
theorem dX4_movementCount_8 : decode cX4_movementCount 8 = .ok (.ireturn, 1) := by decide +kernel
theorem dX4_movementFrom_0 : decode cX4_movementFrom 0 = .ok (.iload_n 1, 1) := by decide +kernel
theorem dX4_movementFrom_1 : decode cX4_movementFrom 1 = .ok (.iconst 0, 1) := by decide +kernel
theorem dX4_movementFrom_2 : decode cX4_movementFrom 2 = .ok (.aload_n 0, 1) := by decide +kernel
theorem dX4_movementFrom_3 : decode cX4_movementFrom 3 = .ok (.getfield 72, 3) := by decide +kernel
theorem dX4_movementFrom_6 : decode cX4_movementFrom 6 = .ok (.iconst 1, 1) := by decide +kernel
theorem dX4_movementFrom_7 : decode cX4_movementFrom 7 = .ok (.isub, 1) := by decide +kernel
theorem dX4_movementFrom_8 : decode cX4_movementFrom 8 = .ok (.invokestatic 104, 3) := by decide +kernel
theorem dX4_movementFrom_11 : decode cX4_movementFrom 11 = .ok (.ifCond .eq 16, 3) := by decide +kernel
theorem dX4_movementFrom_14 : decode cX4_movementFrom 14 = .ok (.aload_n 0, 1) := by decide +kernel
theorem dX4_movementFrom_15 : decode cX4_movementFrom 15 = .ok (.aload_n 0, 1) := by decide +kernel
theorem dX4_movementFrom_16 : decode cX4_movementFrom 16 = .ok (.getfield 76, 3) := by decide +kernel
theorem dX4_movementFrom_19 : decode cX4_movementFrom 19 = .ok (.iload_n 1, 1) := by decide +kernel
theorem dX4_movementFrom_20 : decode cX4_movementFrom 20 = .ok (.iaload, 1) := by decide +kernel
theorem dX4_movementFrom_21 : decode cX4_movementFrom 21 = .ok (.invokevirtual 125, 3) := by decide +kernel
theorem dX4_movementFrom_24 : decode cX4_movementFrom 24 = .ok (.goto 8, 3) := by decide +kernel
theorem dX4_movementFrom_27 : decode cX4_movementFrom 27 = .ok (.aload_n 0, 1) := by decide +kernel
theorem dX4_movementFrom_28 : decode cX4_movementFrom 28 = .ok (.iconst 1, 1) := by decide +kernel
theorem dX4_movementFrom_29 : decode cX4_movementFrom 29 = .ok (.invokevirtual 121, 3) := by decide +kernel
theorem dX4_movementFrom_32 : decode cX4_movementFrom 32 = .ok (.ireturn, 1) := by decide +kernel
theorem dX4_movementTo_0 : decode cX4_movementTo 0 = .ok (.iload_n 1, 1) := by decide +kernel
theorem dX4_movementTo_1 : decode cX4_movementTo 1 = .ok (.iconst 0, 1) := by decide +kernel
theorem dX4_movementTo_2 : decode cX4_movementTo 2 = .ok (.aload_n 0, 1) := by decide +kernel
theorem dX4_movementTo_3 : decode cX4_movementTo 3 = .ok (.getfield 72, 3) := by decide +kernel
theorem dX4_movementTo_6 : decode cX4_movementTo 6 = .ok (.iconst 1, 1) := by decide +kernel
theorem dX4_movementTo_7 : decode cX4_movementTo 7 = .ok (.isub, 1) := by decide +kernel
theorem dX4_movementTo_8 : decode cX4_movementTo 8 = .ok (.invokestatic 104, 3) := by decide +kernel
theorem dX4_movementTo_11 : decode cX4_movementTo 11 = .ok (.ifCond .eq 16, 3) := by decide +kernel
theorem dX4_movementTo_14 : decode cX4_movementTo 14 = .ok (.aload_n 0, 1) := by decide +kernel
theorem dX4_movementTo_15 : decode cX4_movementTo 15 = .ok (.aload_n 0, 1) := by decide +kernel
theorem dX4_movementTo_16 : decode cX4_movementTo 16 = .ok (.getfield 79, 3) := by decide +kernel
theorem dX4_movementTo_19 : decode cX4_movementTo 19 = .ok (.iload_n 1, 1) := by decide +kernel
theorem dX4_movementTo_20 : decode cX4_movementTo 20 = .ok (.iaload, 1) := by decide +kernel
theorem dX4_movementTo_21 : decode cX4_movementTo 21 = .ok (.invokevirtual 125, 3) := by decide +kernel
theorem dX4_movementTo_24 : decode cX4_movementTo 24 = .ok (.goto 8, 3) := by decide +kernel
theorem dX4_movementTo_27 : decode cX4_movementTo 27 = .ok (.aload_n 0, 1) := by decide +kernel
theorem dX4_movementTo_28 : decode cX4_movementTo 28 = .ok (.iconst 1, 1) := by decide +kernel
theorem dX4_movementTo_29 : decode cX4_movementTo 29 = .ok (.invokevirtual 121, 3) := by decide +kernel
theorem dX4_movementTo_32 : decode cX4_movementTo 32 = .ok (.ireturn, 1) := by decide +kernel
theorem dX4_movementVolume_0 : decode cX4_movementVolume 0 = .ok (.iload_n 1, 1) := by decide +kernel
theorem dX4_movementVolume_1 : decode cX4_movementVolume 1 = .ok (.iconst 0, 1) := by decide +kernel
theorem dX4_movementVolume_2 : decode cX4_movementVolume 2 = .ok (.aload_n 0, 1) := by decide +kernel
theorem dX4_movementVolume_3 : decode cX4_movementVolume 3 = .ok (.getfield 72, 3) := by decide +kernel
theorem dX4_movementVolume_6 : decode cX4_movementVolume 6 = .ok (.iconst 1, 1) := by decide +kernel
theorem dX4_movementVolume_7 : decode cX4_movementVolume 7 = .ok (.isub, 1) := by decide +kernel
theorem dX4_movementVolume_8 : decode cX4_movementVolume 8 = .ok (.invokestatic 104, 3) := by decide +kernel
theorem dX4_movementVolume_11 : decode cX4_movementVolume 11 = .ok (.ifCond .eq 16, 3) := by decide +kernel
theorem dX4_movementVolume_14 : decode cX4_movementVolume 14 = .ok (.aload_n 0, 1) := by decide +kernel
theorem dX4_movementVolume_15 : decode cX4_movementVolume 15 = .ok (.aload_n 0, 1) := by decide +kernel
theorem dX4_movementVolume_16 : decode cX4_movementVolume 16 = .ok (.getfield 82, 3) := by decide +kernel
theorem dX4_movementVolume_19 : decode cX4_movementVolume 19 = .ok (.iload_n 1, 1) := by decide +kernel
theorem dX4_movementVolume_20 : decode cX4_movementVolume 20 = .ok (.iaload, 1) := by decide +kernel
theorem dX4_movementVolume_21 : decode cX4_movementVolume 21 = .ok (.invokevirtual 125, 3) := by decide +kernel
theorem dX4_movementVolume_24 : decode cX4_movementVolume 24 = .ok (.goto 8, 3) := by decide +kernel
theorem dX4_movementVolume_27 : decode cX4_movementVolume 27 = .ok (.aload_n 0, 1) := by decide +kernel
theorem dX4_movementVolume_28 : decode cX4_movementVolume 28 = .ok (.iconst 1, 1) := by decide +kernel
theorem dX4_movementVolume_29 : decode cX4_movementVolume 29 = .ok (.invokevirtual 121, 3) := by decide +kernel
theorem dX4_movementVolume_32 : decode cX4_movementVolume 32 = .ok (.ireturn, 1) := by decide +kernel
theorem dX4_meanLevel_0 : decode cX4_meanLevel 0 = .ok (.aload_n 0, 1) := by decide +kernel
theorem dX4_meanLevel_1 : decode cX4_meanLevel 1 = .ok (.iconst 0, 1) := by decide +kernel
theorem dX4_meanLevel_2 : decode cX4_meanLevel 2 = .ok (.putfield 101, 3) := by decide +kernel
theorem dX4_meanLevel_5 : decode cX4_meanLevel 5 = .ok (.iconst 0, 1) := by decide +kernel
theorem dX4_meanLevel_6 : decode cX4_meanLevel 6 = .ok (.istore_n 1, 1) := by decide +kernel
theorem dX4_meanLevel_7 : decode cX4_meanLevel 7 = .ok (.iconst 0, 1) := by decide +kernel
theorem dX4_meanLevel_8 : decode cX4_meanLevel 8 = .ok (.istore_n 2, 1) := by decide +kernel
theorem dX4_meanLevel_9 : decode cX4_meanLevel 9 = .ok (.iload_n 2, 1) := by decide +kernel
theorem dX4_meanLevel_10 : decode cX4_meanLevel 10 = .ok (.aload_n 0, 1) := by decide +kernel
theorem dX4_meanLevel_11 : decode cX4_meanLevel 11 = .ok (.getfield 7, 3) := by decide +kernel
theorem dX4_meanLevel_14 : decode cX4_meanLevel 14 = .ok (.if_icmp .ge 17, 3) := by decide +kernel
theorem dX4_meanLevel_17 : decode cX4_meanLevel 17 = .ok (.iload_n 1, 1) := by decide +kernel
theorem dX4_meanLevel_18 : decode cX4_meanLevel 18 = .ok (.aload_n 0, 1) := by decide +kernel
theorem dX4_meanLevel_19 : decode cX4_meanLevel 19 = .ok (.iload_n 2, 1) := by decide +kernel
theorem dX4_meanLevel_20 : decode cX4_meanLevel 20 = .ok (.invokevirtual 135, 3) := by decide +kernel
theorem dX4_meanLevel_23 : decode cX4_meanLevel 23 = .ok (.iadd, 1) := by decide +kernel
theorem dX4_meanLevel_24 : decode cX4_meanLevel 24 = .ok (.istore_n 1, 1) := by decide +kernel
theorem dX4_meanLevel_25 : decode cX4_meanLevel 25 = .ok (.iinc 2 1, 3) := by decide +kernel
theorem dX4_meanLevel_28 : decode cX4_meanLevel 28 = .ok (.goto (-19), 3) := by decide +kernel
theorem dX4_meanLevel_31 : decode cX4_meanLevel 31 = .ok (.iload_n 1, 1) := by decide +kernel
theorem dX4_meanLevel_32 : decode cX4_meanLevel 32 = .ok (.i2d, 1) := by decide +kernel
theorem dX4_meanLevel_33 : decode cX4_meanLevel 33 = .ok (.aload_n 0, 1) := by decide +kernel
theorem dX4_meanLevel_34 : decode cX4_meanLevel 34 = .ok (.getfield 7, 3) := by decide +kernel
theorem dX4_meanLevel_37 : decode cX4_meanLevel 37 = .ok (.i2d, 1) := by decide +kernel
theorem dX4_meanLevel_38 : decode cX4_meanLevel 38 = .ok (.ddiv, 1) := by decide +kernel
theorem dX4_meanLevel_39 : decode cX4_meanLevel 39 = .ok (.dreturn, 1) := by decide +kernel
theorem dX4_isBalanced_0 : decode cX4_isBalanced 0 = .ok (.aload_n 0, 1) := by decide +kernel
theorem dX4_isBalanced_1 : decode cX4_isBalanced 1 = .ok (.getfield 69, 3) := by decide +kernel
theorem dX4_isBalanced_4 : decode cX4_isBalanced 4 = .ok (.aload_n 0, 1) := by decide +kernel
theorem dX4_isBalanced_5 : decode cX4_isBalanced 5 = .ok (.invokevirtual 237, 3) := by decide +kernel
theorem dX4_isBalanced_8 : decode cX4_isBalanced 8 = .ok (.aload_n 0, 1) := by decide +kernel
theorem dX4_isBalanced_9 : decode cX4_isBalanced 9 = .ok (.getfield 115, 3) := by decide +kernel
theorem dX4_isBalanced_12 : decode cX4_isBalanced 12 = .ok (.iadd, 1) := by decide +kernel
theorem dX4_isBalanced_13 : decode cX4_isBalanced 13 = .ok (.aload_n 0, 1) := by decide +kernel
theorem dX4_isBalanced_14 : decode cX4_isBalanced 14 = .ok (.getfield 152, 3) := by decide +kernel
theorem dX4_isBalanced_17 : decode cX4_isBalanced 17 = .ok (.iadd, 1) := by decide +kernel
theorem dX4_isBalanced_18 : decode cX4_isBalanced 18 = .ok (.if_icmp .ne 7, 3) := by decide +kernel
theorem dX4_isBalanced_21 : decode cX4_isBalanced 21 = .ok (.iconst 1, 1) := by decide +kernel
theorem dX4_isBalanced_22 : decode cX4_isBalanced 22 = .ok (.goto 4, 3) := by decide +kernel
theorem dX4_isBalanced_25 : decode cX4_isBalanced 25 = .ok (.iconst 0, 1) := by decide +kernel
theorem dX4_isBalanced_26 : decode cX4_isBalanced 26 = .ok (.istore_n 1, 1) := by decide +kernel
theorem dX4_isBalanced_27 : decode cX4_isBalanced 27 = .ok (.iconst 0, 1) := by decide +kernel
theorem dX4_isBalanced_28 : decode cX4_isBalanced 28 = .ok (.istore_n 2, 1) := by decide +kernel
theorem dX4_isBalanced_29 : decode cX4_isBalanced 29 = .ok (.iload_n 2, 1) := by decide +kernel
theorem dX4_isBalanced_30 : decode cX4_isBalanced 30 = .ok (.aload_n 0, 1) := by decide +kernel
theorem dX4_isBalanced_31 : decode cX4_isBalanced 31 = .ok (.getfield 7, 3) := by decide +kernel
theorem dX4_isBalanced_34 : decode cX4_isBalanced 34 = .ok (.if_icmp .ge 33, 3) := by decide +kernel
theorem dX4_isBalanced_37 : decode cX4_isBalanced 37 = .ok (.iload_n 1, 1) := by decide +kernel
theorem dX4_isBalanced_38 : decode cX4_isBalanced 38 = .ok (.ifCond .eq 21, 3) := by decide +kernel
theorem dX4_isBalanced_41 : decode cX4_isBalanced 41 = .ok (.aload_n 0, 1) := by decide +kernel
theorem dX4_isBalanced_42 : decode cX4_isBalanced 42 = .ok (.iload_n 2, 1) := by decide +kernel
theorem dX4_isBalanced_43 : decode cX4_isBalanced 43 = .ok (.invokevirtual 132, 3) := by decide +kernel
theorem dX4_isBalanced_46 : decode cX4_isBalanced 46 = .ok (.aload_n 0, 1) := by decide +kernel
theorem dX4_isBalanced_47 : decode cX4_isBalanced 47 = .ok (.getfield 17, 3) := by decide +kernel
theorem dX4_isBalanced_50 : decode cX4_isBalanced 50 = .ok (.iload_n 2, 1) := by decide +kernel
theorem dX4_isBalanced_51 : decode cX4_isBalanced 51 = .ok (.iaload, 1) := by decide +kernel
theorem dX4_isBalanced_52 : decode cX4_isBalanced 52 = .ok (.if_icmp .ne 7, 3) := by decide +kernel
theorem dX4_isBalanced_55 : decode cX4_isBalanced 55 = .ok (.iconst 1, 1) := by decide +kernel
theorem dX4_isBalanced_56 : decode cX4_isBalanced 56 = .ok (.goto 4, 3) := by decide +kernel
theorem dX4_isBalanced_59 : decode cX4_isBalanced 59 = .ok (.iconst 0, 1) := by decide +kernel
theorem dX4_isBalanced_60 : decode cX4_isBalanced 60 = .ok (.istore_n 1, 1) := by decide +kernel
theorem dX4_isBalanced_61 : decode cX4_isBalanced 61 = .ok (.iinc 2 1, 3) := by decide +kernel
theorem dX4_isBalanced_64 : decode cX4_isBalanced 64 = .ok (.goto (-35), 3) := by decide +kernel
theorem dX4_isBalanced_67 : decode cX4_isBalanced 67 = .ok (.aload_n 0, 1) := by decide +kernel
theorem dX4_isBalanced_68 : decode cX4_isBalanced 68 = .ok (.iconst 0, 1) := by decide +kernel
theorem dX4_isBalanced_69 : decode cX4_isBalanced 69 = .ok (.iload_n 1, 1) := by decide +kernel
theorem dX4_isBalanced_70 : decode cX4_isBalanced 70 = .ok (.invokevirtual 141, 3) := by decide +kernel
theorem dX4_isBalanced_73 : decode cX4_isBalanced 73 = .ok (.ireturn, 1) := by decide +kernel
theorem dX4_writes_0 : decode cX4_writes 0 = .ok (.aload_n 0, 1) := by decide +kernel
theorem dX4_writes_1 : decode cX4_writes 1 = .ok (.getfield 97, 3) := by decide +kernel
theorem dX4_writes_4 : decode cX4_writes 4 = .ok (.aload_n 0, 1) := by decide +kernel
theorem dX4_writes_5 : decode cX4_writes 5 = .ok (.getfield 240, 3) := by decide +kernel
theorem dX4_writes_8 : decode cX4_writes 8 = .ok (.iload_n 1, 1) := by decide +kernel
theorem dX4_writes_9 : decode cX4_writes 9 = .ok (.castore, 1) := by decide +kernel
theorem dX4_writes_10 : decode cX4_writes 10 = .ok (.aload_n 0, 1) := by decide +kernel
theorem dX4_writes_11 : decode cX4_writes 11 = .ok (.dup, 1) := by decide +kernel
theorem dX4_writes_12 : decode cX4_writes 12 = .ok (.getfield 240, 3) := by decide +kernel
theorem dX4_writes_15 : decode cX4_writes 15 = .ok (.iconst 1, 1) := by decide +kernel
theorem dX4_writes_16 : decode cX4_writes 16 = .ok (.iadd, 1) := by decide +kernel
theorem dX4_writes_17 : decode cX4_writes 17 = .ok (.putfield 240, 3) := by decide +kernel
theorem dX4_writes_20 : decode cX4_writes 20 = .ok (.return_, 1) := by decide +kernel
theorem dX4_writeReach_0 : decode cX4_writeReach 0 = .ok (.aload_n 0, 1) := by decide +kernel
theorem dX4_writeReach_1 : decode cX4_writeReach 1 = .ok (.iload_n 1, 1) := by decide +kernel
theorem dX4_writeReach_2 : decode cX4_writeReach 2 = .ok (.invokevirtual 128, 3) := by decide +kernel
theorem dX4_writeReach_5 : decode cX4_writeReach 5 = .ok (.ifCond .ne 9, 3) := by decide +kernel
theorem dX4_writeReach_8 : decode cX4_writeReach 8 = .ok (.aload_n 0, 1) := by decide +kernel
theorem dX4_writeReach_9 : decode cX4_writeReach 9 = .ok (.iconst 1, 1) := by decide +kernel
theorem dX4_writeReach_10 : decode cX4_writeReach 10 = .ok (.invokevirtual 121, 3) := by decide +kernel
theorem dX4_writeReach_13 : decode cX4_writeReach 13 = .ok (.ireturn, 1) := by decide +kernel
theorem dX4_writeReach_14 : decode cX4_writeReach 14 = .ok (.aload_n 0, 1) := by decide +kernel
theorem dX4_writeReach_15 : decode cX4_writeReach 15 = .ok (.iconst 0, 1) := by decide +kernel
theorem dX4_writeReach_16 : decode cX4_writeReach 16 = .ok (.putfield 240, 3) := by decide +kernel
theorem dX4_writeReach_19 : decode cX4_writeReach 19 = .ok (.aload_n 0, 1) := by decide +kernel
theorem dX4_writeReach_20 : decode cX4_writeReach 20 = .ok (.bipush 48, 2) := by decide +kernel
theorem dX4_writeReach_22 : decode cX4_writeReach 22 = .ok (.iload_n 1, 1) := by decide +kernel
theorem dX4_writeReach_23 : decode cX4_writeReach 23 = .ok (.iadd, 1) := by decide +kernel
theorem dX4_writeReach_24 : decode cX4_writeReach 24 = .ok (.i2c, 1) := by decide +kernel
theorem dX4_writeReach_25 : decode cX4_writeReach 25 = .ok (.invokevirtual 243, 3) := by decide +kernel
theorem dX4_writeReach_28 : decode cX4_writeReach 28 = .ok (.aload_n 0, 1) := by decide +kernel
theorem dX4_writeReach_29 : decode cX4_writeReach 29 = .ok (.bipush 58, 2) := by decide +kernel
theorem dX4_writeReach_31 : decode cX4_writeReach 31 = .ok (.invokevirtual 243, 3) := by decide +kernel
theorem dX4_writeReach_34 : decode cX4_writeReach 34 = .ok (.aload_n 0, 1) := by decide +kernel
theorem dX4_writeReach_35 : decode cX4_writeReach 35 = .ok (.bipush 32, 2) := by decide +kernel
theorem dX4_writeReach_37 : decode cX4_writeReach 37 = .ok (.invokevirtual 243, 3) := by decide +kernel
theorem dX4_writeReach_40 : decode cX4_writeReach 40 = .ok (.aload_n 0, 1) := by decide +kernel
theorem dX4_writeReach_41 : decode cX4_writeReach 41 = .ok (.iload_n 1, 1) := by decide +kernel
theorem dX4_writeReach_42 : decode cX4_writeReach 42 = .ok (.invokevirtual 135, 3) := by decide +kernel
theorem dX4_writeReach_45 : decode cX4_writeReach 45 = .ok (.bipush 9, 2) := by decide +kernel
theorem dX4_writeReach_47 : decode cX4_writeReach 47 = .ok (.if_icmp .le 19, 3) := by decide +kernel
theorem dX4_writeReach_50 : decode cX4_writeReach 50 = .ok (.aload_n 0, 1) := by decide +kernel
theorem dX4_writeReach_51 : decode cX4_writeReach 51 = .ok (.bipush 48, 2) := by decide +kernel
theorem dX4_writeReach_53 : decode cX4_writeReach 53 = .ok (.aload_n 0, 1) := by decide +kernel
theorem dX4_writeReach_54 : decode cX4_writeReach 54 = .ok (.iload_n 1, 1) := by decide +kernel
theorem dX4_writeReach_55 : decode cX4_writeReach 55 = .ok (.invokevirtual 135, 3) := by decide +kernel
theorem dX4_writeReach_58 : decode cX4_writeReach 58 = .ok (.bipush 10, 2) := by decide +kernel
theorem dX4_writeReach_60 : decode cX4_writeReach 60 = .ok (.idiv, 1) := by decide +kernel
theorem dX4_writeReach_61 : decode cX4_writeReach 61 = .ok (.iadd, 1) := by decide +kernel
theorem dX4_writeReach_62 : decode cX4_writeReach 62 = .ok (.i2c, 1) := by decide +kernel
theorem dX4_writeReach_63 : decode cX4_writeReach 63 = .ok (.invokevirtual 243, 3) := by decide +kernel
theorem dX4_writeReach_66 : decode cX4_writeReach 66 = .ok (.aload_n 0, 1) := by decide +kernel
theorem dX4_writeReach_67 : decode cX4_writeReach 67 = .ok (.bipush 48, 2) := by decide +kernel
theorem dX4_writeReach_69 : decode cX4_writeReach 69 = .ok (.aload_n 0, 1) := by decide +kernel
theorem dX4_writeReach_70 : decode cX4_writeReach 70 = .ok (.iload_n 1, 1) := by decide +kernel
theorem dX4_writeReach_71 : decode cX4_writeReach 71 = .ok (.invokevirtual 135, 3) := by decide +kernel
theorem dX4_writeReach_74 : decode cX4_writeReach 74 = .ok (.bipush 10, 2) := by decide +kernel
theorem dX4_writeReach_76 : decode cX4_writeReach 76 = .ok (.irem, 1) := by decide +kernel
theorem dX4_writeReach_77 : decode cX4_writeReach 77 = .ok (.iadd, 1) := by decide +kernel
theorem dX4_writeReach_78 : decode cX4_writeReach 78 = .ok (.i2c, 1) := by decide +kernel
theorem dX4_writeReach_79 : decode cX4_writeReach 79 = .ok (.invokevirtual 243, 3) := by decide +kernel
theorem dX4_writeReach_82 : decode cX4_writeReach 82 = .ok (.aload_n 0, 1) := by decide +kernel
theorem dX4_writeReach_83 : decode cX4_writeReach 83 = .ok (.bipush 100, 2) := by decide +kernel
theorem dX4_writeReach_85 : decode cX4_writeReach 85 = .ok (.invokevirtual 243, 3) := by decide +kernel
theorem dX4_writeReach_88 : decode cX4_writeReach 88 = .ok (.aload_n 0, 1) := by decide +kernel
theorem dX4_writeReach_89 : decode cX4_writeReach 89 = .ok (.bipush 109, 2) := by decide +kernel
theorem dX4_writeReach_91 : decode cX4_writeReach 91 = .ok (.invokevirtual 243, 3) := by decide +kernel
theorem dX4_writeReach_94 : decode cX4_writeReach 94 = .ok (.iconst 0, 1) := by decide +kernel
theorem dX4_writeReach_95 : decode cX4_writeReach 95 = .ok (.istore_n 2, 1) := by decide +kernel
theorem dX4_writeReach_96 : decode cX4_writeReach 96 = .ok (.iload_n 2, 1) := by decide +kernel
theorem dX4_writeReach_97 : decode cX4_writeReach 97 = .ok (.aload_n 0, 1) := by decide +kernel
theorem dX4_writeReach_98 : decode cX4_writeReach 98 = .ok (.getfield 108, 3) := by decide +kernel
theorem dX4_writeReach_101 : decode cX4_writeReach 101 = .ok (.if_icmp .ge 74, 3) := by decide +kernel
theorem dX4_writeReach_104 : decode cX4_writeReach 104 = .ok (.aload_n 0, 1) := by decide +kernel
theorem dX4_writeReach_105 : decode cX4_writeReach 105 = .ok (.getfield 42, 3) := by decide +kernel
theorem dX4_writeReach_108 : decode cX4_writeReach 108 = .ok (.iload_n 2, 1) := by decide +kernel
theorem dX4_writeReach_109 : decode cX4_writeReach 109 = .ok (.iaload, 1) := by decide +kernel
theorem dX4_writeReach_110 : decode cX4_writeReach 110 = .ok (.iload_n 1, 1) := by decide +kernel
theorem dX4_writeReach_111 : decode cX4_writeReach 111 = .ok (.if_icmp .ne 58, 3) := by decide +kernel
theorem dX4_writeReach_114 : decode cX4_writeReach 114 = .ok (.aload_n 0, 1) := by decide +kernel
theorem dX4_writeReach_115 : decode cX4_writeReach 115 = .ok (.getfield 57, 3) := by decide +kernel
theorem dX4_writeReach_118 : decode cX4_writeReach 118 = .ok (.iload_n 2, 1) := by decide +kernel
theorem dX4_writeReach_119 : decode cX4_writeReach 119 = .ok (.iaload, 1) := by decide +kernel
theorem dX4_writeReach_120 : decode cX4_writeReach 120 = .ok (.iconst (-1), 1) := by decide +kernel
theorem dX4_writeReach_121 : decode cX4_writeReach 121 = .ok (.if_icmp .eq 6, 3) := by decide +kernel
theorem dX4_writeReach_124 : decode cX4_writeReach 124 = .ok (.goto 45, 3) := by decide +kernel
theorem dX4_writeReach_127 : decode cX4_writeReach 127 = .ok (.iload_n 2, 1) := by decide +kernel
theorem dX4_writeReach_128 : decode cX4_writeReach 128 = .ok (.istore_n 3, 1) := by decide +kernel
theorem dX4_writeReach_129 : decode cX4_writeReach 129 = .ok (.iload_n 3, 1) := by decide +kernel
theorem dX4_writeReach_130 : decode cX4_writeReach 130 = .ok (.iconst (-1), 1) := by decide +kernel
theorem dX4_writeReach_131 : decode cX4_writeReach 131 = .ok (.if_icmp .eq 38, 3) := by decide +kernel
theorem dX4_writeReach_134 : decode cX4_writeReach 134 = .ok (.aload_n 0, 1) := by decide +kernel
theorem dX4_writeReach_135 : decode cX4_writeReach 135 = .ok (.iload_n 3, 1) := by decide +kernel
theorem dX4_writeReach_136 : decode cX4_writeReach 136 = .ok (.iload_n 2, 1) := by decide +kernel
theorem dX4_writeReach_137 : decode cX4_writeReach 137 = .ok (.if_icmp .ne 8, 3) := by decide +kernel
theorem dX4_writeReach_140 : decode cX4_writeReach 140 = .ok (.bipush 32, 2) := by decide +kernel
theorem dX4_writeReach_142 : decode cX4_writeReach 142 = .ok (.goto 5, 3) := by decide +kernel
theorem dX4_writeReach_145 : decode cX4_writeReach 145 = .ok (.bipush 43, 2) := by decide +kernel
theorem dX4_writeReach_147 : decode cX4_writeReach 147 = .ok (.invokevirtual 243, 3) := by decide +kernel
theorem dX4_writeReach_150 : decode cX4_writeReach 150 = .ok (.aload_n 0, 1) := by decide +kernel
theorem dX4_writeReach_151 : decode cX4_writeReach 151 = .ok (.bipush 48, 2) := by decide +kernel
theorem dX4_writeReach_153 : decode cX4_writeReach 153 = .ok (.iload_n 3, 1) := by decide +kernel
theorem dX4_writeReach_154 : decode cX4_writeReach 154 = .ok (.iadd, 1) := by decide +kernel
theorem dX4_writeReach_155 : decode cX4_writeReach 155 = .ok (.i2c, 1) := by decide +kernel
theorem dX4_writeReach_156 : decode cX4_writeReach 156 = .ok (.invokevirtual 243, 3) := by decide +kernel
theorem dX4_writeReach_159 : decode cX4_writeReach 159 = .ok (.aload_n 0, 1) := by decide +kernel
theorem dX4_writeReach_160 : decode cX4_writeReach 160 = .ok (.getfield 60, 3) := by decide +kernel
theorem dX4_writeReach_163 : decode cX4_writeReach 163 = .ok (.iload_n 3, 1) := by decide +kernel
theorem dX4_writeReach_164 : decode cX4_writeReach 164 = .ok (.iaload, 1) := by decide +kernel
theorem dX4_writeReach_165 : decode cX4_writeReach 165 = .ok (.istore_n 3, 1) := by decide +kernel
theorem dX4_writeReach_166 : decode cX4_writeReach 166 = .ok (.goto (-37), 3) := by decide +kernel
theorem dX4_writeReach_169 : decode cX4_writeReach 169 = .ok (.iinc 2 1, 3) := by decide +kernel
theorem dX4_writeReach_172 : decode cX4_writeReach 172 = .ok (.goto (-76), 3) := by decide +kernel
theorem dX4_writeReach_175 : decode cX4_writeReach 175 = .ok (.aload_n 0, 1) := by decide +kernel
theorem dX4_writeReach_176 : decode cX4_writeReach 176 = .ok (.aload_n 0, 1) := by decide +kernel
theorem dX4_writeReach_177 : decode cX4_writeReach 177 = .ok (.getfield 240, 3) := by decide +kernel
theorem dX4_writeReach_180 : decode cX4_writeReach 180 = .ok (.invokevirtual 125, 3) := by decide +kernel
theorem dX4_writeReach_183 : decode cX4_writeReach 183 = .ok (.ireturn, 1) := by decide +kernel
theorem dX4_lineAt_0 : decode cX4_lineAt 0 = .ok (.aload_n 0, 1) := by decide +kernel
theorem dX4_lineAt_1 : decode cX4_lineAt 1 = .ok (.iload_n 1, 1) := by decide +kernel
theorem dX4_lineAt_2 : decode cX4_lineAt 2 = .ok (.iconst 0, 1) := by decide +kernel
theorem dX4_lineAt_3 : decode cX4_lineAt 3 = .ok (.aload_n 0, 1) := by decide +kernel
theorem dX4_lineAt_4 : decode cX4_lineAt 4 = .ok (.getfield 240, 3) := by decide +kernel
theorem dX4_lineAt_7 : decode cX4_lineAt 7 = .ok (.iconst 1, 1) := by decide +kernel
theorem dX4_lineAt_8 : decode cX4_lineAt 8 = .ok (.isub, 1) := by decide +kernel
theorem dX4_lineAt_9 : decode cX4_lineAt 9 = .ok (.invokestatic 104, 3) := by decide +kernel
theorem dX4_lineAt_12 : decode cX4_lineAt 12 = .ok (.ifCond .eq 7, 3) := by decide +kernel
theorem dX4_lineAt_15 : decode cX4_lineAt 15 = .ok (.iconst 0, 1) := by decide +kernel
theorem dX4_lineAt_16 : decode cX4_lineAt 16 = .ok (.goto 4, 3) := by decide +kernel
theorem dX4_lineAt_19 : decode cX4_lineAt 19 = .ok (.iconst 1, 1) := by decide +kernel
theorem dX4_lineAt_20 : decode cX4_lineAt 20 = .ok (.putfield 101, 3) := by decide +kernel
theorem dX4_lineAt_23 : decode cX4_lineAt 23 = .ok (.aload_n 0, 1) := by decide +kernel
theorem dX4_lineAt_24 : decode cX4_lineAt 24 = .ok (.getfield 101, 3) := by decide +kernel
theorem dX4_lineAt_27 : decode cX4_lineAt 27 = .ok (.ifCond .ne 12, 3) := by decide +kernel
theorem dX4_lineAt_30 : decode cX4_lineAt 30 = .ok (.aload_n 0, 1) := by decide +kernel
theorem dX4_lineAt_31 : decode cX4_lineAt 31 = .ok (.getfield 97, 3) := by decide +kernel
theorem dX4_lineAt_34 : decode cX4_lineAt 34 = .ok (.iload_n 1, 1) := by decide +kernel
theorem dX4_lineAt_35 : decode cX4_lineAt 35 = .ok (.caload, 1) := by decide +kernel
theorem dX4_lineAt_36 : decode cX4_lineAt 36 = .ok (.goto 5, 3) := by decide +kernel
theorem dX4_lineAt_39 : decode cX4_lineAt 39 = .ok (.bipush 32, 2) := by decide +kernel
theorem dX4_lineAt_41 : decode cX4_lineAt 41 = .ok (.ireturn, 1) := by decide +kernel

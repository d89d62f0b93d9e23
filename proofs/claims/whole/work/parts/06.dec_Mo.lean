theorem d_Mo_init_0 : decode cd_Mo_init 0 = .ok (.aload_n 0, 1) := by decide +kernel
theorem d_Mo_init_1 : decode cd_Mo_init 1 = .ok (.invokespecial 1, 3) := by decide +kernel
theorem d_Mo_init_4 : decode cd_Mo_init 4 = .ok (.aload_n 0, 1) := by decide +kernel
theorem d_Mo_init_5 : decode cd_Mo_init 5 = .ok (.bipush 32, 2) := by decide +kernel
theorem d_Mo_init_7 : decode cd_Mo_init 7 = .ok (.newarray .long, 2) := by decide +kernel
theorem d_Mo_init_9 : decode cd_Mo_init 9 = .ok (.dup, 1) := by decide +kernel
theorem d_Mo_init_10 : decode cd_Mo_init 10 = .ok (.iconst 0, 1) := by decide +kernel
theorem d_Mo_init_11 : decode cd_Mo_init 11 = .ok (.ldc2_w 7, 3) := by decide +kernel
theorem d_Mo_init_14 : decode cd_Mo_init 14 = .ok (.lastore, 1) := by decide +kernel
theorem d_Mo_init_15 : decode cd_Mo_init 15 = .ok (.dup, 1) := by decide +kernel
theorem d_Mo_init_16 : decode cd_Mo_init 16 = .ok (.iconst 1, 1) := by decide +kernel
theorem d_Mo_init_17 : decode cd_Mo_init 17 = .ok (.ldc2_w 9, 3) := by decide +kernel
theorem d_Mo_init_20 : decode cd_Mo_init 20 = .ok (.lastore, 1) := by decide +kernel
theorem d_Mo_init_21 : decode cd_Mo_init 21 = .ok (.dup, 1) := by decide +kernel
theorem d_Mo_init_22 : decode cd_Mo_init 22 = .ok (.iconst 2, 1) := by decide +kernel
theorem d_Mo_init_23 : decode cd_Mo_init 23 = .ok (.ldc2_w 11, 3) := by decide +kernel
theorem d_Mo_init_26 : decode cd_Mo_init 26 = .ok (.lastore, 1) := by decide +kernel
theorem d_Mo_init_27 : decode cd_Mo_init 27 = .ok (.dup, 1) := by decide +kernel
theorem d_Mo_init_28 : decode cd_Mo_init 28 = .ok (.iconst 3, 1) := by decide +kernel
theorem d_Mo_init_29 : decode cd_Mo_init 29 = .ok (.ldc2_w 13, 3) := by decide +kernel
theorem d_Mo_init_32 : decode cd_Mo_init 32 = .ok (.lastore, 1) := by decide +kernel
theorem d_Mo_init_33 : decode cd_Mo_init 33 = .ok (.dup, 1) := by decide +kernel
theorem d_Mo_init_34 : decode cd_Mo_init 34 = .ok (.iconst 4, 1) := by decide +kernel
theorem d_Mo_init_35 : decode cd_Mo_init 35 = .ok (.ldc2_w 15, 3) := by decide +kernel
theorem d_Mo_init_38 : decode cd_Mo_init 38 = .ok (.lastore, 1) := by decide +kernel
theorem d_Mo_init_39 : decode cd_Mo_init 39 = .ok (.dup, 1) := by decide +kernel
theorem d_Mo_init_40 : decode cd_Mo_init 40 = .ok (.iconst 5, 1) := by decide +kernel
theorem d_Mo_init_41 : decode cd_Mo_init 41 = .ok (.ldc2_w 17, 3) := by decide +kernel
theorem d_Mo_init_44 : decode cd_Mo_init 44 = .ok (.lastore, 1) := by decide +kernel
theorem d_Mo_init_45 : decode cd_Mo_init 45 = .ok (.dup, 1) := by decide +kernel
theorem d_Mo_init_46 : decode cd_Mo_init 46 = .ok (.bipush 6, 2) := by decide +kernel
theorem d_Mo_init_48 : decode cd_Mo_init 48 = .ok (.ldc2_w 19, 3) := by decide +kernel
theorem d_Mo_init_51 : decode cd_Mo_init 51 = .ok (.lastore, 1) := by decide +kernel
theorem d_Mo_init_52 : decode cd_Mo_init 52 = .ok (.dup, 1) := by decide +kernel
theorem d_Mo_init_53 : decode cd_Mo_init 53 = .ok (.bipush 7, 2) := by decide +kernel
theorem d_Mo_init_55 : decode cd_Mo_init 55 = .ok (.ldc2_w 21, 3) := by decide +kernel
theorem d_Mo_init_58 : decode cd_Mo_init 58 = .ok (.lastore, 1) := by decide +kernel
theorem d_Mo_init_59 : decode cd_Mo_init 59 = .ok (.dup, 1) := by decide +kernel
theorem d_Mo_init_60 : decode cd_Mo_init 60 = .ok (.bipush 8, 2) := by decide +kernel
theorem d_Mo_init_62 : decode cd_Mo_init 62 = .ok (.ldc2_w 23, 3) := by decide +kernel
theorem d_Mo_init_65 : decode cd_Mo_init 65 = .ok (.lastore, 1) := by decide +kernel
theorem d_Mo_init_66 : decode cd_Mo_init 66 = .ok (.dup, 1) := by decide +kernel
theorem d_Mo_init_67 : decode cd_Mo_init 67 = .ok (.bipush 9, 2) := by decide +kernel
theorem d_Mo_init_69 : decode cd_Mo_init 69 = .ok (.ldc2_w 25, 3) := by decide +kernel
theorem d_Mo_init_72 : decode cd_Mo_init 72 = .ok (.lastore, 1) := by decide +kernel
theorem d_Mo_init_73 : decode cd_Mo_init 73 = .ok (.dup, 1) := by decide +kernel
theorem d_Mo_init_74 : decode cd_Mo_init 74 = .ok (.bipush 10, 2) := by decide +kernel
theorem d_Mo_init_76 : decode cd_Mo_init 76 = .ok (.ldc2_w 27, 3) := by decide +kernel
theorem d_Mo_init_79 : decode cd_Mo_init 79 = .ok (.lastore, 1) := by decide +kernel
theorem d_Mo_init_80 : decode cd_Mo_init 80 = .ok (.dup, 1) := by decide +kernel
theorem d_Mo_init_81 : decode cd_Mo_init 81 = .ok (.bipush 11, 2) := by decide +kernel
theorem d_Mo_init_83 : decode cd_Mo_init 83 = .ok (.ldc2_w 29, 3) := by decide +kernel
theorem d_Mo_init_86 : decode cd_Mo_init 86 = .ok (.lastore, 1) := by decide +kernel
theorem d_Mo_init_87 : decode cd_Mo_init 87 = .ok (.dup, 1) := by decide +kernel
theorem d_Mo_init_88 : decode cd_Mo_init 88 = .ok (.bipush 12, 2) := by decide +kernel
theorem d_Mo_init_90 : decode cd_Mo_init 90 = .ok (.ldc2_w 31, 3) := by decide +kernel
theorem d_Mo_init_93 : decode cd_Mo_init 93 = .ok (.lastore, 1) := by decide +kernel
theorem d_Mo_init_94 : decode cd_Mo_init 94 = .ok (.dup, 1) := by decide +kernel
theorem d_Mo_init_95 : decode cd_Mo_init 95 = .ok (.bipush 13, 2) := by decide +kernel
theorem d_Mo_init_97 : decode cd_Mo_init 97 = .ok (.ldc2_w 33, 3) := by decide +kernel
theorem d_Mo_init_100 : decode cd_Mo_init 100 = .ok (.lastore, 1) := by decide +kernel
theorem d_Mo_init_101 : decode cd_Mo_init 101 = .ok (.dup, 1) := by decide +kernel
theorem d_Mo_init_102 : decode cd_Mo_init 102 = .ok (.bipush 14, 2) := by decide +kernel
theorem d_Mo_init_104 : decode cd_Mo_init 104 = .ok (.ldc2_w 35, 3) := by decide +kernel
theorem d_Mo_init_107 : decode cd_Mo_init 107 = .ok (.lastore, 1) := by decide +kernel
theorem d_Mo_init_108 : decode cd_Mo_init 108 = .ok (.dup, 1) := by decide +kernel
theorem d_Mo_init_109 : decode cd_Mo_init 109 = .ok (.bipush 15, 2) := by decide +kernel
theorem d_Mo_init_111 : decode cd_Mo_init 111 = .ok (.ldc2_w 37, 3) := by decide +kernel
theorem d_Mo_init_114 : decode cd_Mo_init 114 = .ok (.lastore, 1) := by decide +kernel
theorem d_Mo_init_115 : decode cd_Mo_init 115 = .ok (.dup, 1) := by decide +kernel
theorem d_Mo_init_116 : decode cd_Mo_init 116 = .ok (.bipush 16, 2) := by decide +kernel
theorem d_Mo_init_118 : decode cd_Mo_init 118 = .ok (.ldc2_w 39, 3) := by decide +kernel
theorem d_Mo_init_121 : decode cd_Mo_init 121 = .ok (.lastore, 1) := by decide +kernel
theorem d_Mo_init_122 : decode cd_Mo_init 122 = .ok (.dup, 1) := by decide +kernel
theorem d_Mo_init_123 : decode cd_Mo_init 123 = .ok (.bipush 17, 2) := by decide +kernel
theorem d_Mo_init_125 : decode cd_Mo_init 125 = .ok (.ldc2_w 41, 3) := by decide +kernel
theorem d_Mo_init_128 : decode cd_Mo_init 128 = .ok (.lastore, 1) := by decide +kernel
theorem d_Mo_init_129 : decode cd_Mo_init 129 = .ok (.dup, 1) := by decide +kernel
theorem d_Mo_init_130 : decode cd_Mo_init 130 = .ok (.bipush 18, 2) := by decide +kernel
theorem d_Mo_init_132 : decode cd_Mo_init 132 = .ok (.ldc2_w 43, 3) := by decide +kernel
theorem d_Mo_init_135 : decode cd_Mo_init 135 = .ok (.lastore, 1) := by decide +kernel
theorem d_Mo_init_136 : decode cd_Mo_init 136 = .ok (.dup, 1) := by decide +kernel
theorem d_Mo_init_137 : decode cd_Mo_init 137 = .ok (.bipush 19, 2) := by decide +kernel
theorem d_Mo_init_139 : decode cd_Mo_init 139 = .ok (.ldc2_w 45, 3) := by decide +kernel
theorem d_Mo_init_142 : decode cd_Mo_init 142 = .ok (.lastore, 1) := by decide +kernel
theorem d_Mo_init_143 : decode cd_Mo_init 143 = .ok (.dup, 1) := by decide +kernel
theorem d_Mo_init_144 : decode cd_Mo_init 144 = .ok (.bipush 20, 2) := by decide +kernel
theorem d_Mo_init_146 : decode cd_Mo_init 146 = .ok (.ldc2_w 47, 3) := by decide +kernel
theorem d_Mo_init_149 : decode cd_Mo_init 149 = .ok (.lastore, 1) := by decide +kernel
theorem d_Mo_init_150 : decode cd_Mo_init 150 = .ok (.dup, 1) := by decide +kernel
theorem d_Mo_init_151 : decode cd_Mo_init 151 = .ok (.bipush 21, 2) := by decide +kernel
theorem d_Mo_init_153 : decode cd_Mo_init 153 = .ok (.ldc2_w 49, 3) := by decide +kernel
theorem d_Mo_init_156 : decode cd_Mo_init 156 = .ok (.lastore, 1) := by decide +kernel
theorem d_Mo_init_157 : decode cd_Mo_init 157 = .ok (.dup, 1) := by decide +kernel
theorem d_Mo_init_158 : decode cd_Mo_init 158 = .ok (.bipush 22, 2) := by decide +kernel
theorem d_Mo_init_160 : decode cd_Mo_init 160 = .ok (.ldc2_w 51, 3) := by decide +kernel
theorem d_Mo_init_163 : decode cd_Mo_init 163 = .ok (.lastore, 1) := by decide +kernel
theorem d_Mo_init_164 : decode cd_Mo_init 164 = .ok (.dup, 1) := by decide +kernel
theorem d_Mo_init_165 : decode cd_Mo_init 165 = .ok (.bipush 23, 2) := by decide +kernel
theorem d_Mo_init_167 : decode cd_Mo_init 167 = .ok (.ldc2_w 53, 3) := by decide +kernel
theorem d_Mo_init_170 : decode cd_Mo_init 170 = .ok (.lastore, 1) := by decide +kernel
theorem d_Mo_init_171 : decode cd_Mo_init 171 = .ok (.dup, 1) := by decide +kernel
theorem d_Mo_init_172 : decode cd_Mo_init 172 = .ok (.bipush 24, 2) := by decide +kernel
theorem d_Mo_init_174 : decode cd_Mo_init 174 = .ok (.ldc2_w 55, 3) := by decide +kernel
theorem d_Mo_init_177 : decode cd_Mo_init 177 = .ok (.lastore, 1) := by decide +kernel
theorem d_Mo_init_178 : decode cd_Mo_init 178 = .ok (.dup, 1) := by decide +kernel
theorem d_Mo_init_179 : decode cd_Mo_init 179 = .ok (.bipush 25, 2) := by decide +kernel
theorem d_Mo_init_181 : decode cd_Mo_init 181 = .ok (.ldc2_w 57, 3) := by decide +kernel
theorem d_Mo_init_184 : decode cd_Mo_init 184 = .ok (.lastore, 1) := by decide +kernel
theorem d_Mo_init_185 : decode cd_Mo_init 185 = .ok (.dup, 1) := by decide +kernel
theorem d_Mo_init_186 : decode cd_Mo_init 186 = .ok (.bipush 26, 2) := by decide +kernel
theorem d_Mo_init_188 : decode cd_Mo_init 188 = .ok (.ldc2_w 59, 3) := by decide +kernel
theorem d_Mo_init_191 : decode cd_Mo_init 191 = .ok (.lastore, 1) := by decide +kernel
theorem d_Mo_init_192 : decode cd_Mo_init 192 = .ok (.dup, 1) := by decide +kernel
theorem d_Mo_init_193 : decode cd_Mo_init 193 = .ok (.bipush 27, 2) := by decide +kernel
theorem d_Mo_init_195 : decode cd_Mo_init 195 = .ok (.ldc2_w 61, 3) := by decide +kernel
theorem d_Mo_init_198 : decode cd_Mo_init 198 = .ok (.lastore, 1) := by decide +kernel
theorem d_Mo_init_199 : decode cd_Mo_init 199 = .ok (.dup, 1) := by decide +kernel
theorem d_Mo_init_200 : decode cd_Mo_init 200 = .ok (.bipush 28, 2) := by decide +kernel
theorem d_Mo_init_202 : decode cd_Mo_init 202 = .ok (.ldc2_w 63, 3) := by decide +kernel
theorem d_Mo_init_205 : decode cd_Mo_init 205 = .ok (.lastore, 1) := by decide +kernel
theorem d_Mo_init_206 : decode cd_Mo_init 206 = .ok (.dup, 1) := by decide +kernel
theorem d_Mo_init_207 : decode cd_Mo_init 207 = .ok (.bipush 29, 2) := by decide +kernel
theorem d_Mo_init_209 : decode cd_Mo_init 209 = .ok (.ldc2_w 65, 3) := by decide +kernel
theorem d_Mo_init_212 : decode cd_Mo_init 212 = .ok (.lastore, 1) := by decide +kernel
theorem d_Mo_init_213 : decode cd_Mo_init 213 = .ok (.dup, 1) := by decide +kernel
theorem d_Mo_init_214 : decode cd_Mo_init 214 = .ok (.bipush 30, 2) := by decide +kernel
theorem d_Mo_init_216 : decode cd_Mo_init 216 = .ok (.ldc2_w 67, 3) := by decide +kernel
theorem d_Mo_init_219 : decode cd_Mo_init 219 = .ok (.lastore, 1) := by decide +kernel
theorem d_Mo_init_220 : decode cd_Mo_init 220 = .ok (.dup, 1) := by decide +kernel
theorem d_Mo_init_221 : decode cd_Mo_init 221 = .ok (.bipush 31, 2) := by decide +kernel
theorem d_Mo_init_223 : decode cd_Mo_init 223 = .ok (.ldc2_w 69, 3) := by decide +kernel
theorem d_Mo_init_226 : decode cd_Mo_init 226 = .ok (.lastore, 1) := by decide +kernel
theorem d_Mo_init_227 : decode cd_Mo_init 227 = .ok (.putfield 71, 3) := by decide +kernel
theorem d_Mo_init_230 : decode cd_Mo_init 230 = .ok (.aload_n 0, 1) := by decide +kernel
theorem d_Mo_init_231 : decode cd_Mo_init 231 = .ok (.sipush 1600, 3) := by decide +kernel
theorem d_Mo_init_234 : decode cd_Mo_init 234 = .ok (.newarray .int, 2) := by decide +kernel
theorem d_Mo_init_236 : decode cd_Mo_init 236 = .ok (.putfield 77, 3) := by decide +kernel
theorem d_Mo_init_239 : decode cd_Mo_init 239 = .ok (.aload_n 0, 1) := by decide +kernel
theorem d_Mo_init_240 : decode cd_Mo_init 240 = .ok (.iconst 4, 1) := by decide +kernel
theorem d_Mo_init_241 : decode cd_Mo_init 241 = .ok (.newarray .int, 2) := by decide +kernel
theorem d_Mo_init_243 : decode cd_Mo_init 243 = .ok (.putfield 81, 3) := by decide +kernel
theorem d_Mo_init_246 : decode cd_Mo_init 246 = .ok (.aload_n 0, 1) := by decide +kernel
theorem d_Mo_init_247 : decode cd_Mo_init 247 = .ok (.iconst 4, 1) := by decide +kernel
theorem d_Mo_init_248 : decode cd_Mo_init 248 = .ok (.newarray .long, 2) := by decide +kernel
theorem d_Mo_init_250 : decode cd_Mo_init 250 = .ok (.putfield 84, 3) := by decide +kernel
theorem d_Mo_init_253 : decode cd_Mo_init 253 = .ok (.aload_n 0, 1) := by decide +kernel
theorem d_Mo_init_254 : decode cd_Mo_init 254 = .ok (.iconst (-1), 1) := by decide +kernel
theorem d_Mo_init_255 : decode cd_Mo_init 255 = .ok (.putfield 87, 3) := by decide +kernel
theorem d_Mo_init_258 : decode cd_Mo_init 258 = .ok (.aload_n 0, 1) := by decide +kernel
theorem d_Mo_init_259 : decode cd_Mo_init 259 = .ok (.bipush 75, 2) := by decide +kernel
theorem d_Mo_init_261 : decode cd_Mo_init 261 = .ok (.newarray .long, 2) := by decide +kernel
theorem d_Mo_init_263 : decode cd_Mo_init 263 = .ok (.putfield 91, 3) := by decide +kernel
theorem d_Mo_init_266 : decode cd_Mo_init 266 = .ok (.aload_n 0, 1) := by decide +kernel
theorem d_Mo_init_267 : decode cd_Mo_init 267 = .ok (.bipush 75, 2) := by decide +kernel
theorem d_Mo_init_269 : decode cd_Mo_init 269 = .ok (.newarray .long, 2) := by decide +kernel
theorem d_Mo_init_271 : decode cd_Mo_init 271 = .ok (.putfield 94, 3) := by decide +kernel
theorem d_Mo_init_274 : decode cd_Mo_init 274 = .ok (.aload_n 0, 1) := by decide +kernel
theorem d_Mo_init_275 : decode cd_Mo_init 275 = .ok (.bipush 75, 2) := by decide +kernel
theorem d_Mo_init_277 : decode cd_Mo_init 277 = .ok (.newarray .long, 2) := by decide +kernel
theorem d_Mo_init_279 : decode cd_Mo_init 279 = .ok (.putfield 97, 3) := by decide +kernel
theorem d_Mo_init_282 : decode cd_Mo_init 282 = .ok (.aload_n 0, 1) := by decide +kernel
theorem d_Mo_init_283 : decode cd_Mo_init 283 = .ok (.iconst (-1), 1) := by decide +kernel
theorem d_Mo_init_284 : decode cd_Mo_init 284 = .ok (.putfield 100, 3) := by decide +kernel
theorem d_Mo_init_287 : decode cd_Mo_init 287 = .ok (.aload_n 0, 1) := by decide +kernel
theorem d_Mo_init_288 : decode cd_Mo_init 288 = .ok (.sipush 700, 3) := by decide +kernel
theorem d_Mo_init_291 : decode cd_Mo_init 291 = .ok (.newarray .int, 2) := by decide +kernel
theorem d_Mo_init_293 : decode cd_Mo_init 293 = .ok (.putfield 103, 3) := by decide +kernel
theorem d_Mo_init_296 : decode cd_Mo_init 296 = .ok (.aload_n 0, 1) := by decide +kernel
theorem d_Mo_init_297 : decode cd_Mo_init 297 = .ok (.sipush 700, 3) := by decide +kernel
theorem d_Mo_init_300 : decode cd_Mo_init 300 = .ok (.newarray .int, 2) := by decide +kernel
theorem d_Mo_init_302 : decode cd_Mo_init 302 = .ok (.putfield 106, 3) := by decide +kernel
theorem d_Mo_init_305 : decode cd_Mo_init 305 = .ok (.aload_n 0, 1) := by decide +kernel
theorem d_Mo_init_306 : decode cd_Mo_init 306 = .ok (.sipush 700, 3) := by decide +kernel
theorem d_Mo_init_309 : decode cd_Mo_init 309 = .ok (.newarray .int, 2) := by decide +kernel
theorem d_Mo_init_311 : decode cd_Mo_init 311 = .ok (.putfield 109, 3) := by decide +kernel
theorem d_Mo_init_314 : decode cd_Mo_init 314 = .ok (.aload_n 0, 1) := by decide +kernel
theorem d_Mo_init_315 : decode cd_Mo_init 315 = .ok (.sipush 700, 3) := by decide +kernel
theorem d_Mo_init_318 : decode cd_Mo_init 318 = .ok (.newarray .int, 2) := by decide +kernel
theorem d_Mo_init_320 : decode cd_Mo_init 320 = .ok (.putfield 112, 3) := by decide +kernel
theorem d_Mo_init_323 : decode cd_Mo_init 323 = .ok (.aload_n 0, 1) := by decide +kernel
theorem d_Mo_init_324 : decode cd_Mo_init 324 = .ok (.sipush 300, 3) := by decide +kernel
theorem d_Mo_init_327 : decode cd_Mo_init 327 = .ok (.newarray .int, 2) := by decide +kernel
theorem d_Mo_init_329 : decode cd_Mo_init 329 = .ok (.putfield 115, 3) := by decide +kernel
theorem d_Mo_init_332 : decode cd_Mo_init 332 = .ok (.aload_n 0, 1) := by decide +kernel
theorem d_Mo_init_333 : decode cd_Mo_init 333 = .ok (.sipush 300, 3) := by decide +kernel
theorem d_Mo_init_336 : decode cd_Mo_init 336 = .ok (.newarray .int, 2) := by decide +kernel
theorem d_Mo_init_338 : decode cd_Mo_init 338 = .ok (.putfield 118, 3) := by decide +kernel
theorem d_Mo_init_341 : decode cd_Mo_init 341 = .ok (.aload_n 0, 1) := by decide +kernel
theorem d_Mo_init_342 : decode cd_Mo_init 342 = .ok (.sipush 3000, 3) := by decide +kernel
theorem d_Mo_init_345 : decode cd_Mo_init 345 = .ok (.newarray .int, 2) := by decide +kernel
theorem d_Mo_init_347 : decode cd_Mo_init 347 = .ok (.putfield 121, 3) := by decide +kernel
theorem d_Mo_init_350 : decode cd_Mo_init 350 = .ok (.aload_n 0, 1) := by decide +kernel
theorem d_Mo_init_351 : decode cd_Mo_init 351 = .ok (.iconst 3, 1) := by decide +kernel
theorem d_Mo_init_352 : decode cd_Mo_init 352 = .ok (.newarray .int, 2) := by decide +kernel
theorem d_Mo_init_354 : decode cd_Mo_init 354 = .ok (.putfield 124, 3) := by decide +kernel
theorem d_Mo_init_357 : decode cd_Mo_init 357 = .ok (.aload_n 0, 1) := by decide +kernel
theorem d_Mo_init_358 : decode cd_Mo_init 358 = .ok (.sipush 3000, 3) := by decide +kernel
theorem d_Mo_init_361 : decode cd_Mo_init 361 = .ok (.newarray .int, 2) := by decide +kernel
theorem d_Mo_init_363 : decode cd_Mo_init 363 = .ok (.putfield 127, 3) := by decide +kernel
theorem d_Mo_init_366 : decode cd_Mo_init 366 = .ok (.aload_n 0, 1) := by decide +kernel
theorem d_Mo_init_367 : decode cd_Mo_init 367 = .ok (.bipush 8, 2) := by decide +kernel
theorem d_Mo_init_369 : decode cd_Mo_init 369 = .ok (.newarray .int, 2) := by decide +kernel
theorem d_Mo_init_371 : decode cd_Mo_init 371 = .ok (.putfield 130, 3) := by decide +kernel
theorem d_Mo_init_374 : decode cd_Mo_init 374 = .ok (.aload_n 0, 1) := by decide +kernel
theorem d_Mo_init_375 : decode cd_Mo_init 375 = .ok (.sipush 1024, 3) := by decide +kernel
theorem d_Mo_init_378 : decode cd_Mo_init 378 = .ok (.newarray .int, 2) := by decide +kernel
theorem d_Mo_init_380 : decode cd_Mo_init 380 = .ok (.putfield 133, 3) := by decide +kernel
theorem d_Mo_init_383 : decode cd_Mo_init 383 = .ok (.aload_n 0, 1) := by decide +kernel
theorem d_Mo_init_384 : decode cd_Mo_init 384 = .ok (.sipush 1536, 3) := by decide +kernel
theorem d_Mo_init_387 : decode cd_Mo_init 387 = .ok (.newarray .int, 2) := by decide +kernel
theorem d_Mo_init_389 : decode cd_Mo_init 389 = .ok (.putfield 136, 3) := by decide +kernel
theorem d_Mo_init_392 : decode cd_Mo_init 392 = .ok (.aload_n 0, 1) := by decide +kernel
theorem d_Mo_init_393 : decode cd_Mo_init 393 = .ok (.sipush 1536, 3) := by decide +kernel
theorem d_Mo_init_396 : decode cd_Mo_init 396 = .ok (.newarray .int, 2) := by decide +kernel
theorem d_Mo_init_398 : decode cd_Mo_init 398 = .ok (.putfield 139, 3) := by decide +kernel
theorem d_Mo_init_401 : decode cd_Mo_init 401 = .ok (.aload_n 0, 1) := by decide +kernel
theorem d_Mo_init_402 : decode cd_Mo_init 402 = .ok (.sipush 1536, 3) := by decide +kernel
theorem d_Mo_init_405 : decode cd_Mo_init 405 = .ok (.newarray .int, 2) := by decide +kernel
theorem d_Mo_init_407 : decode cd_Mo_init 407 = .ok (.putfield 142, 3) := by decide +kernel
theorem d_Mo_init_410 : decode cd_Mo_init 410 = .ok (.aload_n 0, 1) := by decide +kernel
theorem d_Mo_init_411 : decode cd_Mo_init 411 = .ok (.iconst 3, 1) := by decide +kernel
theorem d_Mo_init_412 : decode cd_Mo_init 412 = .ok (.newarray .int, 2) := by decide +kernel
theorem d_Mo_init_414 : decode cd_Mo_init 414 = .ok (.putfield 145, 3) := by decide +kernel
theorem d_Mo_init_417 : decode cd_Mo_init 417 = .ok (.aload_n 0, 1) := by decide +kernel
theorem d_Mo_init_418 : decode cd_Mo_init 418 = .ok (.iconst 3, 1) := by decide +kernel
theorem d_Mo_init_419 : decode cd_Mo_init 419 = .ok (.newarray .int, 2) := by decide +kernel
theorem d_Mo_init_421 : decode cd_Mo_init 421 = .ok (.putfield 148, 3) := by decide +kernel
theorem d_Mo_init_424 : decode cd_Mo_init 424 = .ok (.aload_n 0, 1) := by decide +kernel
theorem d_Mo_init_425 : decode cd_Mo_init 425 = .ok (.bipush 8, 2) := by decide +kernel
theorem d_Mo_init_427 : decode cd_Mo_init 427 = .ok (.putfield 151, 3) := by decide +kernel
theorem d_Mo_init_430 : decode cd_Mo_init 430 = .ok (.aload_n 0, 1) := by decide +kernel
theorem d_Mo_init_431 : decode cd_Mo_init 431 = .ok (.bipush 64, 2) := by decide +kernel
theorem d_Mo_init_433 : decode cd_Mo_init 433 = .ok (.putfield 154, 3) := by decide +kernel
theorem d_Mo_init_436 : decode cd_Mo_init 436 = .ok (.return_, 1) := by decide +kernel
theorem d_Mo_base_0 : decode cd_Mo_base 0 = .ok (.iload_n 0, 1) := by decide +kernel
theorem d_Mo_base_1 : decode cd_Mo_base 1 = .ok (.iconst 3, 1) := by decide +kernel
theorem d_Mo_base_2 : decode cd_Mo_base 2 = .ok (.if_icmp .ge 11, 3) := by decide +kernel
theorem d_Mo_base_5 : decode cd_Mo_base 5 = .ok (.sipush 300, 3) := by decide +kernel
theorem d_Mo_base_8 : decode cd_Mo_base 8 = .ok (.iload_n 0, 1) := by decide +kernel
theorem d_Mo_base_9 : decode cd_Mo_base 9 = .ok (.imul, 1) := by decide +kernel
theorem d_Mo_base_10 : decode cd_Mo_base 10 = .ok (.goto 6, 3) := by decide +kernel
theorem d_Mo_base_13 : decode cd_Mo_base 13 = .ok (.sipush 1300, 3) := by decide +kernel
theorem d_Mo_base_16 : decode cd_Mo_base 16 = .ok (.ireturn, 1) := by decide +kernel
theorem d_Mo_room_0 : decode cd_Mo_room 0 = .ok (.iload_n 0, 1) := by decide +kernel
theorem d_Mo_room_1 : decode cd_Mo_room 1 = .ok (.iconst 2, 1) := by decide +kernel
theorem d_Mo_room_2 : decode cd_Mo_room 2 = .ok (.if_icmp .ne 9, 3) := by decide +kernel
theorem d_Mo_room_5 : decode cd_Mo_room 5 = .ok (.sipush 700, 3) := by decide +kernel
theorem d_Mo_room_8 : decode cd_Mo_room 8 = .ok (.goto 6, 3) := by decide +kernel
theorem d_Mo_room_11 : decode cd_Mo_room 11 = .ok (.sipush 300, 3) := by decide +kernel
theorem d_Mo_room_14 : decode cd_Mo_room 14 = .ok (.ireturn, 1) := by decide +kernel
theorem d_Mo_isFile_0 : decode cd_Mo_isFile 0 = .ok (.iload_n 0, 1) := by decide +kernel
theorem d_Mo_isFile_1 : decode cd_Mo_isFile 1 = .ok (.ifCond .lt 12, 3) := by decide +kernel
theorem d_Mo_isFile_4 : decode cd_Mo_isFile 4 = .ok (.iload_n 0, 1) := by decide +kernel
theorem d_Mo_isFile_5 : decode cd_Mo_isFile 5 = .ok (.iconst 3, 1) := by decide +kernel
theorem d_Mo_isFile_6 : decode cd_Mo_isFile 6 = .ok (.if_icmp .gt 7, 3) := by decide +kernel
theorem d_Mo_isFile_9 : decode cd_Mo_isFile 9 = .ok (.iconst 1, 1) := by decide +kernel
theorem d_Mo_isFile_10 : decode cd_Mo_isFile 10 = .ok (.goto 4, 3) := by decide +kernel
theorem d_Mo_isFile_13 : decode cd_Mo_isFile 13 = .ok (.iconst 0, 1) := by decide +kernel
theorem d_Mo_isFile_14 : decode cd_Mo_isFile 14 = .ok (.ireturn, 1) := by decide +kernel
theorem d_Mo_changed_0 : decode cd_Mo_changed 0 = .ok (.aload_n 0, 1) := by decide +kernel
theorem d_Mo_changed_1 : decode cd_Mo_changed 1 = .ok (.iload_n 1, 1) := by decide +kernel
theorem d_Mo_changed_2 : decode cd_Mo_changed 2 = .ok (.iconst 1, 1) := by decide +kernel
theorem d_Mo_changed_3 : decode cd_Mo_changed 3 = .ok (.if_icmp .ne 7, 3) := by decide +kernel
theorem d_Mo_changed_6 : decode cd_Mo_changed 6 = .ok (.iconst (-1), 1) := by decide +kernel
theorem d_Mo_changed_7 : decode cd_Mo_changed 7 = .ok (.goto 7, 3) := by decide +kernel
theorem d_Mo_changed_10 : decode cd_Mo_changed 10 = .ok (.aload_n 0, 1) := by decide +kernel
theorem d_Mo_changed_11 : decode cd_Mo_changed 11 = .ok (.getfield 100, 3) := by decide +kernel
theorem d_Mo_changed_14 : decode cd_Mo_changed 14 = .ok (.putfield 100, 3) := by decide +kernel
theorem d_Mo_changed_17 : decode cd_Mo_changed 17 = .ok (.return_, 1) := by decide +kernel
theorem d_Mo_put_0 : decode cd_Mo_put 0 = .ok (.iload_n 1, 1) := by decide +kernel
theorem d_Mo_put_1 : decode cd_Mo_put 1 = .ok (.ifCond .lt 37, 3) := by decide +kernel
theorem d_Mo_put_4 : decode cd_Mo_put 4 = .ok (.iload_n 1, 1) := by decide +kernel
theorem d_Mo_put_5 : decode cd_Mo_put 5 = .ok (.iconst 2, 1) := by decide +kernel
theorem d_Mo_put_6 : decode cd_Mo_put 6 = .ok (.if_icmp .gt 32, 3) := by decide +kernel
theorem d_Mo_put_9 : decode cd_Mo_put 9 = .ok (.iload 4, 2) := by decide +kernel
theorem d_Mo_put_11 : decode cd_Mo_put 11 = .ok (.iconst 1, 1) := by decide +kernel
theorem d_Mo_put_12 : decode cd_Mo_put 12 = .ok (.if_icmp .lt 26, 3) := by decide +kernel
theorem d_Mo_put_15 : decode cd_Mo_put 15 = .ok (.iload 4, 2) := by decide +kernel
theorem d_Mo_put_17 : decode cd_Mo_put 17 = .ok (.bipush 8, 2) := by decide +kernel
theorem d_Mo_put_19 : decode cd_Mo_put 19 = .ok (.if_icmp .gt 19, 3) := by decide +kernel
theorem d_Mo_put_22 : decode cd_Mo_put 22 = .ok (.aload_n 0, 1) := by decide +kernel
theorem d_Mo_put_23 : decode cd_Mo_put 23 = .ok (.getfield 81, 3) := by decide +kernel
theorem d_Mo_put_26 : decode cd_Mo_put 26 = .ok (.iload_n 1, 1) := by decide +kernel
theorem d_Mo_put_27 : decode cd_Mo_put 27 = .ok (.iaload, 1) := by decide +kernel
theorem d_Mo_put_28 : decode cd_Mo_put 28 = .ok (.iload 4, 2) := by decide +kernel
theorem d_Mo_put_30 : decode cd_Mo_put 30 = .ok (.iadd, 1) := by decide +kernel
theorem d_Mo_put_31 : decode cd_Mo_put 31 = .ok (.iload_n 1, 1) := by decide +kernel
theorem d_Mo_put_32 : decode cd_Mo_put 32 = .ok (.invokestatic 157, 3) := by decide +kernel
theorem d_Mo_put_35 : decode cd_Mo_put 35 = .ok (.if_icmp .le 5, 3) := by decide +kernel
theorem d_Mo_put_38 : decode cd_Mo_put 38 = .ok (.iconst 0, 1) := by decide +kernel
theorem d_Mo_put_39 : decode cd_Mo_put 39 = .ok (.ireturn, 1) := by decide +kernel
theorem d_Mo_put_40 : decode cd_Mo_put 40 = .ok (.iconst 0, 1) := by decide +kernel
theorem d_Mo_put_41 : decode cd_Mo_put 41 = .ok (.istore 5, 2) := by decide +kernel
theorem d_Mo_put_43 : decode cd_Mo_put 43 = .ok (.iload 5, 2) := by decide +kernel
theorem d_Mo_put_45 : decode cd_Mo_put 45 = .ok (.iload 4, 2) := by decide +kernel
theorem d_Mo_put_47 : decode cd_Mo_put 47 = .ok (.if_icmp .ge 47, 3) := by decide +kernel
theorem d_Mo_put_50 : decode cd_Mo_put 50 = .ok (.aload_n 0, 1) := by decide +kernel
theorem d_Mo_put_51 : decode cd_Mo_put 51 = .ok (.getfield 77, 3) := by decide +kernel
theorem d_Mo_put_54 : decode cd_Mo_put 54 = .ok (.iload_n 1, 1) := by decide +kernel
theorem d_Mo_put_55 : decode cd_Mo_put 55 = .ok (.invokestatic 161, 3) := by decide +kernel
theorem d_Mo_put_58 : decode cd_Mo_put 58 = .ok (.aload_n 0, 1) := by decide +kernel
theorem d_Mo_put_59 : decode cd_Mo_put 59 = .ok (.getfield 81, 3) := by decide +kernel
theorem d_Mo_put_62 : decode cd_Mo_put 62 = .ok (.iload_n 1, 1) := by decide +kernel
theorem d_Mo_put_63 : decode cd_Mo_put 63 = .ok (.iaload, 1) := by decide +kernel
theorem d_Mo_put_64 : decode cd_Mo_put 64 = .ok (.iadd, 1) := by decide +kernel
theorem d_Mo_put_65 : decode cd_Mo_put 65 = .ok (.lload_n 2, 1) := by decide +kernel
theorem d_Mo_put_66 : decode cd_Mo_put 66 = .ok (.bipush 8, 2) := by decide +kernel
theorem d_Mo_put_68 : decode cd_Mo_put 68 = .ok (.iload 5, 2) := by decide +kernel
theorem d_Mo_put_70 : decode cd_Mo_put 70 = .ok (.imul, 1) := by decide +kernel
theorem d_Mo_put_71 : decode cd_Mo_put 71 = .ok (.lshr, 1) := by decide +kernel
theorem d_Mo_put_72 : decode cd_Mo_put 72 = .ok (.ldc2_w 164, 3) := by decide +kernel
theorem d_Mo_put_75 : decode cd_Mo_put 75 = .ok (.land, 1) := by decide +kernel
theorem d_Mo_put_76 : decode cd_Mo_put 76 = .ok (.l2i, 1) := by decide +kernel
theorem d_Mo_put_77 : decode cd_Mo_put 77 = .ok (.iastore, 1) := by decide +kernel
theorem d_Mo_put_78 : decode cd_Mo_put 78 = .ok (.aload_n 0, 1) := by decide +kernel
theorem d_Mo_put_79 : decode cd_Mo_put 79 = .ok (.getfield 81, 3) := by decide +kernel
theorem d_Mo_put_82 : decode cd_Mo_put 82 = .ok (.iload_n 1, 1) := by decide +kernel
theorem d_Mo_put_83 : decode cd_Mo_put 83 = .ok (.dup2, 1) := by decide +kernel
theorem d_Mo_put_84 : decode cd_Mo_put 84 = .ok (.iaload, 1) := by decide +kernel
theorem d_Mo_put_85 : decode cd_Mo_put 85 = .ok (.iconst 1, 1) := by decide +kernel
theorem d_Mo_put_86 : decode cd_Mo_put 86 = .ok (.iadd, 1) := by decide +kernel
theorem d_Mo_put_87 : decode cd_Mo_put 87 = .ok (.iastore, 1) := by decide +kernel
theorem d_Mo_put_88 : decode cd_Mo_put 88 = .ok (.iinc 5 1, 3) := by decide +kernel
theorem d_Mo_put_91 : decode cd_Mo_put 91 = .ok (.goto (-48), 3) := by decide +kernel
theorem d_Mo_put_94 : decode cd_Mo_put 94 = .ok (.aload_n 0, 1) := by decide +kernel
theorem d_Mo_put_95 : decode cd_Mo_put 95 = .ok (.iload_n 1, 1) := by decide +kernel
theorem d_Mo_put_96 : decode cd_Mo_put 96 = .ok (.invokevirtual 166, 3) := by decide +kernel
theorem d_Mo_put_99 : decode cd_Mo_put 99 = .ok (.iconst 1, 1) := by decide +kernel
theorem d_Mo_put_100 : decode cd_Mo_put 100 = .ok (.ireturn, 1) := by decide +kernel
theorem d_Mo_set_0 : decode cd_Mo_set 0 = .ok (.iload_n 1, 1) := by decide +kernel
theorem d_Mo_set_1 : decode cd_Mo_set 1 = .ok (.ifCond .lt 22, 3) := by decide +kernel
theorem d_Mo_set_4 : decode cd_Mo_set 4 = .ok (.iload_n 1, 1) := by decide +kernel
theorem d_Mo_set_5 : decode cd_Mo_set 5 = .ok (.iconst 2, 1) := by decide +kernel
theorem d_Mo_set_6 : decode cd_Mo_set 6 = .ok (.if_icmp .gt 17, 3) := by decide +kernel
theorem d_Mo_set_9 : decode cd_Mo_set 9 = .ok (.iload_n 2, 1) := by decide +kernel
theorem d_Mo_set_10 : decode cd_Mo_set 10 = .ok (.ifCond .lt 13, 3) := by decide +kernel
theorem d_Mo_set_13 : decode cd_Mo_set 13 = .ok (.iload_n 2, 1) := by decide +kernel
theorem d_Mo_set_14 : decode cd_Mo_set 14 = .ok (.aload_n 0, 1) := by decide +kernel
theorem d_Mo_set_15 : decode cd_Mo_set 15 = .ok (.getfield 81, 3) := by decide +kernel
theorem d_Mo_set_18 : decode cd_Mo_set 18 = .ok (.iload_n 1, 1) := by decide +kernel
theorem d_Mo_set_19 : decode cd_Mo_set 19 = .ok (.iaload, 1) := by decide +kernel
theorem d_Mo_set_20 : decode cd_Mo_set 20 = .ok (.if_icmp .lt 5, 3) := by decide +kernel
theorem d_Mo_set_23 : decode cd_Mo_set 23 = .ok (.iconst 0, 1) := by decide +kernel
theorem d_Mo_set_24 : decode cd_Mo_set 24 = .ok (.ireturn, 1) := by decide +kernel
theorem d_Mo_set_25 : decode cd_Mo_set 25 = .ok (.aload_n 0, 1) := by decide +kernel
theorem d_Mo_set_26 : decode cd_Mo_set 26 = .ok (.getfield 77, 3) := by decide +kernel
theorem d_Mo_set_29 : decode cd_Mo_set 29 = .ok (.iload_n 1, 1) := by decide +kernel
theorem d_Mo_set_30 : decode cd_Mo_set 30 = .ok (.invokestatic 161, 3) := by decide +kernel
theorem d_Mo_set_33 : decode cd_Mo_set 33 = .ok (.iload_n 2, 1) := by decide +kernel
theorem d_Mo_set_34 : decode cd_Mo_set 34 = .ok (.iadd, 1) := by decide +kernel
theorem d_Mo_set_35 : decode cd_Mo_set 35 = .ok (.iload_n 3, 1) := by decide +kernel
theorem d_Mo_set_36 : decode cd_Mo_set 36 = .ok (.sipush 255, 3) := by decide +kernel
theorem d_Mo_set_39 : decode cd_Mo_set 39 = .ok (.iand, 1) := by decide +kernel
theorem d_Mo_set_40 : decode cd_Mo_set 40 = .ok (.iastore, 1) := by decide +kernel
theorem d_Mo_set_41 : decode cd_Mo_set 41 = .ok (.aload_n 0, 1) := by decide +kernel
theorem d_Mo_set_42 : decode cd_Mo_set 42 = .ok (.iload_n 1, 1) := by decide +kernel
theorem d_Mo_set_43 : decode cd_Mo_set 43 = .ok (.invokevirtual 166, 3) := by decide +kernel
theorem d_Mo_set_46 : decode cd_Mo_set 46 = .ok (.iconst 1, 1) := by decide +kernel
theorem d_Mo_set_47 : decode cd_Mo_set 47 = .ok (.ireturn, 1) := by decide +kernel
theorem d_Mo_copy_0 : decode cd_Mo_copy 0 = .ok (.iload_n 1, 1) := by decide +kernel
theorem d_Mo_copy_1 : decode cd_Mo_copy 1 = .ok (.invokestatic 170, 3) := by decide +kernel
theorem d_Mo_copy_4 : decode cd_Mo_copy 4 = .ok (.ifCond .eq 25, 3) := by decide +kernel
theorem d_Mo_copy_7 : decode cd_Mo_copy 7 = .ok (.iload_n 2, 1) := by decide +kernel
theorem d_Mo_copy_8 : decode cd_Mo_copy 8 = .ok (.ifCond .lt 21, 3) := by decide +kernel
theorem d_Mo_copy_11 : decode cd_Mo_copy 11 = .ok (.iload_n 2, 1) := by decide +kernel
theorem d_Mo_copy_12 : decode cd_Mo_copy 12 = .ok (.iconst 2, 1) := by decide +kernel
theorem d_Mo_copy_13 : decode cd_Mo_copy 13 = .ok (.if_icmp .gt 16, 3) := by decide +kernel
theorem d_Mo_copy_16 : decode cd_Mo_copy 16 = .ok (.aload_n 0, 1) := by decide +kernel
theorem d_Mo_copy_17 : decode cd_Mo_copy 17 = .ok (.getfield 81, 3) := by decide +kernel
theorem d_Mo_copy_20 : decode cd_Mo_copy 20 = .ok (.iload_n 1, 1) := by decide +kernel
theorem d_Mo_copy_21 : decode cd_Mo_copy 21 = .ok (.iaload, 1) := by decide +kernel
theorem d_Mo_copy_22 : decode cd_Mo_copy 22 = .ok (.iload_n 2, 1) := by decide +kernel
theorem d_Mo_copy_23 : decode cd_Mo_copy 23 = .ok (.invokestatic 157, 3) := by decide +kernel
theorem d_Mo_copy_26 : decode cd_Mo_copy 26 = .ok (.if_icmp .le 5, 3) := by decide +kernel
theorem d_Mo_copy_29 : decode cd_Mo_copy 29 = .ok (.iconst 0, 1) := by decide +kernel
theorem d_Mo_copy_30 : decode cd_Mo_copy 30 = .ok (.ireturn, 1) := by decide +kernel
theorem d_Mo_copy_31 : decode cd_Mo_copy 31 = .ok (.aload_n 0, 1) := by decide +kernel
theorem d_Mo_copy_32 : decode cd_Mo_copy 32 = .ok (.getfield 81, 3) := by decide +kernel
theorem d_Mo_copy_35 : decode cd_Mo_copy 35 = .ok (.iload_n 2, 1) := by decide +kernel
theorem d_Mo_copy_36 : decode cd_Mo_copy 36 = .ok (.aload_n 0, 1) := by decide +kernel
theorem d_Mo_copy_37 : decode cd_Mo_copy 37 = .ok (.getfield 81, 3) := by decide +kernel
theorem d_Mo_copy_40 : decode cd_Mo_copy 40 = .ok (.iload_n 1, 1) := by decide +kernel
theorem d_Mo_copy_41 : decode cd_Mo_copy 41 = .ok (.iaload, 1) := by decide +kernel
theorem d_Mo_copy_42 : decode cd_Mo_copy 42 = .ok (.iastore, 1) := by decide +kernel
theorem d_Mo_copy_43 : decode cd_Mo_copy 43 = .ok (.iconst 0, 1) := by decide +kernel
theorem d_Mo_copy_44 : decode cd_Mo_copy 44 = .ok (.istore_n 3, 1) := by decide +kernel
theorem d_Mo_copy_45 : decode cd_Mo_copy 45 = .ok (.iload_n 3, 1) := by decide +kernel
theorem d_Mo_copy_46 : decode cd_Mo_copy 46 = .ok (.aload_n 0, 1) := by decide +kernel
theorem d_Mo_copy_47 : decode cd_Mo_copy 47 = .ok (.getfield 81, 3) := by decide +kernel
theorem d_Mo_copy_50 : decode cd_Mo_copy 50 = .ok (.iload_n 1, 1) := by decide +kernel
theorem d_Mo_copy_51 : decode cd_Mo_copy 51 = .ok (.iaload, 1) := by decide +kernel
theorem d_Mo_copy_52 : decode cd_Mo_copy 52 = .ok (.if_icmp .ge 31, 3) := by decide +kernel
theorem d_Mo_copy_55 : decode cd_Mo_copy 55 = .ok (.aload_n 0, 1) := by decide +kernel
theorem d_Mo_copy_56 : decode cd_Mo_copy 56 = .ok (.getfield 77, 3) := by decide +kernel
theorem d_Mo_copy_59 : decode cd_Mo_copy 59 = .ok (.iload_n 2, 1) := by decide +kernel
theorem d_Mo_copy_60 : decode cd_Mo_copy 60 = .ok (.invokestatic 161, 3) := by decide +kernel
theorem d_Mo_copy_63 : decode cd_Mo_copy 63 = .ok (.iload_n 3, 1) := by decide +kernel
theorem d_Mo_copy_64 : decode cd_Mo_copy 64 = .ok (.iadd, 1) := by decide +kernel
theorem d_Mo_copy_65 : decode cd_Mo_copy 65 = .ok (.aload_n 0, 1) := by decide +kernel
theorem d_Mo_copy_66 : decode cd_Mo_copy 66 = .ok (.getfield 77, 3) := by decide +kernel
theorem d_Mo_copy_69 : decode cd_Mo_copy 69 = .ok (.iload_n 1, 1) := by decide +kernel
theorem d_Mo_copy_70 : decode cd_Mo_copy 70 = .ok (.invokestatic 161, 3) := by decide +kernel
theorem d_Mo_copy_73 : decode cd_Mo_copy 73 = .ok (.iload_n 3, 1) := by decide +kernel
theorem d_Mo_copy_74 : decode cd_Mo_copy 74 = .ok (.iadd, 1) := by decide +kernel
theorem d_Mo_copy_75 : decode cd_Mo_copy 75 = .ok (.iaload, 1) := by decide +kernel
theorem d_Mo_copy_76 : decode cd_Mo_copy 76 = .ok (.iastore, 1) := by decide +kernel
theorem d_Mo_copy_77 : decode cd_Mo_copy 77 = .ok (.iinc 3 1, 3) := by decide +kernel
theorem d_Mo_copy_80 : decode cd_Mo_copy 80 = .ok (.goto (-35), 3) := by decide +kernel
theorem d_Mo_copy_83 : decode cd_Mo_copy 83 = .ok (.aload_n 0, 1) := by decide +kernel
theorem d_Mo_copy_84 : decode cd_Mo_copy 84 = .ok (.iload_n 2, 1) := by decide +kernel
theorem d_Mo_copy_85 : decode cd_Mo_copy 85 = .ok (.invokevirtual 166, 3) := by decide +kernel
theorem d_Mo_copy_88 : decode cd_Mo_copy 88 = .ok (.iconst 1, 1) := by decide +kernel
theorem d_Mo_copy_89 : decode cd_Mo_copy 89 = .ok (.ireturn, 1) := by decide +kernel
theorem d_Mo_clear_0 : decode cd_Mo_clear 0 = .ok (.iload_n 1, 1) := by decide +kernel
theorem d_Mo_clear_1 : decode cd_Mo_clear 1 = .ok (.invokestatic 170, 3) := by decide +kernel
theorem d_Mo_clear_4 : decode cd_Mo_clear 4 = .ok (.ifCond .ne 5, 3) := by decide +kernel
theorem d_Mo_clear_7 : decode cd_Mo_clear 7 = .ok (.iconst (-1), 1) := by decide +kernel
theorem d_Mo_clear_8 : decode cd_Mo_clear 8 = .ok (.ireturn, 1) := by decide +kernel
theorem d_Mo_clear_9 : decode cd_Mo_clear 9 = .ok (.aload_n 0, 1) := by decide +kernel
theorem d_Mo_clear_10 : decode cd_Mo_clear 10 = .ok (.getfield 81, 3) := by decide +kernel
theorem d_Mo_clear_13 : decode cd_Mo_clear 13 = .ok (.iload_n 1, 1) := by decide +kernel
theorem d_Mo_clear_14 : decode cd_Mo_clear 14 = .ok (.iaload, 1) := by decide +kernel
theorem d_Mo_clear_15 : decode cd_Mo_clear 15 = .ok (.istore_n 2, 1) := by decide +kernel
theorem d_Mo_clear_16 : decode cd_Mo_clear 16 = .ok (.aload_n 0, 1) := by decide +kernel
theorem d_Mo_clear_17 : decode cd_Mo_clear 17 = .ok (.getfield 81, 3) := by decide +kernel
theorem d_Mo_clear_20 : decode cd_Mo_clear 20 = .ok (.iload_n 1, 1) := by decide +kernel
theorem d_Mo_clear_21 : decode cd_Mo_clear 21 = .ok (.iconst 0, 1) := by decide +kernel
theorem d_Mo_clear_22 : decode cd_Mo_clear 22 = .ok (.iastore, 1) := by decide +kernel
theorem d_Mo_clear_23 : decode cd_Mo_clear 23 = .ok (.aload_n 0, 1) := by decide +kernel
theorem d_Mo_clear_24 : decode cd_Mo_clear 24 = .ok (.iload_n 1, 1) := by decide +kernel
theorem d_Mo_clear_25 : decode cd_Mo_clear 25 = .ok (.invokevirtual 166, 3) := by decide +kernel
theorem d_Mo_clear_28 : decode cd_Mo_clear 28 = .ok (.iload_n 2, 1) := by decide +kernel
theorem d_Mo_clear_29 : decode cd_Mo_clear 29 = .ok (.ireturn, 1) := by decide +kernel
theorem d_Mo_size_0 : decode cd_Mo_size 0 = .ok (.iload_n 1, 1) := by decide +kernel
theorem d_Mo_size_1 : decode cd_Mo_size 1 = .ok (.invokestatic 170, 3) := by decide +kernel
theorem d_Mo_size_4 : decode cd_Mo_size 4 = .ok (.ifCond .eq 12, 3) := by decide +kernel
theorem d_Mo_size_7 : decode cd_Mo_size 7 = .ok (.aload_n 0, 1) := by decide +kernel
theorem d_Mo_size_8 : decode cd_Mo_size 8 = .ok (.getfield 81, 3) := by decide +kernel
theorem d_Mo_size_11 : decode cd_Mo_size 11 = .ok (.iload_n 1, 1) := by decide +kernel
theorem d_Mo_size_12 : decode cd_Mo_size 12 = .ok (.iaload, 1) := by decide +kernel
theorem d_Mo_size_13 : decode cd_Mo_size 13 = .ok (.goto 4, 3) := by decide +kernel
theorem d_Mo_size_16 : decode cd_Mo_size 16 = .ok (.iconst (-1), 1) := by decide +kernel
theorem d_Mo_size_17 : decode cd_Mo_size 17 = .ok (.ireturn, 1) := by decide +kernel
theorem d_Mo_at_0 : decode cd_Mo_at 0 = .ok (.iload_n 1, 1) := by decide +kernel
theorem d_Mo_at_1 : decode cd_Mo_at 1 = .ok (.invokestatic 170, 3) := by decide +kernel
theorem d_Mo_at_4 : decode cd_Mo_at 4 = .ok (.ifCond .eq 31, 3) := by decide +kernel
theorem d_Mo_at_7 : decode cd_Mo_at 7 = .ok (.iload_n 2, 1) := by decide +kernel
theorem d_Mo_at_8 : decode cd_Mo_at 8 = .ok (.ifCond .lt 27, 3) := by decide +kernel
theorem d_Mo_at_11 : decode cd_Mo_at 11 = .ok (.iload_n 2, 1) := by decide +kernel
theorem d_Mo_at_12 : decode cd_Mo_at 12 = .ok (.aload_n 0, 1) := by decide +kernel
theorem d_Mo_at_13 : decode cd_Mo_at 13 = .ok (.getfield 81, 3) := by decide +kernel
theorem d_Mo_at_16 : decode cd_Mo_at 16 = .ok (.iload_n 1, 1) := by decide +kernel
theorem d_Mo_at_17 : decode cd_Mo_at 17 = .ok (.iaload, 1) := by decide +kernel
theorem d_Mo_at_18 : decode cd_Mo_at 18 = .ok (.if_icmp .ge 17, 3) := by decide +kernel
theorem d_Mo_at_21 : decode cd_Mo_at 21 = .ok (.aload_n 0, 1) := by decide +kernel
theorem d_Mo_at_22 : decode cd_Mo_at 22 = .ok (.getfield 77, 3) := by decide +kernel
theorem d_Mo_at_25 : decode cd_Mo_at 25 = .ok (.iload_n 1, 1) := by decide +kernel
theorem d_Mo_at_26 : decode cd_Mo_at 26 = .ok (.invokestatic 161, 3) := by decide +kernel
theorem d_Mo_at_29 : decode cd_Mo_at 29 = .ok (.iload_n 2, 1) := by decide +kernel
theorem d_Mo_at_30 : decode cd_Mo_at 30 = .ok (.iadd, 1) := by decide +kernel
theorem d_Mo_at_31 : decode cd_Mo_at 31 = .ok (.iaload, 1) := by decide +kernel
theorem d_Mo_at_32 : decode cd_Mo_at 32 = .ok (.goto 4, 3) := by decide +kernel
theorem d_Mo_at_35 : decode cd_Mo_at 35 = .ok (.iconst (-1), 1) := by decide +kernel
theorem d_Mo_at_36 : decode cd_Mo_at 36 = .ok (.ireturn, 1) := by decide +kernel
theorem d_Mo_padded_0 : decode cd_Mo_padded 0 = .ok (.iload 4, 2) := by decide +kernel
theorem d_Mo_padded_2 : decode cd_Mo_padded 2 = .ok (.iload_n 2, 1) := by decide +kernel
theorem d_Mo_padded_3 : decode cd_Mo_padded 3 = .ok (.if_icmp .ge 13, 3) := by decide +kernel
theorem d_Mo_padded_6 : decode cd_Mo_padded 6 = .ok (.aload_n 0, 1) := by decide +kernel
theorem d_Mo_padded_7 : decode cd_Mo_padded 7 = .ok (.getfield 77, 3) := by decide +kernel
theorem d_Mo_padded_10 : decode cd_Mo_padded 10 = .ok (.iload_n 1, 1) := by decide +kernel
theorem d_Mo_padded_11 : decode cd_Mo_padded 11 = .ok (.iload 4, 2) := by decide +kernel
theorem d_Mo_padded_13 : decode cd_Mo_padded 13 = .ok (.iadd, 1) := by decide +kernel
theorem d_Mo_padded_14 : decode cd_Mo_padded 14 = .ok (.iaload, 1) := by decide +kernel
theorem d_Mo_padded_15 : decode cd_Mo_padded 15 = .ok (.ireturn, 1) := by decide +kernel
theorem d_Mo_padded_16 : decode cd_Mo_padded 16 = .ok (.iload 4, 2) := by decide +kernel
theorem d_Mo_padded_18 : decode cd_Mo_padded 18 = .ok (.iload_n 3, 1) := by decide +kernel
theorem d_Mo_padded_19 : decode cd_Mo_padded 19 = .ok (.bipush 8, 2) := by decide +kernel
theorem d_Mo_padded_21 : decode cd_Mo_padded 21 = .ok (.isub, 1) := by decide +kernel
theorem d_Mo_padded_22 : decode cd_Mo_padded 22 = .ok (.if_icmp .ge 17, 3) := by decide +kernel
theorem d_Mo_padded_25 : decode cd_Mo_padded 25 = .ok (.iload 4, 2) := by decide +kernel
theorem d_Mo_padded_27 : decode cd_Mo_padded 27 = .ok (.iload_n 2, 1) := by decide +kernel
theorem d_Mo_padded_28 : decode cd_Mo_padded 28 = .ok (.if_icmp .ne 9, 3) := by decide +kernel
theorem d_Mo_padded_31 : decode cd_Mo_padded 31 = .ok (.sipush 128, 3) := by decide +kernel
theorem d_Mo_padded_34 : decode cd_Mo_padded 34 = .ok (.goto 4, 3) := by decide +kernel
theorem d_Mo_padded_37 : decode cd_Mo_padded 37 = .ok (.iconst 0, 1) := by decide +kernel
theorem d_Mo_padded_38 : decode cd_Mo_padded 38 = .ok (.ireturn, 1) := by decide +kernel
theorem d_Mo_padded_39 : decode cd_Mo_padded 39 = .ok (.ldc2_w 174, 3) := by decide +kernel
theorem d_Mo_padded_42 : decode cd_Mo_padded 42 = .ok (.iload_n 2, 1) := by decide +kernel
theorem d_Mo_padded_43 : decode cd_Mo_padded 43 = .ok (.i2l, 1) := by decide +kernel
theorem d_Mo_padded_44 : decode cd_Mo_padded 44 = .ok (.lmul, 1) := by decide +kernel
theorem d_Mo_padded_45 : decode cd_Mo_padded 45 = .ok (.bipush 8, 2) := by decide +kernel
theorem d_Mo_padded_47 : decode cd_Mo_padded 47 = .ok (.iload 4, 2) := by decide +kernel
theorem d_Mo_padded_49 : decode cd_Mo_padded 49 = .ok (.iload_n 3, 1) := by decide +kernel
theorem d_Mo_padded_50 : decode cd_Mo_padded 50 = .ok (.isub, 1) := by decide +kernel
theorem d_Mo_padded_51 : decode cd_Mo_padded 51 = .ok (.bipush 8, 2) := by decide +kernel
theorem d_Mo_padded_53 : decode cd_Mo_padded 53 = .ok (.iadd, 1) := by decide +kernel
theorem d_Mo_padded_54 : decode cd_Mo_padded 54 = .ok (.imul, 1) := by decide +kernel
theorem d_Mo_padded_55 : decode cd_Mo_padded 55 = .ok (.lshr, 1) := by decide +kernel
theorem d_Mo_padded_56 : decode cd_Mo_padded 56 = .ok (.ldc2_w 164, 3) := by decide +kernel
theorem d_Mo_padded_59 : decode cd_Mo_padded 59 = .ok (.land, 1) := by decide +kernel
theorem d_Mo_padded_60 : decode cd_Mo_padded 60 = .ok (.l2i, 1) := by decide +kernel
theorem d_Mo_padded_61 : decode cd_Mo_padded 61 = .ok (.ireturn, 1) := by decide +kernel
theorem d_Mo_turned_0 : decode cd_Mo_turned 0 = .ok (.lload_n 0, 1) := by decide +kernel
theorem d_Mo_turned_1 : decode cd_Mo_turned 1 = .ok (.iload_n 2, 1) := by decide +kernel
theorem d_Mo_turned_2 : decode cd_Mo_turned 2 = .ok (.lshl, 1) := by decide +kernel
theorem d_Mo_turned_3 : decode cd_Mo_turned 3 = .ok (.lload_n 0, 1) := by decide +kernel
theorem d_Mo_turned_4 : decode cd_Mo_turned 4 = .ok (.bipush 32, 2) := by decide +kernel
theorem d_Mo_turned_6 : decode cd_Mo_turned 6 = .ok (.iload_n 2, 1) := by decide +kernel
theorem d_Mo_turned_7 : decode cd_Mo_turned 7 = .ok (.isub, 1) := by decide +kernel
theorem d_Mo_turned_8 : decode cd_Mo_turned 8 = .ok (.lshr, 1) := by decide +kernel
theorem d_Mo_turned_9 : decode cd_Mo_turned 9 = .ok (.lor, 1) := by decide +kernel
theorem d_Mo_turned_10 : decode cd_Mo_turned 10 = .ok (.ldc2_w 176, 3) := by decide +kernel
theorem d_Mo_turned_13 : decode cd_Mo_turned 13 = .ok (.land, 1) := by decide +kernel
theorem d_Mo_turned_14 : decode cd_Mo_turned 14 = .ok (.lreturn, 1) := by decide +kernel
theorem d_Mo_turnOf_0 : decode cd_Mo_turnOf 0 = .ok (.iload_n 0, 1) := by decide +kernel
theorem d_Mo_turnOf_1 : decode cd_Mo_turnOf 1 = .ok (.iconst 4, 1) := by decide +kernel
theorem d_Mo_turnOf_2 : decode cd_Mo_turnOf 2 = .ok (.irem, 1) := by decide +kernel
theorem d_Mo_turnOf_3 : decode cd_Mo_turnOf 3 = .ok (.istore_n 1, 1) := by decide +kernel
theorem d_Mo_turnOf_4 : decode cd_Mo_turnOf 4 = .ok (.iload_n 0, 1) := by decide +kernel
theorem d_Mo_turnOf_5 : decode cd_Mo_turnOf 5 = .ok (.bipush 16, 2) := by decide +kernel
theorem d_Mo_turnOf_7 : decode cd_Mo_turnOf 7 = .ok (.idiv, 1) := by decide +kernel
theorem d_Mo_turnOf_8 : decode cd_Mo_turnOf 8 = .ok (.tableswitch 97 0 2 #[28, 35, 66], 28) := by decide +kernel
theorem d_Mo_turnOf_36 : decode cd_Mo_turnOf 36 = .ok (.bipush 7, 2) := by decide +kernel
theorem d_Mo_turnOf_38 : decode cd_Mo_turnOf 38 = .ok (.iconst 5, 1) := by decide +kernel
theorem d_Mo_turnOf_39 : decode cd_Mo_turnOf 39 = .ok (.iload_n 1, 1) := by decide +kernel
theorem d_Mo_turnOf_40 : decode cd_Mo_turnOf 40 = .ok (.imul, 1) := by decide +kernel
theorem d_Mo_turnOf_41 : decode cd_Mo_turnOf 41 = .ok (.iadd, 1) := by decide +kernel
theorem d_Mo_turnOf_42 : decode cd_Mo_turnOf 42 = .ok (.ireturn, 1) := by decide +kernel
theorem d_Mo_turnOf_43 : decode cd_Mo_turnOf 43 = .ok (.iload_n 1, 1) := by decide +kernel
theorem d_Mo_turnOf_44 : decode cd_Mo_turnOf 44 = .ok (.ifCond .ne 7, 3) := by decide +kernel
theorem d_Mo_turnOf_47 : decode cd_Mo_turnOf 47 = .ok (.iconst 5, 1) := by decide +kernel
theorem d_Mo_turnOf_48 : decode cd_Mo_turnOf 48 = .ok (.goto 25, 3) := by decide +kernel
theorem d_Mo_turnOf_51 : decode cd_Mo_turnOf 51 = .ok (.iload_n 1, 1) := by decide +kernel
theorem d_Mo_turnOf_52 : decode cd_Mo_turnOf 52 = .ok (.iconst 1, 1) := by decide +kernel
theorem d_Mo_turnOf_53 : decode cd_Mo_turnOf 53 = .ok (.if_icmp .ne 8, 3) := by decide +kernel
theorem d_Mo_turnOf_56 : decode cd_Mo_turnOf 56 = .ok (.bipush 9, 2) := by decide +kernel
theorem d_Mo_turnOf_58 : decode cd_Mo_turnOf 58 = .ok (.goto 15, 3) := by decide +kernel
theorem d_Mo_turnOf_61 : decode cd_Mo_turnOf 61 = .ok (.iload_n 1, 1) := by decide +kernel
theorem d_Mo_turnOf_62 : decode cd_Mo_turnOf 62 = .ok (.iconst 2, 1) := by decide +kernel
theorem d_Mo_turnOf_63 : decode cd_Mo_turnOf 63 = .ok (.if_icmp .ne 8, 3) := by decide +kernel
theorem d_Mo_turnOf_66 : decode cd_Mo_turnOf 66 = .ok (.bipush 14, 2) := by decide +kernel
theorem d_Mo_turnOf_68 : decode cd_Mo_turnOf 68 = .ok (.goto 5, 3) := by decide +kernel
theorem d_Mo_turnOf_71 : decode cd_Mo_turnOf 71 = .ok (.bipush 20, 2) := by decide +kernel
theorem d_Mo_turnOf_73 : decode cd_Mo_turnOf 73 = .ok (.ireturn, 1) := by decide +kernel
theorem d_Mo_turnOf_74 : decode cd_Mo_turnOf 74 = .ok (.iload_n 1, 1) := by decide +kernel
theorem d_Mo_turnOf_75 : decode cd_Mo_turnOf 75 = .ok (.ifCond .ne 7, 3) := by decide +kernel
theorem d_Mo_turnOf_78 : decode cd_Mo_turnOf 78 = .ok (.iconst 4, 1) := by decide +kernel
theorem d_Mo_turnOf_79 : decode cd_Mo_turnOf 79 = .ok (.goto 25, 3) := by decide +kernel
theorem d_Mo_turnOf_82 : decode cd_Mo_turnOf 82 = .ok (.iload_n 1, 1) := by decide +kernel
theorem d_Mo_turnOf_83 : decode cd_Mo_turnOf 83 = .ok (.iconst 1, 1) := by decide +kernel
theorem d_Mo_turnOf_84 : decode cd_Mo_turnOf 84 = .ok (.if_icmp .ne 8, 3) := by decide +kernel
theorem d_Mo_turnOf_87 : decode cd_Mo_turnOf 87 = .ok (.bipush 11, 2) := by decide +kernel
theorem d_Mo_turnOf_89 : decode cd_Mo_turnOf 89 = .ok (.goto 15, 3) := by decide +kernel
theorem d_Mo_turnOf_92 : decode cd_Mo_turnOf 92 = .ok (.iload_n 1, 1) := by decide +kernel
theorem d_Mo_turnOf_93 : decode cd_Mo_turnOf 93 = .ok (.iconst 2, 1) := by decide +kernel
theorem d_Mo_turnOf_94 : decode cd_Mo_turnOf 94 = .ok (.if_icmp .ne 8, 3) := by decide +kernel
theorem d_Mo_turnOf_97 : decode cd_Mo_turnOf 97 = .ok (.bipush 16, 2) := by decide +kernel
theorem d_Mo_turnOf_99 : decode cd_Mo_turnOf 99 = .ok (.goto 5, 3) := by decide +kernel
theorem d_Mo_turnOf_102 : decode cd_Mo_turnOf 102 = .ok (.bipush 23, 2) := by decide +kernel
theorem d_Mo_turnOf_104 : decode cd_Mo_turnOf 104 = .ok (.ireturn, 1) := by decide +kernel
theorem d_Mo_turnOf_105 : decode cd_Mo_turnOf 105 = .ok (.iload_n 1, 1) := by decide +kernel
theorem d_Mo_turnOf_106 : decode cd_Mo_turnOf 106 = .ok (.ifCond .ne 8, 3) := by decide +kernel
theorem d_Mo_turnOf_109 : decode cd_Mo_turnOf 109 = .ok (.bipush 6, 2) := by decide +kernel
theorem d_Mo_turnOf_111 : decode cd_Mo_turnOf 111 = .ok (.goto 25, 3) := by decide +kernel
theorem d_Mo_turnOf_114 : decode cd_Mo_turnOf 114 = .ok (.iload_n 1, 1) := by decide +kernel
theorem d_Mo_turnOf_115 : decode cd_Mo_turnOf 115 = .ok (.iconst 1, 1) := by decide +kernel
theorem d_Mo_turnOf_116 : decode cd_Mo_turnOf 116 = .ok (.if_icmp .ne 8, 3) := by decide +kernel
theorem d_Mo_turnOf_119 : decode cd_Mo_turnOf 119 = .ok (.bipush 10, 2) := by decide +kernel
theorem d_Mo_turnOf_121 : decode cd_Mo_turnOf 121 = .ok (.goto 15, 3) := by decide +kernel
theorem d_Mo_turnOf_124 : decode cd_Mo_turnOf 124 = .ok (.iload_n 1, 1) := by decide +kernel
theorem d_Mo_turnOf_125 : decode cd_Mo_turnOf 125 = .ok (.iconst 2, 1) := by decide +kernel
theorem d_Mo_turnOf_126 : decode cd_Mo_turnOf 126 = .ok (.if_icmp .ne 8, 3) := by decide +kernel
theorem d_Mo_turnOf_129 : decode cd_Mo_turnOf 129 = .ok (.bipush 15, 2) := by decide +kernel
theorem d_Mo_turnOf_131 : decode cd_Mo_turnOf 131 = .ok (.goto 5, 3) := by decide +kernel
theorem d_Mo_turnOf_134 : decode cd_Mo_turnOf 134 = .ok (.bipush 21, 2) := by decide +kernel
theorem d_Mo_turnOf_136 : decode cd_Mo_turnOf 136 = .ok (.ireturn, 1) := by decide +kernel
theorem d_Mo_wordOf_0 : decode cd_Mo_wordOf 0 = .ok (.iload_n 0, 1) := by decide +kernel
theorem d_Mo_wordOf_1 : decode cd_Mo_wordOf 1 = .ok (.bipush 16, 2) := by decide +kernel
theorem d_Mo_wordOf_3 : decode cd_Mo_wordOf 3 = .ok (.if_icmp .ge 7, 3) := by decide +kernel
theorem d_Mo_wordOf_6 : decode cd_Mo_wordOf 6 = .ok (.iload_n 0, 1) := by decide +kernel
theorem d_Mo_wordOf_7 : decode cd_Mo_wordOf 7 = .ok (.goto 44, 3) := by decide +kernel
theorem d_Mo_wordOf_10 : decode cd_Mo_wordOf 10 = .ok (.iload_n 0, 1) := by decide +kernel
theorem d_Mo_wordOf_11 : decode cd_Mo_wordOf 11 = .ok (.bipush 32, 2) := by decide +kernel
theorem d_Mo_wordOf_13 : decode cd_Mo_wordOf 13 = .ok (.if_icmp .ge 14, 3) := by decide +kernel
theorem d_Mo_wordOf_16 : decode cd_Mo_wordOf 16 = .ok (.iconst 5, 1) := by decide +kernel
theorem d_Mo_wordOf_17 : decode cd_Mo_wordOf 17 = .ok (.iload_n 0, 1) := by decide +kernel
theorem d_Mo_wordOf_18 : decode cd_Mo_wordOf 18 = .ok (.imul, 1) := by decide +kernel
theorem d_Mo_wordOf_19 : decode cd_Mo_wordOf 19 = .ok (.iconst 1, 1) := by decide +kernel
theorem d_Mo_wordOf_20 : decode cd_Mo_wordOf 20 = .ok (.iadd, 1) := by decide +kernel
theorem d_Mo_wordOf_21 : decode cd_Mo_wordOf 21 = .ok (.bipush 16, 2) := by decide +kernel
theorem d_Mo_wordOf_23 : decode cd_Mo_wordOf 23 = .ok (.irem, 1) := by decide +kernel
theorem d_Mo_wordOf_24 : decode cd_Mo_wordOf 24 = .ok (.goto 27, 3) := by decide +kernel
theorem d_Mo_wordOf_27 : decode cd_Mo_wordOf 27 = .ok (.iload_n 0, 1) := by decide +kernel
theorem d_Mo_wordOf_28 : decode cd_Mo_wordOf 28 = .ok (.bipush 48, 2) := by decide +kernel
theorem d_Mo_wordOf_30 : decode cd_Mo_wordOf 30 = .ok (.if_icmp .ge 14, 3) := by decide +kernel
theorem d_Mo_wordOf_33 : decode cd_Mo_wordOf 33 = .ok (.iconst 3, 1) := by decide +kernel
theorem d_Mo_wordOf_34 : decode cd_Mo_wordOf 34 = .ok (.iload_n 0, 1) := by decide +kernel
theorem d_Mo_wordOf_35 : decode cd_Mo_wordOf 35 = .ok (.imul, 1) := by decide +kernel
theorem d_Mo_wordOf_36 : decode cd_Mo_wordOf 36 = .ok (.iconst 5, 1) := by decide +kernel
theorem d_Mo_wordOf_37 : decode cd_Mo_wordOf 37 = .ok (.iadd, 1) := by decide +kernel
theorem d_Mo_wordOf_38 : decode cd_Mo_wordOf 38 = .ok (.bipush 16, 2) := by decide +kernel
theorem d_Mo_wordOf_40 : decode cd_Mo_wordOf 40 = .ok (.irem, 1) := by decide +kernel
theorem d_Mo_wordOf_41 : decode cd_Mo_wordOf 41 = .ok (.goto 10, 3) := by decide +kernel
theorem d_Mo_wordOf_44 : decode cd_Mo_wordOf 44 = .ok (.bipush 7, 2) := by decide +kernel
theorem d_Mo_wordOf_46 : decode cd_Mo_wordOf 46 = .ok (.iload_n 0, 1) := by decide +kernel
theorem d_Mo_wordOf_47 : decode cd_Mo_wordOf 47 = .ok (.imul, 1) := by decide +kernel
theorem d_Mo_wordOf_48 : decode cd_Mo_wordOf 48 = .ok (.bipush 16, 2) := by decide +kernel
theorem d_Mo_wordOf_50 : decode cd_Mo_wordOf 50 = .ok (.irem, 1) := by decide +kernel
theorem d_Mo_wordOf_51 : decode cd_Mo_wordOf 51 = .ok (.ireturn, 1) := by decide +kernel
theorem d_Mo_mixed_0 : decode cd_Mo_mixed 0 = .ok (.iload_n 0, 1) := by decide +kernel
theorem d_Mo_mixed_1 : decode cd_Mo_mixed 1 = .ok (.bipush 16, 2) := by decide +kernel
theorem d_Mo_mixed_3 : decode cd_Mo_mixed 3 = .ok (.if_icmp .ge 22, 3) := by decide +kernel
theorem d_Mo_mixed_6 : decode cd_Mo_mixed 6 = .ok (.lload_n 1, 1) := by decide +kernel
theorem d_Mo_mixed_7 : decode cd_Mo_mixed 7 = .ok (.lload_n 3, 1) := by decide +kernel
theorem d_Mo_mixed_8 : decode cd_Mo_mixed 8 = .ok (.land, 1) := by decide +kernel
theorem d_Mo_mixed_9 : decode cd_Mo_mixed 9 = .ok (.lload_n 1, 1) := by decide +kernel
theorem d_Mo_mixed_10 : decode cd_Mo_mixed 10 = .ok (.ldc2_w 178, 3) := by decide +kernel
theorem d_Mo_mixed_13 : decode cd_Mo_mixed 13 = .ok (.lxor, 1) := by decide +kernel
theorem d_Mo_mixed_14 : decode cd_Mo_mixed 14 = .ok (.lload 5, 2) := by decide +kernel
theorem d_Mo_mixed_16 : decode cd_Mo_mixed 16 = .ok (.land, 1) := by decide +kernel
theorem d_Mo_mixed_17 : decode cd_Mo_mixed 17 = .ok (.ldc2_w 176, 3) := by decide +kernel
theorem d_Mo_mixed_20 : decode cd_Mo_mixed 20 = .ok (.land, 1) := by decide +kernel
theorem d_Mo_mixed_21 : decode cd_Mo_mixed 21 = .ok (.lor, 1) := by decide +kernel
theorem d_Mo_mixed_22 : decode cd_Mo_mixed 22 = .ok (.goto 58, 3) := by decide +kernel
theorem d_Mo_mixed_25 : decode cd_Mo_mixed 25 = .ok (.iload_n 0, 1) := by decide +kernel
theorem d_Mo_mixed_26 : decode cd_Mo_mixed 26 = .ok (.bipush 32, 2) := by decide +kernel
theorem d_Mo_mixed_28 : decode cd_Mo_mixed 28 = .ok (.if_icmp .ge 23, 3) := by decide +kernel
theorem d_Mo_mixed_31 : decode cd_Mo_mixed 31 = .ok (.lload 5, 2) := by decide +kernel
theorem d_Mo_mixed_33 : decode cd_Mo_mixed 33 = .ok (.lload_n 1, 1) := by decide +kernel
theorem d_Mo_mixed_34 : decode cd_Mo_mixed 34 = .ok (.land, 1) := by decide +kernel
theorem d_Mo_mixed_35 : decode cd_Mo_mixed 35 = .ok (.lload 5, 2) := by decide +kernel
theorem d_Mo_mixed_37 : decode cd_Mo_mixed 37 = .ok (.ldc2_w 178, 3) := by decide +kernel
theorem d_Mo_mixed_40 : decode cd_Mo_mixed 40 = .ok (.lxor, 1) := by decide +kernel
theorem d_Mo_mixed_41 : decode cd_Mo_mixed 41 = .ok (.lload_n 3, 1) := by decide +kernel
theorem d_Mo_mixed_42 : decode cd_Mo_mixed 42 = .ok (.land, 1) := by decide +kernel
theorem d_Mo_mixed_43 : decode cd_Mo_mixed 43 = .ok (.ldc2_w 176, 3) := by decide +kernel
theorem d_Mo_mixed_46 : decode cd_Mo_mixed 46 = .ok (.land, 1) := by decide +kernel
theorem d_Mo_mixed_47 : decode cd_Mo_mixed 47 = .ok (.lor, 1) := by decide +kernel
theorem d_Mo_mixed_48 : decode cd_Mo_mixed 48 = .ok (.goto 32, 3) := by decide +kernel
theorem d_Mo_mixed_51 : decode cd_Mo_mixed 51 = .ok (.iload_n 0, 1) := by decide +kernel
theorem d_Mo_mixed_52 : decode cd_Mo_mixed 52 = .ok (.bipush 48, 2) := by decide +kernel
theorem d_Mo_mixed_54 : decode cd_Mo_mixed 54 = .ok (.if_icmp .ge 12, 3) := by decide +kernel
theorem d_Mo_mixed_57 : decode cd_Mo_mixed 57 = .ok (.lload_n 1, 1) := by decide +kernel
theorem d_Mo_mixed_58 : decode cd_Mo_mixed 58 = .ok (.lload_n 3, 1) := by decide +kernel
theorem d_Mo_mixed_59 : decode cd_Mo_mixed 59 = .ok (.lxor, 1) := by decide +kernel
theorem d_Mo_mixed_60 : decode cd_Mo_mixed 60 = .ok (.lload 5, 2) := by decide +kernel
theorem d_Mo_mixed_62 : decode cd_Mo_mixed 62 = .ok (.lxor, 1) := by decide +kernel
theorem d_Mo_mixed_63 : decode cd_Mo_mixed 63 = .ok (.goto 17, 3) := by decide +kernel
theorem d_Mo_mixed_66 : decode cd_Mo_mixed 66 = .ok (.lload_n 3, 1) := by decide +kernel
theorem d_Mo_mixed_67 : decode cd_Mo_mixed 67 = .ok (.lload_n 1, 1) := by decide +kernel
theorem d_Mo_mixed_68 : decode cd_Mo_mixed 68 = .ok (.lload 5, 2) := by decide +kernel
theorem d_Mo_mixed_70 : decode cd_Mo_mixed 70 = .ok (.ldc2_w 178, 3) := by decide +kernel
theorem d_Mo_mixed_73 : decode cd_Mo_mixed 73 = .ok (.lxor, 1) := by decide +kernel
theorem d_Mo_mixed_74 : decode cd_Mo_mixed 74 = .ok (.ldc2_w 176, 3) := by decide +kernel
theorem d_Mo_mixed_77 : decode cd_Mo_mixed 77 = .ok (.land, 1) := by decide +kernel
theorem d_Mo_mixed_78 : decode cd_Mo_mixed 78 = .ok (.lor, 1) := by decide +kernel
theorem d_Mo_mixed_79 : decode cd_Mo_mixed 79 = .ok (.lxor, 1) := by decide +kernel
theorem d_Mo_mixed_80 : decode cd_Mo_mixed 80 = .ok (.lreturn, 1) := by decide +kernel
theorem d_Mo_constant_0 : decode cd_Mo_constant 0 = .ok (.aload_n 0, 1) := by decide +kernel
theorem d_Mo_constant_1 : decode cd_Mo_constant 1 = .ok (.getfield 71, 3) := by decide +kernel
theorem d_Mo_constant_4 : decode cd_Mo_constant 4 = .ok (.iload_n 1, 1) := by decide +kernel
theorem d_Mo_constant_5 : decode cd_Mo_constant 5 = .ok (.iconst 2, 1) := by decide +kernel
theorem d_Mo_constant_6 : decode cd_Mo_constant 6 = .ok (.idiv, 1) := by decide +kernel
theorem d_Mo_constant_7 : decode cd_Mo_constant 7 = .ok (.laload, 1) := by decide +kernel
theorem d_Mo_constant_8 : decode cd_Mo_constant 8 = .ok (.iload_n 1, 1) := by decide +kernel
theorem d_Mo_constant_9 : decode cd_Mo_constant 9 = .ok (.iconst 2, 1) := by decide +kernel
theorem d_Mo_constant_10 : decode cd_Mo_constant 10 = .ok (.irem, 1) := by decide +kernel
theorem d_Mo_constant_11 : decode cd_Mo_constant 11 = .ok (.ifCond .ne 8, 3) := by decide +kernel
theorem d_Mo_constant_14 : decode cd_Mo_constant 14 = .ok (.bipush 32, 2) := by decide +kernel
theorem d_Mo_constant_16 : decode cd_Mo_constant 16 = .ok (.goto 4, 3) := by decide +kernel
theorem d_Mo_constant_19 : decode cd_Mo_constant 19 = .ok (.iconst 0, 1) := by decide +kernel
theorem d_Mo_constant_20 : decode cd_Mo_constant 20 = .ok (.lshr, 1) := by decide +kernel
theorem d_Mo_constant_21 : decode cd_Mo_constant 21 = .ok (.ldc2_w 176, 3) := by decide +kernel
theorem d_Mo_constant_24 : decode cd_Mo_constant 24 = .ok (.land, 1) := by decide +kernel
theorem d_Mo_constant_25 : decode cd_Mo_constant 25 = .ok (.lreturn, 1) := by decide +kernel
theorem d_Mo_digestBlock_0 : decode cd_Mo_digestBlock 0 = .ok (.aload_n 0, 1) := by decide +kernel
theorem d_Mo_digestBlock_1 : decode cd_Mo_digestBlock 1 = .ok (.getfield 84, 3) := by decide +kernel
theorem d_Mo_digestBlock_4 : decode cd_Mo_digestBlock 4 = .ok (.iconst 0, 1) := by decide +kernel
theorem d_Mo_digestBlock_5 : decode cd_Mo_digestBlock 5 = .ok (.laload, 1) := by decide +kernel
theorem d_Mo_digestBlock_6 : decode cd_Mo_digestBlock 6 = .ok (.lstore 5, 2) := by decide +kernel
theorem d_Mo_digestBlock_8 : decode cd_Mo_digestBlock 8 = .ok (.aload_n 0, 1) := by decide +kernel
theorem d_Mo_digestBlock_9 : decode cd_Mo_digestBlock 9 = .ok (.getfield 84, 3) := by decide +kernel
theorem d_Mo_digestBlock_12 : decode cd_Mo_digestBlock 12 = .ok (.iconst 1, 1) := by decide +kernel
theorem d_Mo_digestBlock_13 : decode cd_Mo_digestBlock 13 = .ok (.laload, 1) := by decide +kernel
theorem d_Mo_digestBlock_14 : decode cd_Mo_digestBlock 14 = .ok (.lstore 7, 2) := by decide +kernel
theorem d_Mo_digestBlock_16 : decode cd_Mo_digestBlock 16 = .ok (.aload_n 0, 1) := by decide +kernel
theorem d_Mo_digestBlock_17 : decode cd_Mo_digestBlock 17 = .ok (.getfield 84, 3) := by decide +kernel
theorem d_Mo_digestBlock_20 : decode cd_Mo_digestBlock 20 = .ok (.iconst 2, 1) := by decide +kernel
theorem d_Mo_digestBlock_21 : decode cd_Mo_digestBlock 21 = .ok (.laload, 1) := by decide +kernel
theorem d_Mo_digestBlock_22 : decode cd_Mo_digestBlock 22 = .ok (.lstore 9, 2) := by decide +kernel
theorem d_Mo_digestBlock_24 : decode cd_Mo_digestBlock 24 = .ok (.aload_n 0, 1) := by decide +kernel
theorem d_Mo_digestBlock_25 : decode cd_Mo_digestBlock 25 = .ok (.getfield 84, 3) := by decide +kernel
theorem d_Mo_digestBlock_28 : decode cd_Mo_digestBlock 28 = .ok (.iconst 3, 1) := by decide +kernel
theorem d_Mo_digestBlock_29 : decode cd_Mo_digestBlock 29 = .ok (.laload, 1) := by decide +kernel
theorem d_Mo_digestBlock_30 : decode cd_Mo_digestBlock 30 = .ok (.lstore 11, 2) := by decide +kernel
theorem d_Mo_digestBlock_32 : decode cd_Mo_digestBlock 32 = .ok (.iconst 0, 1) := by decide +kernel
theorem d_Mo_digestBlock_33 : decode cd_Mo_digestBlock 33 = .ok (.istore 13, 2) := by decide +kernel
theorem d_Mo_digestBlock_35 : decode cd_Mo_digestBlock 35 = .ok (.iload 13, 2) := by decide +kernel
theorem d_Mo_digestBlock_37 : decode cd_Mo_digestBlock 37 = .ok (.bipush 64, 2) := by decide +kernel
theorem d_Mo_digestBlock_39 : decode cd_Mo_digestBlock 39 = .ok (.if_icmp .ge 117, 3) := by decide +kernel
theorem d_Mo_digestBlock_42 : decode cd_Mo_digestBlock 42 = .ok (.lconst 0, 1) := by decide +kernel
theorem d_Mo_digestBlock_43 : decode cd_Mo_digestBlock 43 = .ok (.lstore 14, 2) := by decide +kernel
theorem d_Mo_digestBlock_45 : decode cd_Mo_digestBlock 45 = .ok (.iconst 3, 1) := by decide +kernel
theorem d_Mo_digestBlock_46 : decode cd_Mo_digestBlock 46 = .ok (.istore 16, 2) := by decide +kernel
theorem d_Mo_digestBlock_48 : decode cd_Mo_digestBlock 48 = .ok (.iload 16, 2) := by decide +kernel
theorem d_Mo_digestBlock_50 : decode cd_Mo_digestBlock 50 = .ok (.ifCond .lt 39, 3) := by decide +kernel
theorem d_Mo_digestBlock_53 : decode cd_Mo_digestBlock 53 = .ok (.ldc2_w 180, 3) := by decide +kernel
theorem d_Mo_digestBlock_56 : decode cd_Mo_digestBlock 56 = .ok (.lload 14, 2) := by decide +kernel
theorem d_Mo_digestBlock_58 : decode cd_Mo_digestBlock 58 = .ok (.lmul, 1) := by decide +kernel
theorem d_Mo_digestBlock_59 : decode cd_Mo_digestBlock 59 = .ok (.aload_n 0, 1) := by decide +kernel
theorem d_Mo_digestBlock_60 : decode cd_Mo_digestBlock 60 = .ok (.iload_n 1, 1) := by decide +kernel
theorem d_Mo_digestBlock_61 : decode cd_Mo_digestBlock 61 = .ok (.iload_n 2, 1) := by decide +kernel
theorem d_Mo_digestBlock_62 : decode cd_Mo_digestBlock 62 = .ok (.iload_n 3, 1) := by decide +kernel
theorem d_Mo_digestBlock_63 : decode cd_Mo_digestBlock 63 = .ok (.iload 4, 2) := by decide +kernel
theorem d_Mo_digestBlock_65 : decode cd_Mo_digestBlock 65 = .ok (.iconst 4, 1) := by decide +kernel
theorem d_Mo_digestBlock_66 : decode cd_Mo_digestBlock 66 = .ok (.iload 13, 2) := by decide +kernel
theorem d_Mo_digestBlock_68 : decode cd_Mo_digestBlock 68 = .ok (.invokestatic 182, 3) := by decide +kernel
theorem d_Mo_digestBlock_71 : decode cd_Mo_digestBlock 71 = .ok (.imul, 1) := by decide +kernel
theorem d_Mo_digestBlock_72 : decode cd_Mo_digestBlock 72 = .ok (.iadd, 1) := by decide +kernel
theorem d_Mo_digestBlock_73 : decode cd_Mo_digestBlock 73 = .ok (.iload 16, 2) := by decide +kernel
theorem d_Mo_digestBlock_75 : decode cd_Mo_digestBlock 75 = .ok (.iadd, 1) := by decide +kernel
theorem d_Mo_digestBlock_76 : decode cd_Mo_digestBlock 76 = .ok (.invokevirtual 185, 3) := by decide +kernel
theorem d_Mo_digestBlock_79 : decode cd_Mo_digestBlock 79 = .ok (.i2l, 1) := by decide +kernel
theorem d_Mo_digestBlock_80 : decode cd_Mo_digestBlock 80 = .ok (.ladd, 1) := by decide +kernel
theorem d_Mo_digestBlock_81 : decode cd_Mo_digestBlock 81 = .ok (.lstore 14, 2) := by decide +kernel
theorem d_Mo_digestBlock_83 : decode cd_Mo_digestBlock 83 = .ok (.iinc 16 (-1), 3) := by decide +kernel
theorem d_Mo_digestBlock_86 : decode cd_Mo_digestBlock 86 = .ok (.goto (-38), 3) := by decide +kernel
theorem d_Mo_digestBlock_89 : decode cd_Mo_digestBlock 89 = .ok (.lload 5, 2) := by decide +kernel
theorem d_Mo_digestBlock_91 : decode cd_Mo_digestBlock 91 = .ok (.iload 13, 2) := by decide +kernel
theorem d_Mo_digestBlock_93 : decode cd_Mo_digestBlock 93 = .ok (.lload 7, 2) := by decide +kernel
theorem d_Mo_digestBlock_95 : decode cd_Mo_digestBlock 95 = .ok (.lload 9, 2) := by decide +kernel
theorem d_Mo_digestBlock_97 : decode cd_Mo_digestBlock 97 = .ok (.lload 11, 2) := by decide +kernel
theorem d_Mo_digestBlock_99 : decode cd_Mo_digestBlock 99 = .ok (.invokestatic 189, 3) := by decide +kernel
theorem d_Mo_digestBlock_102 : decode cd_Mo_digestBlock 102 = .ok (.ladd, 1) := by decide +kernel
theorem d_Mo_digestBlock_103 : decode cd_Mo_digestBlock 103 = .ok (.aload_n 0, 1) := by decide +kernel
theorem d_Mo_digestBlock_104 : decode cd_Mo_digestBlock 104 = .ok (.iload 13, 2) := by decide +kernel
theorem d_Mo_digestBlock_106 : decode cd_Mo_digestBlock 106 = .ok (.invokevirtual 193, 3) := by decide +kernel
theorem d_Mo_digestBlock_109 : decode cd_Mo_digestBlock 109 = .ok (.ladd, 1) := by decide +kernel
theorem d_Mo_digestBlock_110 : decode cd_Mo_digestBlock 110 = .ok (.lload 14, 2) := by decide +kernel
theorem d_Mo_digestBlock_112 : decode cd_Mo_digestBlock 112 = .ok (.ladd, 1) := by decide +kernel
theorem d_Mo_digestBlock_113 : decode cd_Mo_digestBlock 113 = .ok (.ldc2_w 176, 3) := by decide +kernel
theorem d_Mo_digestBlock_116 : decode cd_Mo_digestBlock 116 = .ok (.land, 1) := by decide +kernel
theorem d_Mo_digestBlock_117 : decode cd_Mo_digestBlock 117 = .ok (.lstore 16, 2) := by decide +kernel
theorem d_Mo_digestBlock_119 : decode cd_Mo_digestBlock 119 = .ok (.lload 11, 2) := by decide +kernel
theorem d_Mo_digestBlock_121 : decode cd_Mo_digestBlock 121 = .ok (.lstore 5, 2) := by decide +kernel
theorem d_Mo_digestBlock_123 : decode cd_Mo_digestBlock 123 = .ok (.lload 9, 2) := by decide +kernel
theorem d_Mo_digestBlock_125 : decode cd_Mo_digestBlock 125 = .ok (.lstore 11, 2) := by decide +kernel
theorem d_Mo_digestBlock_127 : decode cd_Mo_digestBlock 127 = .ok (.lload 7, 2) := by decide +kernel
theorem d_Mo_digestBlock_129 : decode cd_Mo_digestBlock 129 = .ok (.lstore 9, 2) := by decide +kernel
theorem d_Mo_digestBlock_131 : decode cd_Mo_digestBlock 131 = .ok (.lload 7, 2) := by decide +kernel
theorem d_Mo_digestBlock_133 : decode cd_Mo_digestBlock 133 = .ok (.lload 16, 2) := by decide +kernel
theorem d_Mo_digestBlock_135 : decode cd_Mo_digestBlock 135 = .ok (.iload 13, 2) := by decide +kernel
theorem d_Mo_digestBlock_137 : decode cd_Mo_digestBlock 137 = .ok (.invokestatic 197, 3) := by decide +kernel
theorem d_Mo_digestBlock_140 : decode cd_Mo_digestBlock 140 = .ok (.invokestatic 200, 3) := by decide +kernel
theorem d_Mo_digestBlock_143 : decode cd_Mo_digestBlock 143 = .ok (.ladd, 1) := by decide +kernel
theorem d_Mo_digestBlock_144 : decode cd_Mo_digestBlock 144 = .ok (.ldc2_w 176, 3) := by decide +kernel
theorem d_Mo_digestBlock_147 : decode cd_Mo_digestBlock 147 = .ok (.land, 1) := by decide +kernel
theorem d_Mo_digestBlock_148 : decode cd_Mo_digestBlock 148 = .ok (.lstore 7, 2) := by decide +kernel
theorem d_Mo_digestBlock_150 : decode cd_Mo_digestBlock 150 = .ok (.iinc 13 1, 3) := by decide +kernel
theorem d_Mo_digestBlock_153 : decode cd_Mo_digestBlock 153 = .ok (.goto (-118), 3) := by decide +kernel
theorem d_Mo_digestBlock_156 : decode cd_Mo_digestBlock 156 = .ok (.aload_n 0, 1) := by decide +kernel
theorem d_Mo_digestBlock_157 : decode cd_Mo_digestBlock 157 = .ok (.getfield 84, 3) := by decide +kernel
theorem d_Mo_digestBlock_160 : decode cd_Mo_digestBlock 160 = .ok (.iconst 0, 1) := by decide +kernel
theorem d_Mo_digestBlock_161 : decode cd_Mo_digestBlock 161 = .ok (.aload_n 0, 1) := by decide +kernel
theorem d_Mo_digestBlock_162 : decode cd_Mo_digestBlock 162 = .ok (.getfield 84, 3) := by decide +kernel
theorem d_Mo_digestBlock_165 : decode cd_Mo_digestBlock 165 = .ok (.iconst 0, 1) := by decide +kernel
theorem d_Mo_digestBlock_166 : decode cd_Mo_digestBlock 166 = .ok (.laload, 1) := by decide +kernel
theorem d_Mo_digestBlock_167 : decode cd_Mo_digestBlock 167 = .ok (.lload 5, 2) := by decide +kernel
theorem d_Mo_digestBlock_169 : decode cd_Mo_digestBlock 169 = .ok (.ladd, 1) := by decide +kernel
theorem d_Mo_digestBlock_170 : decode cd_Mo_digestBlock 170 = .ok (.ldc2_w 176, 3) := by decide +kernel
theorem d_Mo_digestBlock_173 : decode cd_Mo_digestBlock 173 = .ok (.land, 1) := by decide +kernel
theorem d_Mo_digestBlock_174 : decode cd_Mo_digestBlock 174 = .ok (.lastore, 1) := by decide +kernel
theorem d_Mo_digestBlock_175 : decode cd_Mo_digestBlock 175 = .ok (.aload_n 0, 1) := by decide +kernel
theorem d_Mo_digestBlock_176 : decode cd_Mo_digestBlock 176 = .ok (.getfield 84, 3) := by decide +kernel
theorem d_Mo_digestBlock_179 : decode cd_Mo_digestBlock 179 = .ok (.iconst 1, 1) := by decide +kernel
theorem d_Mo_digestBlock_180 : decode cd_Mo_digestBlock 180 = .ok (.aload_n 0, 1) := by decide +kernel
theorem d_Mo_digestBlock_181 : decode cd_Mo_digestBlock 181 = .ok (.getfield 84, 3) := by decide +kernel
theorem d_Mo_digestBlock_184 : decode cd_Mo_digestBlock 184 = .ok (.iconst 1, 1) := by decide +kernel
theorem d_Mo_digestBlock_185 : decode cd_Mo_digestBlock 185 = .ok (.laload, 1) := by decide +kernel
theorem d_Mo_digestBlock_186 : decode cd_Mo_digestBlock 186 = .ok (.lload 7, 2) := by decide +kernel
theorem d_Mo_digestBlock_188 : decode cd_Mo_digestBlock 188 = .ok (.ladd, 1) := by decide +kernel
theorem d_Mo_digestBlock_189 : decode cd_Mo_digestBlock 189 = .ok (.ldc2_w 176, 3) := by decide +kernel
theorem d_Mo_digestBlock_192 : decode cd_Mo_digestBlock 192 = .ok (.land, 1) := by decide +kernel
theorem d_Mo_digestBlock_193 : decode cd_Mo_digestBlock 193 = .ok (.lastore, 1) := by decide +kernel
theorem d_Mo_digestBlock_194 : decode cd_Mo_digestBlock 194 = .ok (.aload_n 0, 1) := by decide +kernel
theorem d_Mo_digestBlock_195 : decode cd_Mo_digestBlock 195 = .ok (.getfield 84, 3) := by decide +kernel
theorem d_Mo_digestBlock_198 : decode cd_Mo_digestBlock 198 = .ok (.iconst 2, 1) := by decide +kernel
theorem d_Mo_digestBlock_199 : decode cd_Mo_digestBlock 199 = .ok (.aload_n 0, 1) := by decide +kernel
theorem d_Mo_digestBlock_200 : decode cd_Mo_digestBlock 200 = .ok (.getfield 84, 3) := by decide +kernel
theorem d_Mo_digestBlock_203 : decode cd_Mo_digestBlock 203 = .ok (.iconst 2, 1) := by decide +kernel
theorem d_Mo_digestBlock_204 : decode cd_Mo_digestBlock 204 = .ok (.laload, 1) := by decide +kernel
theorem d_Mo_digestBlock_205 : decode cd_Mo_digestBlock 205 = .ok (.lload 9, 2) := by decide +kernel
theorem d_Mo_digestBlock_207 : decode cd_Mo_digestBlock 207 = .ok (.ladd, 1) := by decide +kernel
theorem d_Mo_digestBlock_208 : decode cd_Mo_digestBlock 208 = .ok (.ldc2_w 176, 3) := by decide +kernel
theorem d_Mo_digestBlock_211 : decode cd_Mo_digestBlock 211 = .ok (.land, 1) := by decide +kernel
theorem d_Mo_digestBlock_212 : decode cd_Mo_digestBlock 212 = .ok (.lastore, 1) := by decide +kernel
theorem d_Mo_digestBlock_213 : decode cd_Mo_digestBlock 213 = .ok (.aload_n 0, 1) := by decide +kernel
theorem d_Mo_digestBlock_214 : decode cd_Mo_digestBlock 214 = .ok (.getfield 84, 3) := by decide +kernel
theorem d_Mo_digestBlock_217 : decode cd_Mo_digestBlock 217 = .ok (.iconst 3, 1) := by decide +kernel
theorem d_Mo_digestBlock_218 : decode cd_Mo_digestBlock 218 = .ok (.aload_n 0, 1) := by decide +kernel
theorem d_Mo_digestBlock_219 : decode cd_Mo_digestBlock 219 = .ok (.getfield 84, 3) := by decide +kernel
theorem d_Mo_digestBlock_222 : decode cd_Mo_digestBlock 222 = .ok (.iconst 3, 1) := by decide +kernel
theorem d_Mo_digestBlock_223 : decode cd_Mo_digestBlock 223 = .ok (.laload, 1) := by decide +kernel
theorem d_Mo_digestBlock_224 : decode cd_Mo_digestBlock 224 = .ok (.lload 11, 2) := by decide +kernel
theorem d_Mo_digestBlock_226 : decode cd_Mo_digestBlock 226 = .ok (.ladd, 1) := by decide +kernel
theorem d_Mo_digestBlock_227 : decode cd_Mo_digestBlock 227 = .ok (.ldc2_w 176, 3) := by decide +kernel
theorem d_Mo_digestBlock_230 : decode cd_Mo_digestBlock 230 = .ok (.land, 1) := by decide +kernel
theorem d_Mo_digestBlock_231 : decode cd_Mo_digestBlock 231 = .ok (.lastore, 1) := by decide +kernel
theorem d_Mo_digestBlock_232 : decode cd_Mo_digestBlock 232 = .ok (.return_, 1) := by decide +kernel
theorem d_Mo_around_0 : decode cd_Mo_around 0 = .ok (.lload_n 0, 1) := by decide +kernel
theorem d_Mo_around_1 : decode cd_Mo_around 1 = .ok (.ldc2_w 164, 3) := by decide +kernel
theorem d_Mo_around_4 : decode cd_Mo_around 4 = .ok (.land, 1) := by decide +kernel
theorem d_Mo_around_5 : decode cd_Mo_around 5 = .ok (.bipush 24, 2) := by decide +kernel
theorem d_Mo_around_7 : decode cd_Mo_around 7 = .ok (.lshl, 1) := by decide +kernel
theorem d_Mo_around_8 : decode cd_Mo_around 8 = .ok (.lload_n 0, 1) := by decide +kernel
theorem d_Mo_around_9 : decode cd_Mo_around 9 = .ok (.bipush 8, 2) := by decide +kernel
theorem d_Mo_around_11 : decode cd_Mo_around 11 = .ok (.lshr, 1) := by decide +kernel
theorem d_Mo_around_12 : decode cd_Mo_around 12 = .ok (.ldc2_w 164, 3) := by decide +kernel
theorem d_Mo_around_15 : decode cd_Mo_around 15 = .ok (.land, 1) := by decide +kernel
theorem d_Mo_around_16 : decode cd_Mo_around 16 = .ok (.bipush 16, 2) := by decide +kernel
theorem d_Mo_around_18 : decode cd_Mo_around 18 = .ok (.lshl, 1) := by decide +kernel
theorem d_Mo_around_19 : decode cd_Mo_around 19 = .ok (.lor, 1) := by decide +kernel
theorem d_Mo_around_20 : decode cd_Mo_around 20 = .ok (.lload_n 0, 1) := by decide +kernel
theorem d_Mo_around_21 : decode cd_Mo_around 21 = .ok (.bipush 16, 2) := by decide +kernel
theorem d_Mo_around_23 : decode cd_Mo_around 23 = .ok (.lshr, 1) := by decide +kernel
theorem d_Mo_around_24 : decode cd_Mo_around 24 = .ok (.ldc2_w 164, 3) := by decide +kernel
theorem d_Mo_around_27 : decode cd_Mo_around 27 = .ok (.land, 1) := by decide +kernel
theorem d_Mo_around_28 : decode cd_Mo_around 28 = .ok (.bipush 8, 2) := by decide +kernel
theorem d_Mo_around_30 : decode cd_Mo_around 30 = .ok (.lshl, 1) := by decide +kernel
theorem d_Mo_around_31 : decode cd_Mo_around 31 = .ok (.lor, 1) := by decide +kernel
theorem d_Mo_around_32 : decode cd_Mo_around 32 = .ok (.lload_n 0, 1) := by decide +kernel
theorem d_Mo_around_33 : decode cd_Mo_around 33 = .ok (.bipush 24, 2) := by decide +kernel
theorem d_Mo_around_35 : decode cd_Mo_around 35 = .ok (.lshr, 1) := by decide +kernel
theorem d_Mo_around_36 : decode cd_Mo_around 36 = .ok (.lor, 1) := by decide +kernel
theorem d_Mo_around_37 : decode cd_Mo_around 37 = .ok (.lreturn, 1) := by decide +kernel
theorem d_Mo_digestOf_0 : decode cd_Mo_digestOf 0 = .ok (.aload_n 0, 1) := by decide +kernel
theorem d_Mo_digestOf_1 : decode cd_Mo_digestOf 1 = .ok (.getfield 84, 3) := by decide +kernel
theorem d_Mo_digestOf_4 : decode cd_Mo_digestOf 4 = .ok (.iconst 0, 1) := by decide +kernel
theorem d_Mo_digestOf_5 : decode cd_Mo_digestOf 5 = .ok (.ldc2_w 204, 3) := by decide +kernel
theorem d_Mo_digestOf_8 : decode cd_Mo_digestOf 8 = .ok (.lastore, 1) := by decide +kernel
theorem d_Mo_digestOf_9 : decode cd_Mo_digestOf 9 = .ok (.aload_n 0, 1) := by decide +kernel
theorem d_Mo_digestOf_10 : decode cd_Mo_digestOf 10 = .ok (.getfield 84, 3) := by decide +kernel
theorem d_Mo_digestOf_13 : decode cd_Mo_digestOf 13 = .ok (.iconst 1, 1) := by decide +kernel
theorem d_Mo_digestOf_14 : decode cd_Mo_digestOf 14 = .ok (.ldc2_w 206, 3) := by decide +kernel
theorem d_Mo_digestOf_17 : decode cd_Mo_digestOf 17 = .ok (.lastore, 1) := by decide +kernel
theorem d_Mo_digestOf_18 : decode cd_Mo_digestOf 18 = .ok (.aload_n 0, 1) := by decide +kernel
theorem d_Mo_digestOf_19 : decode cd_Mo_digestOf 19 = .ok (.getfield 84, 3) := by decide +kernel
theorem d_Mo_digestOf_22 : decode cd_Mo_digestOf 22 = .ok (.iconst 2, 1) := by decide +kernel
theorem d_Mo_digestOf_23 : decode cd_Mo_digestOf 23 = .ok (.ldc2_w 208, 3) := by decide +kernel
theorem d_Mo_digestOf_26 : decode cd_Mo_digestOf 26 = .ok (.lastore, 1) := by decide +kernel
theorem d_Mo_digestOf_27 : decode cd_Mo_digestOf 27 = .ok (.aload_n 0, 1) := by decide +kernel
theorem d_Mo_digestOf_28 : decode cd_Mo_digestOf 28 = .ok (.getfield 84, 3) := by decide +kernel
theorem d_Mo_digestOf_31 : decode cd_Mo_digestOf 31 = .ok (.iconst 3, 1) := by decide +kernel
theorem d_Mo_digestOf_32 : decode cd_Mo_digestOf 32 = .ok (.ldc2_w 210, 3) := by decide +kernel
theorem d_Mo_digestOf_35 : decode cd_Mo_digestOf 35 = .ok (.lastore, 1) := by decide +kernel
theorem d_Mo_digestOf_36 : decode cd_Mo_digestOf 36 = .ok (.iload_n 2, 1) := by decide +kernel
theorem d_Mo_digestOf_37 : decode cd_Mo_digestOf 37 = .ok (.bipush 8, 2) := by decide +kernel
theorem d_Mo_digestOf_39 : decode cd_Mo_digestOf 39 = .ok (.iadd, 1) := by decide +kernel
theorem d_Mo_digestOf_40 : decode cd_Mo_digestOf 40 = .ok (.bipush 64, 2) := by decide +kernel
theorem d_Mo_digestOf_42 : decode cd_Mo_digestOf 42 = .ok (.idiv, 1) := by decide +kernel
theorem d_Mo_digestOf_43 : decode cd_Mo_digestOf 43 = .ok (.bipush 64, 2) := by decide +kernel
theorem d_Mo_digestOf_45 : decode cd_Mo_digestOf 45 = .ok (.imul, 1) := by decide +kernel
theorem d_Mo_digestOf_46 : decode cd_Mo_digestOf 46 = .ok (.bipush 64, 2) := by decide +kernel
theorem d_Mo_digestOf_48 : decode cd_Mo_digestOf 48 = .ok (.iadd, 1) := by decide +kernel
theorem d_Mo_digestOf_49 : decode cd_Mo_digestOf 49 = .ok (.istore_n 3, 1) := by decide +kernel
theorem d_Mo_digestOf_50 : decode cd_Mo_digestOf 50 = .ok (.iconst 0, 1) := by decide +kernel
theorem d_Mo_digestOf_51 : decode cd_Mo_digestOf 51 = .ok (.istore 4, 2) := by decide +kernel
theorem d_Mo_digestOf_53 : decode cd_Mo_digestOf 53 = .ok (.iload 4, 2) := by decide +kernel
theorem d_Mo_digestOf_55 : decode cd_Mo_digestOf 55 = .ok (.iload_n 3, 1) := by decide +kernel
theorem d_Mo_digestOf_56 : decode cd_Mo_digestOf 56 = .ok (.if_icmp .ge 18, 3) := by decide +kernel
theorem d_Mo_digestOf_59 : decode cd_Mo_digestOf 59 = .ok (.aload_n 0, 1) := by decide +kernel
theorem d_Mo_digestOf_60 : decode cd_Mo_digestOf 60 = .ok (.iload_n 1, 1) := by decide +kernel
theorem d_Mo_digestOf_61 : decode cd_Mo_digestOf 61 = .ok (.iload_n 2, 1) := by decide +kernel
theorem d_Mo_digestOf_62 : decode cd_Mo_digestOf 62 = .ok (.iload_n 3, 1) := by decide +kernel
theorem d_Mo_digestOf_63 : decode cd_Mo_digestOf 63 = .ok (.iload 4, 2) := by decide +kernel
theorem d_Mo_digestOf_65 : decode cd_Mo_digestOf 65 = .ok (.invokevirtual 212, 3) := by decide +kernel
theorem d_Mo_digestOf_68 : decode cd_Mo_digestOf 68 = .ok (.iinc 4 64, 3) := by decide +kernel
theorem d_Mo_digestOf_71 : decode cd_Mo_digestOf 71 = .ok (.goto (-18), 3) := by decide +kernel
theorem d_Mo_digestOf_74 : decode cd_Mo_digestOf 74 = .ok (.aload_n 0, 1) := by decide +kernel
theorem d_Mo_digestOf_75 : decode cd_Mo_digestOf 75 = .ok (.aload_n 0, 1) := by decide +kernel
theorem d_Mo_digestOf_76 : decode cd_Mo_digestOf 76 = .ok (.getfield 84, 3) := by decide +kernel
theorem d_Mo_digestOf_79 : decode cd_Mo_digestOf 79 = .ok (.iconst 0, 1) := by decide +kernel
theorem d_Mo_digestOf_80 : decode cd_Mo_digestOf 80 = .ok (.laload, 1) := by decide +kernel
theorem d_Mo_digestOf_81 : decode cd_Mo_digestOf 81 = .ok (.invokestatic 216, 3) := by decide +kernel
theorem d_Mo_digestOf_84 : decode cd_Mo_digestOf 84 = .ok (.bipush 32, 2) := by decide +kernel
theorem d_Mo_digestOf_86 : decode cd_Mo_digestOf 86 = .ok (.lshl, 1) := by decide +kernel
theorem d_Mo_digestOf_87 : decode cd_Mo_digestOf 87 = .ok (.aload_n 0, 1) := by decide +kernel
theorem d_Mo_digestOf_88 : decode cd_Mo_digestOf 88 = .ok (.getfield 84, 3) := by decide +kernel
theorem d_Mo_digestOf_91 : decode cd_Mo_digestOf 91 = .ok (.iconst 1, 1) := by decide +kernel
theorem d_Mo_digestOf_92 : decode cd_Mo_digestOf 92 = .ok (.laload, 1) := by decide +kernel
theorem d_Mo_digestOf_93 : decode cd_Mo_digestOf 93 = .ok (.invokestatic 216, 3) := by decide +kernel
theorem d_Mo_digestOf_96 : decode cd_Mo_digestOf 96 = .ok (.lor, 1) := by decide +kernel
theorem d_Mo_digestOf_97 : decode cd_Mo_digestOf 97 = .ok (.putfield 220, 3) := by decide +kernel
theorem d_Mo_digestOf_100 : decode cd_Mo_digestOf 100 = .ok (.aload_n 0, 1) := by decide +kernel
theorem d_Mo_digestOf_101 : decode cd_Mo_digestOf 101 = .ok (.aload_n 0, 1) := by decide +kernel
theorem d_Mo_digestOf_102 : decode cd_Mo_digestOf 102 = .ok (.getfield 84, 3) := by decide +kernel
theorem d_Mo_digestOf_105 : decode cd_Mo_digestOf 105 = .ok (.iconst 2, 1) := by decide +kernel
theorem d_Mo_digestOf_106 : decode cd_Mo_digestOf 106 = .ok (.laload, 1) := by decide +kernel
theorem d_Mo_digestOf_107 : decode cd_Mo_digestOf 107 = .ok (.invokestatic 216, 3) := by decide +kernel
theorem d_Mo_digestOf_110 : decode cd_Mo_digestOf 110 = .ok (.bipush 32, 2) := by decide +kernel
theorem d_Mo_digestOf_112 : decode cd_Mo_digestOf 112 = .ok (.lshl, 1) := by decide +kernel
theorem d_Mo_digestOf_113 : decode cd_Mo_digestOf 113 = .ok (.aload_n 0, 1) := by decide +kernel
theorem d_Mo_digestOf_114 : decode cd_Mo_digestOf 114 = .ok (.getfield 84, 3) := by decide +kernel
theorem d_Mo_digestOf_117 : decode cd_Mo_digestOf 117 = .ok (.iconst 3, 1) := by decide +kernel
theorem d_Mo_digestOf_118 : decode cd_Mo_digestOf 118 = .ok (.laload, 1) := by decide +kernel
theorem d_Mo_digestOf_119 : decode cd_Mo_digestOf 119 = .ok (.invokestatic 216, 3) := by decide +kernel
theorem d_Mo_digestOf_122 : decode cd_Mo_digestOf 122 = .ok (.lor, 1) := by decide +kernel
theorem d_Mo_digestOf_123 : decode cd_Mo_digestOf 123 = .ok (.putfield 224, 3) := by decide +kernel
theorem d_Mo_digestOf_126 : decode cd_Mo_digestOf 126 = .ok (.return_, 1) := by decide +kernel
theorem d_Mo_digest_0 : decode cd_Mo_digest 0 = .ok (.iload_n 1, 1) := by decide +kernel
theorem d_Mo_digest_1 : decode cd_Mo_digest 1 = .ok (.invokestatic 170, 3) := by decide +kernel
theorem d_Mo_digest_4 : decode cd_Mo_digest 4 = .ok (.ifCond .ne 5, 3) := by decide +kernel
theorem d_Mo_digest_7 : decode cd_Mo_digest 7 = .ok (.lconst 0, 1) := by decide +kernel
theorem d_Mo_digest_8 : decode cd_Mo_digest 8 = .ok (.lreturn, 1) := by decide +kernel
theorem d_Mo_digest_9 : decode cd_Mo_digest 9 = .ok (.aload_n 0, 1) := by decide +kernel
theorem d_Mo_digest_10 : decode cd_Mo_digest 10 = .ok (.iload_n 1, 1) := by decide +kernel
theorem d_Mo_digest_11 : decode cd_Mo_digest 11 = .ok (.invokestatic 161, 3) := by decide +kernel
theorem d_Mo_digest_14 : decode cd_Mo_digest 14 = .ok (.aload_n 0, 1) := by decide +kernel
theorem d_Mo_digest_15 : decode cd_Mo_digest 15 = .ok (.getfield 81, 3) := by decide +kernel
theorem d_Mo_digest_18 : decode cd_Mo_digest 18 = .ok (.iload_n 1, 1) := by decide +kernel
theorem d_Mo_digest_19 : decode cd_Mo_digest 19 = .ok (.iaload, 1) := by decide +kernel
theorem d_Mo_digest_20 : decode cd_Mo_digest 20 = .ok (.invokevirtual 227, 3) := by decide +kernel
theorem d_Mo_digest_23 : decode cd_Mo_digest 23 = .ok (.iload_n 2, 1) := by decide +kernel
theorem d_Mo_digest_24 : decode cd_Mo_digest 24 = .ok (.ifCond .ne 10, 3) := by decide +kernel
theorem d_Mo_digest_27 : decode cd_Mo_digest 27 = .ok (.aload_n 0, 1) := by decide +kernel
theorem d_Mo_digest_28 : decode cd_Mo_digest 28 = .ok (.getfield 220, 3) := by decide +kernel
theorem d_Mo_digest_31 : decode cd_Mo_digest 31 = .ok (.goto 7, 3) := by decide +kernel
theorem d_Mo_digest_34 : decode cd_Mo_digest 34 = .ok (.aload_n 0, 1) := by decide +kernel
theorem d_Mo_digest_35 : decode cd_Mo_digest 35 = .ok (.getfield 224, 3) := by decide +kernel
theorem d_Mo_digest_38 : decode cd_Mo_digest 38 = .ok (.lreturn, 1) := by decide +kernel
theorem d_Mo_weakOf_0 : decode cd_Mo_weakOf 0 = .ok (.iconst 0, 1) := by decide +kernel
theorem d_Mo_weakOf_1 : decode cd_Mo_weakOf 1 = .ok (.istore_n 3, 1) := by decide +kernel
theorem d_Mo_weakOf_2 : decode cd_Mo_weakOf 2 = .ok (.iconst 0, 1) := by decide +kernel
theorem d_Mo_weakOf_3 : decode cd_Mo_weakOf 3 = .ok (.istore 4, 2) := by decide +kernel
theorem d_Mo_weakOf_5 : decode cd_Mo_weakOf 5 = .ok (.iconst 0, 1) := by decide +kernel
theorem d_Mo_weakOf_6 : decode cd_Mo_weakOf 6 = .ok (.istore 5, 2) := by decide +kernel
theorem d_Mo_weakOf_8 : decode cd_Mo_weakOf 8 = .ok (.iload 5, 2) := by decide +kernel
theorem d_Mo_weakOf_10 : decode cd_Mo_weakOf 10 = .ok (.iload_n 2, 1) := by decide +kernel
theorem d_Mo_weakOf_11 : decode cd_Mo_weakOf 11 = .ok (.if_icmp .ge 40, 3) := by decide +kernel
theorem d_Mo_weakOf_14 : decode cd_Mo_weakOf 14 = .ok (.iload_n 3, 1) := by decide +kernel
theorem d_Mo_weakOf_15 : decode cd_Mo_weakOf 15 = .ok (.aload_n 0, 1) := by decide +kernel
theorem d_Mo_weakOf_16 : decode cd_Mo_weakOf 16 = .ok (.getfield 77, 3) := by decide +kernel
theorem d_Mo_weakOf_19 : decode cd_Mo_weakOf 19 = .ok (.iload_n 1, 1) := by decide +kernel
theorem d_Mo_weakOf_20 : decode cd_Mo_weakOf 20 = .ok (.iload 5, 2) := by decide +kernel
theorem d_Mo_weakOf_22 : decode cd_Mo_weakOf 22 = .ok (.iadd, 1) := by decide +kernel
theorem d_Mo_weakOf_23 : decode cd_Mo_weakOf 23 = .ok (.iaload, 1) := by decide +kernel
theorem d_Mo_weakOf_24 : decode cd_Mo_weakOf 24 = .ok (.iadd, 1) := by decide +kernel
theorem d_Mo_weakOf_25 : decode cd_Mo_weakOf 25 = .ok (.istore_n 3, 1) := by decide +kernel
theorem d_Mo_weakOf_26 : decode cd_Mo_weakOf 26 = .ok (.iload 4, 2) := by decide +kernel
theorem d_Mo_weakOf_28 : decode cd_Mo_weakOf 28 = .ok (.iload_n 2, 1) := by decide +kernel
theorem d_Mo_weakOf_29 : decode cd_Mo_weakOf 29 = .ok (.iload 5, 2) := by decide +kernel
theorem d_Mo_weakOf_31 : decode cd_Mo_weakOf 31 = .ok (.isub, 1) := by decide +kernel
theorem d_Mo_weakOf_32 : decode cd_Mo_weakOf 32 = .ok (.aload_n 0, 1) := by decide +kernel
theorem d_Mo_weakOf_33 : decode cd_Mo_weakOf 33 = .ok (.getfield 77, 3) := by decide +kernel
theorem d_Mo_weakOf_36 : decode cd_Mo_weakOf 36 = .ok (.iload_n 1, 1) := by decide +kernel
theorem d_Mo_weakOf_37 : decode cd_Mo_weakOf 37 = .ok (.iload 5, 2) := by decide +kernel
theorem d_Mo_weakOf_39 : decode cd_Mo_weakOf 39 = .ok (.iadd, 1) := by decide +kernel
theorem d_Mo_weakOf_40 : decode cd_Mo_weakOf 40 = .ok (.iaload, 1) := by decide +kernel
theorem d_Mo_weakOf_41 : decode cd_Mo_weakOf 41 = .ok (.imul, 1) := by decide +kernel
theorem d_Mo_weakOf_42 : decode cd_Mo_weakOf 42 = .ok (.iadd, 1) := by decide +kernel
theorem d_Mo_weakOf_43 : decode cd_Mo_weakOf 43 = .ok (.istore 4, 2) := by decide +kernel
theorem d_Mo_weakOf_45 : decode cd_Mo_weakOf 45 = .ok (.iinc 5 1, 3) := by decide +kernel
theorem d_Mo_weakOf_48 : decode cd_Mo_weakOf 48 = .ok (.goto (-40), 3) := by decide +kernel
theorem d_Mo_weakOf_51 : decode cd_Mo_weakOf 51 = .ok (.ldc2_w 231, 3) := by decide +kernel
theorem d_Mo_weakOf_54 : decode cd_Mo_weakOf 54 = .ok (.iload 4, 2) := by decide +kernel
theorem d_Mo_weakOf_56 : decode cd_Mo_weakOf 56 = .ok (.ldc 233, 2) := by decide +kernel
theorem d_Mo_weakOf_58 : decode cd_Mo_weakOf 58 = .ok (.irem, 1) := by decide +kernel
theorem d_Mo_weakOf_59 : decode cd_Mo_weakOf 59 = .ok (.i2l, 1) := by decide +kernel
theorem d_Mo_weakOf_60 : decode cd_Mo_weakOf 60 = .ok (.lmul, 1) := by decide +kernel
theorem d_Mo_weakOf_61 : decode cd_Mo_weakOf 61 = .ok (.iload_n 3, 1) := by decide +kernel
theorem d_Mo_weakOf_62 : decode cd_Mo_weakOf 62 = .ok (.ldc 233, 2) := by decide +kernel
theorem d_Mo_weakOf_64 : decode cd_Mo_weakOf 64 = .ok (.irem, 1) := by decide +kernel
theorem d_Mo_weakOf_65 : decode cd_Mo_weakOf 65 = .ok (.i2l, 1) := by decide +kernel
theorem d_Mo_weakOf_66 : decode cd_Mo_weakOf 66 = .ok (.ladd, 1) := by decide +kernel
theorem d_Mo_weakOf_67 : decode cd_Mo_weakOf 67 = .ok (.lreturn, 1) := by decide +kernel
theorem d_Mo_sum_0 : decode cd_Mo_sum 0 = .ok (.iload_n 1, 1) := by decide +kernel
theorem d_Mo_sum_1 : decode cd_Mo_sum 1 = .ok (.invokestatic 170, 3) := by decide +kernel
theorem d_Mo_sum_4 : decode cd_Mo_sum 4 = .ok (.ifCond .ne 7, 3) := by decide +kernel
theorem d_Mo_sum_7 : decode cd_Mo_sum 7 = .ok (.ldc2_w 178, 3) := by decide +kernel
theorem d_Mo_sum_10 : decode cd_Mo_sum 10 = .ok (.lreturn, 1) := by decide +kernel
theorem d_Mo_sum_11 : decode cd_Mo_sum 11 = .ok (.iload_n 2, 1) := by decide +kernel
theorem d_Mo_sum_12 : decode cd_Mo_sum 12 = .ok (.ifCond .ne 76, 3) := by decide +kernel
theorem d_Mo_sum_15 : decode cd_Mo_sum 15 = .ok (.iload_n 3, 1) := by decide +kernel
theorem d_Mo_sum_16 : decode cd_Mo_sum 16 = .ok (.ifCond .ne 72, 3) := by decide +kernel
theorem d_Mo_sum_19 : decode cd_Mo_sum 19 = .ok (.lconst 1, 1) := by decide +kernel
theorem d_Mo_sum_20 : decode cd_Mo_sum 20 = .ok (.lstore 4, 2) := by decide +kernel
theorem d_Mo_sum_22 : decode cd_Mo_sum 22 = .ok (.lconst 0, 1) := by decide +kernel
theorem d_Mo_sum_23 : decode cd_Mo_sum 23 = .ok (.lstore 6, 2) := by decide +kernel
theorem d_Mo_sum_25 : decode cd_Mo_sum 25 = .ok (.iconst 0, 1) := by decide +kernel
theorem d_Mo_sum_26 : decode cd_Mo_sum 26 = .ok (.istore 8, 2) := by decide +kernel
theorem d_Mo_sum_28 : decode cd_Mo_sum 28 = .ok (.iload 8, 2) := by decide +kernel
theorem d_Mo_sum_30 : decode cd_Mo_sum 30 = .ok (.aload_n 0, 1) := by decide +kernel
theorem d_Mo_sum_31 : decode cd_Mo_sum 31 = .ok (.getfield 81, 3) := by decide +kernel
theorem d_Mo_sum_34 : decode cd_Mo_sum 34 = .ok (.iload_n 1, 1) := by decide +kernel
theorem d_Mo_sum_35 : decode cd_Mo_sum 35 = .ok (.iaload, 1) := by decide +kernel
theorem d_Mo_sum_36 : decode cd_Mo_sum 36 = .ok (.if_icmp .ge 42, 3) := by decide +kernel
theorem d_Mo_sum_39 : decode cd_Mo_sum 39 = .ok (.lload 4, 2) := by decide +kernel
theorem d_Mo_sum_41 : decode cd_Mo_sum 41 = .ok (.aload_n 0, 1) := by decide +kernel
theorem d_Mo_sum_42 : decode cd_Mo_sum 42 = .ok (.getfield 77, 3) := by decide +kernel
theorem d_Mo_sum_45 : decode cd_Mo_sum 45 = .ok (.iload_n 1, 1) := by decide +kernel
theorem d_Mo_sum_46 : decode cd_Mo_sum 46 = .ok (.invokestatic 161, 3) := by decide +kernel
theorem d_Mo_sum_49 : decode cd_Mo_sum 49 = .ok (.iload 8, 2) := by decide +kernel
theorem d_Mo_sum_51 : decode cd_Mo_sum 51 = .ok (.iadd, 1) := by decide +kernel
theorem d_Mo_sum_52 : decode cd_Mo_sum 52 = .ok (.iaload, 1) := by decide +kernel
theorem d_Mo_sum_53 : decode cd_Mo_sum 53 = .ok (.i2l, 1) := by decide +kernel
theorem d_Mo_sum_54 : decode cd_Mo_sum 54 = .ok (.ladd, 1) := by decide +kernel
theorem d_Mo_sum_55 : decode cd_Mo_sum 55 = .ok (.ldc2_w 234, 3) := by decide +kernel
theorem d_Mo_sum_58 : decode cd_Mo_sum 58 = .ok (.lrem, 1) := by decide +kernel
theorem d_Mo_sum_59 : decode cd_Mo_sum 59 = .ok (.lstore 4, 2) := by decide +kernel
theorem d_Mo_sum_61 : decode cd_Mo_sum 61 = .ok (.lload 6, 2) := by decide +kernel
theorem d_Mo_sum_63 : decode cd_Mo_sum 63 = .ok (.lload 4, 2) := by decide +kernel
theorem d_Mo_sum_65 : decode cd_Mo_sum 65 = .ok (.ladd, 1) := by decide +kernel
theorem d_Mo_sum_66 : decode cd_Mo_sum 66 = .ok (.ldc2_w 234, 3) := by decide +kernel
theorem d_Mo_sum_69 : decode cd_Mo_sum 69 = .ok (.lrem, 1) := by decide +kernel
theorem d_Mo_sum_70 : decode cd_Mo_sum 70 = .ok (.lstore 6, 2) := by decide +kernel
theorem d_Mo_sum_72 : decode cd_Mo_sum 72 = .ok (.iinc 8 1, 3) := by decide +kernel
theorem d_Mo_sum_75 : decode cd_Mo_sum 75 = .ok (.goto (-47), 3) := by decide +kernel
theorem d_Mo_sum_78 : decode cd_Mo_sum 78 = .ok (.ldc2_w 231, 3) := by decide +kernel
theorem d_Mo_sum_81 : decode cd_Mo_sum 81 = .ok (.lload 6, 2) := by decide +kernel
theorem d_Mo_sum_83 : decode cd_Mo_sum 83 = .ok (.lmul, 1) := by decide +kernel
theorem d_Mo_sum_84 : decode cd_Mo_sum 84 = .ok (.lload 4, 2) := by decide +kernel
theorem d_Mo_sum_86 : decode cd_Mo_sum 86 = .ok (.ladd, 1) := by decide +kernel
theorem d_Mo_sum_87 : decode cd_Mo_sum 87 = .ok (.lreturn, 1) := by decide +kernel
theorem d_Mo_sum_88 : decode cd_Mo_sum 88 = .ok (.iload_n 2, 1) := by decide +kernel
theorem d_Mo_sum_89 : decode cd_Mo_sum 89 = .ok (.ifCond .lt 20, 3) := by decide +kernel
theorem d_Mo_sum_92 : decode cd_Mo_sum 92 = .ok (.iload_n 3, 1) := by decide +kernel
theorem d_Mo_sum_93 : decode cd_Mo_sum 93 = .ok (.iconst 1, 1) := by decide +kernel
theorem d_Mo_sum_94 : decode cd_Mo_sum 94 = .ok (.if_icmp .lt 15, 3) := by decide +kernel
theorem d_Mo_sum_97 : decode cd_Mo_sum 97 = .ok (.iload_n 2, 1) := by decide +kernel
theorem d_Mo_sum_98 : decode cd_Mo_sum 98 = .ok (.aload_n 0, 1) := by decide +kernel
theorem d_Mo_sum_99 : decode cd_Mo_sum 99 = .ok (.getfield 81, 3) := by decide +kernel
theorem d_Mo_sum_102 : decode cd_Mo_sum 102 = .ok (.iload_n 1, 1) := by decide +kernel
theorem d_Mo_sum_103 : decode cd_Mo_sum 103 = .ok (.iaload, 1) := by decide +kernel
theorem d_Mo_sum_104 : decode cd_Mo_sum 104 = .ok (.iload_n 3, 1) := by decide +kernel
theorem d_Mo_sum_105 : decode cd_Mo_sum 105 = .ok (.isub, 1) := by decide +kernel
theorem d_Mo_sum_106 : decode cd_Mo_sum 106 = .ok (.if_icmp .le 9, 3) := by decide +kernel
theorem d_Mo_sum_109 : decode cd_Mo_sum 109 = .ok (.ldc2_w 178, 3) := by decide +kernel
theorem d_Mo_sum_112 : decode cd_Mo_sum 112 = .ok (.goto 14, 3) := by decide +kernel
theorem d_Mo_sum_115 : decode cd_Mo_sum 115 = .ok (.aload_n 0, 1) := by decide +kernel
theorem d_Mo_sum_116 : decode cd_Mo_sum 116 = .ok (.iload_n 1, 1) := by decide +kernel
theorem d_Mo_sum_117 : decode cd_Mo_sum 117 = .ok (.invokestatic 161, 3) := by decide +kernel
theorem d_Mo_sum_120 : decode cd_Mo_sum 120 = .ok (.iload_n 2, 1) := by decide +kernel
theorem d_Mo_sum_121 : decode cd_Mo_sum 121 = .ok (.iadd, 1) := by decide +kernel
theorem d_Mo_sum_122 : decode cd_Mo_sum 122 = .ok (.iload_n 3, 1) := by decide +kernel
theorem d_Mo_sum_123 : decode cd_Mo_sum 123 = .ok (.invokevirtual 236, 3) := by decide +kernel
theorem d_Mo_sum_126 : decode cd_Mo_sum 126 = .ok (.lreturn, 1) := by decide +kernel
theorem d_Mo_sign_0 : decode cd_Mo_sign 0 = .ok (.iload_n 1, 1) := by decide +kernel
theorem d_Mo_sign_1 : decode cd_Mo_sign 1 = .ok (.iconst 4, 1) := by decide +kernel
theorem d_Mo_sign_2 : decode cd_Mo_sign 2 = .ok (.if_icmp .lt 9, 3) := by decide +kernel
theorem d_Mo_sign_5 : decode cd_Mo_sign 5 = .ok (.iload_n 1, 1) := by decide +kernel
theorem d_Mo_sign_6 : decode cd_Mo_sign 6 = .ok (.bipush 64, 2) := by decide +kernel
theorem d_Mo_sign_8 : decode cd_Mo_sign 8 = .ok (.if_icmp .le 5, 3) := by decide +kernel
theorem d_Mo_sign_11 : decode cd_Mo_sign 11 = .ok (.iconst (-1), 1) := by decide +kernel
theorem d_Mo_sign_12 : decode cd_Mo_sign 12 = .ok (.ireturn, 1) := by decide +kernel
theorem d_Mo_sign_13 : decode cd_Mo_sign 13 = .ok (.aload_n 0, 1) := by decide +kernel
theorem d_Mo_sign_14 : decode cd_Mo_sign 14 = .ok (.iload_n 1, 1) := by decide +kernel
theorem d_Mo_sign_15 : decode cd_Mo_sign 15 = .ok (.putfield 240, 3) := by decide +kernel
theorem d_Mo_sign_18 : decode cd_Mo_sign 18 = .ok (.aload_n 0, 1) := by decide +kernel
theorem d_Mo_sign_19 : decode cd_Mo_sign 19 = .ok (.aload_n 0, 1) := by decide +kernel
theorem d_Mo_sign_20 : decode cd_Mo_sign 20 = .ok (.getfield 81, 3) := by decide +kernel
theorem d_Mo_sign_23 : decode cd_Mo_sign 23 = .ok (.iconst 0, 1) := by decide +kernel
theorem d_Mo_sign_24 : decode cd_Mo_sign 24 = .ok (.iaload, 1) := by decide +kernel
theorem d_Mo_sign_25 : decode cd_Mo_sign 25 = .ok (.aload_n 0, 1) := by decide +kernel
theorem d_Mo_sign_26 : decode cd_Mo_sign 26 = .ok (.getfield 240, 3) := by decide +kernel
theorem d_Mo_sign_29 : decode cd_Mo_sign 29 = .ok (.idiv, 1) := by decide +kernel
theorem d_Mo_sign_30 : decode cd_Mo_sign 30 = .ok (.putfield 87, 3) := by decide +kernel
theorem d_Mo_sign_33 : decode cd_Mo_sign 33 = .ok (.iconst 0, 1) := by decide +kernel
theorem d_Mo_sign_34 : decode cd_Mo_sign 34 = .ok (.istore_n 2, 1) := by decide +kernel
theorem d_Mo_sign_35 : decode cd_Mo_sign 35 = .ok (.iload_n 2, 1) := by decide +kernel
theorem d_Mo_sign_36 : decode cd_Mo_sign 36 = .ok (.aload_n 0, 1) := by decide +kernel
theorem d_Mo_sign_37 : decode cd_Mo_sign 37 = .ok (.getfield 87, 3) := by decide +kernel
theorem d_Mo_sign_40 : decode cd_Mo_sign 40 = .ok (.if_icmp .ge 63, 3) := by decide +kernel
theorem d_Mo_sign_43 : decode cd_Mo_sign 43 = .ok (.aload_n 0, 1) := by decide +kernel
theorem d_Mo_sign_44 : decode cd_Mo_sign 44 = .ok (.getfield 91, 3) := by decide +kernel
theorem d_Mo_sign_47 : decode cd_Mo_sign 47 = .ok (.iload_n 2, 1) := by decide +kernel
theorem d_Mo_sign_48 : decode cd_Mo_sign 48 = .ok (.aload_n 0, 1) := by decide +kernel
theorem d_Mo_sign_49 : decode cd_Mo_sign 49 = .ok (.aload_n 0, 1) := by decide +kernel
theorem d_Mo_sign_50 : decode cd_Mo_sign 50 = .ok (.getfield 240, 3) := by decide +kernel
theorem d_Mo_sign_53 : decode cd_Mo_sign 53 = .ok (.iload_n 2, 1) := by decide +kernel
theorem d_Mo_sign_54 : decode cd_Mo_sign 54 = .ok (.imul, 1) := by decide +kernel
theorem d_Mo_sign_55 : decode cd_Mo_sign 55 = .ok (.aload_n 0, 1) := by decide +kernel
theorem d_Mo_sign_56 : decode cd_Mo_sign 56 = .ok (.getfield 240, 3) := by decide +kernel
theorem d_Mo_sign_59 : decode cd_Mo_sign 59 = .ok (.invokevirtual 236, 3) := by decide +kernel
theorem d_Mo_sign_62 : decode cd_Mo_sign 62 = .ok (.lastore, 1) := by decide +kernel
theorem d_Mo_sign_63 : decode cd_Mo_sign 63 = .ok (.aload_n 0, 1) := by decide +kernel
theorem d_Mo_sign_64 : decode cd_Mo_sign 64 = .ok (.aload_n 0, 1) := by decide +kernel
theorem d_Mo_sign_65 : decode cd_Mo_sign 65 = .ok (.getfield 240, 3) := by decide +kernel
theorem d_Mo_sign_68 : decode cd_Mo_sign 68 = .ok (.iload_n 2, 1) := by decide +kernel
theorem d_Mo_sign_69 : decode cd_Mo_sign 69 = .ok (.imul, 1) := by decide +kernel
theorem d_Mo_sign_70 : decode cd_Mo_sign 70 = .ok (.aload_n 0, 1) := by decide +kernel
theorem d_Mo_sign_71 : decode cd_Mo_sign 71 = .ok (.getfield 240, 3) := by decide +kernel
theorem d_Mo_sign_74 : decode cd_Mo_sign 74 = .ok (.invokevirtual 227, 3) := by decide +kernel
theorem d_Mo_sign_77 : decode cd_Mo_sign 77 = .ok (.aload_n 0, 1) := by decide +kernel
theorem d_Mo_sign_78 : decode cd_Mo_sign 78 = .ok (.getfield 94, 3) := by decide +kernel
theorem d_Mo_sign_81 : decode cd_Mo_sign 81 = .ok (.iload_n 2, 1) := by decide +kernel
theorem d_Mo_sign_82 : decode cd_Mo_sign 82 = .ok (.aload_n 0, 1) := by decide +kernel
theorem d_Mo_sign_83 : decode cd_Mo_sign 83 = .ok (.getfield 220, 3) := by decide +kernel
theorem d_Mo_sign_86 : decode cd_Mo_sign 86 = .ok (.lastore, 1) := by decide +kernel
theorem d_Mo_sign_87 : decode cd_Mo_sign 87 = .ok (.aload_n 0, 1) := by decide +kernel
theorem d_Mo_sign_88 : decode cd_Mo_sign 88 = .ok (.getfield 97, 3) := by decide +kernel
theorem d_Mo_sign_91 : decode cd_Mo_sign 91 = .ok (.iload_n 2, 1) := by decide +kernel
theorem d_Mo_sign_92 : decode cd_Mo_sign 92 = .ok (.aload_n 0, 1) := by decide +kernel
theorem d_Mo_sign_93 : decode cd_Mo_sign 93 = .ok (.getfield 224, 3) := by decide +kernel
theorem d_Mo_sign_96 : decode cd_Mo_sign 96 = .ok (.lastore, 1) := by decide +kernel
theorem d_Mo_sign_97 : decode cd_Mo_sign 97 = .ok (.iinc 2 1, 3) := by decide +kernel
theorem d_Mo_sign_100 : decode cd_Mo_sign 100 = .ok (.goto (-65), 3) := by decide +kernel
theorem d_Mo_sign_103 : decode cd_Mo_sign 103 = .ok (.aload_n 0, 1) := by decide +kernel
theorem d_Mo_sign_104 : decode cd_Mo_sign 104 = .ok (.getfield 87, 3) := by decide +kernel
theorem d_Mo_sign_107 : decode cd_Mo_sign 107 = .ok (.ireturn, 1) := by decide +kernel
theorem d_Mo_blockAt_0 : decode cd_Mo_blockAt 0 = .ok (.iload_n 1, 1) := by decide +kernel
theorem d_Mo_blockAt_1 : decode cd_Mo_blockAt 1 = .ok (.aload_n 0, 1) := by decide +kernel
theorem d_Mo_blockAt_2 : decode cd_Mo_blockAt 2 = .ok (.getfield 240, 3) := by decide +kernel
theorem d_Mo_blockAt_5 : decode cd_Mo_blockAt 5 = .ok (.iadd, 1) := by decide +kernel
theorem d_Mo_blockAt_6 : decode cd_Mo_blockAt 6 = .ok (.aload_n 0, 1) := by decide +kernel
theorem d_Mo_blockAt_7 : decode cd_Mo_blockAt 7 = .ok (.getfield 81, 3) := by decide +kernel
theorem d_Mo_blockAt_10 : decode cd_Mo_blockAt 10 = .ok (.iconst 1, 1) := by decide +kernel
theorem d_Mo_blockAt_11 : decode cd_Mo_blockAt 11 = .ok (.iaload, 1) := by decide +kernel
theorem d_Mo_blockAt_12 : decode cd_Mo_blockAt 12 = .ok (.if_icmp .le 5, 3) := by decide +kernel
theorem d_Mo_blockAt_15 : decode cd_Mo_blockAt 15 = .ok (.iconst (-1), 1) := by decide +kernel
theorem d_Mo_blockAt_16 : decode cd_Mo_blockAt 16 = .ok (.ireturn, 1) := by decide +kernel
theorem d_Mo_blockAt_17 : decode cd_Mo_blockAt 17 = .ok (.aload_n 0, 1) := by decide +kernel
theorem d_Mo_blockAt_18 : decode cd_Mo_blockAt 18 = .ok (.sipush 300, 3) := by decide +kernel
theorem d_Mo_blockAt_21 : decode cd_Mo_blockAt 21 = .ok (.iload_n 1, 1) := by decide +kernel
theorem d_Mo_blockAt_22 : decode cd_Mo_blockAt 22 = .ok (.iadd, 1) := by decide +kernel
theorem d_Mo_blockAt_23 : decode cd_Mo_blockAt 23 = .ok (.aload_n 0, 1) := by decide +kernel
theorem d_Mo_blockAt_24 : decode cd_Mo_blockAt 24 = .ok (.getfield 240, 3) := by decide +kernel
theorem d_Mo_blockAt_27 : decode cd_Mo_blockAt 27 = .ok (.invokevirtual 236, 3) := by decide +kernel
theorem d_Mo_blockAt_30 : decode cd_Mo_blockAt 30 = .ok (.lstore_n 2, 1) := by decide +kernel
theorem d_Mo_blockAt_31 : decode cd_Mo_blockAt 31 = .ok (.iconst 0, 1) := by decide +kernel
theorem d_Mo_blockAt_32 : decode cd_Mo_blockAt 32 = .ok (.istore 4, 2) := by decide +kernel
theorem d_Mo_blockAt_34 : decode cd_Mo_blockAt 34 = .ok (.iconst 0, 1) := by decide +kernel
theorem d_Mo_blockAt_35 : decode cd_Mo_blockAt 35 = .ok (.istore 5, 2) := by decide +kernel
theorem d_Mo_blockAt_37 : decode cd_Mo_blockAt 37 = .ok (.iload 5, 2) := by decide +kernel
theorem d_Mo_blockAt_39 : decode cd_Mo_blockAt 39 = .ok (.aload_n 0, 1) := by decide +kernel
theorem d_Mo_blockAt_40 : decode cd_Mo_blockAt 40 = .ok (.getfield 87, 3) := by decide +kernel
theorem d_Mo_blockAt_43 : decode cd_Mo_blockAt 43 = .ok (.if_icmp .ge 33, 3) := by decide +kernel
theorem d_Mo_blockAt_46 : decode cd_Mo_blockAt 46 = .ok (.iload 4, 2) := by decide +kernel
theorem d_Mo_blockAt_48 : decode cd_Mo_blockAt 48 = .ok (.ifCond .ne 15, 3) := by decide +kernel
theorem d_Mo_blockAt_51 : decode cd_Mo_blockAt 51 = .ok (.aload_n 0, 1) := by decide +kernel
theorem d_Mo_blockAt_52 : decode cd_Mo_blockAt 52 = .ok (.getfield 91, 3) := by decide +kernel
theorem d_Mo_blockAt_55 : decode cd_Mo_blockAt 55 = .ok (.iload 5, 2) := by decide +kernel
theorem d_Mo_blockAt_57 : decode cd_Mo_blockAt 57 = .ok (.laload, 1) := by decide +kernel
theorem d_Mo_blockAt_58 : decode cd_Mo_blockAt 58 = .ok (.lload_n 2, 1) := by decide +kernel
theorem d_Mo_blockAt_59 : decode cd_Mo_blockAt 59 = .ok (.lcmp, 1) := by decide +kernel
theorem d_Mo_blockAt_60 : decode cd_Mo_blockAt 60 = .ok (.ifCond .ne 7, 3) := by decide +kernel
theorem d_Mo_blockAt_63 : decode cd_Mo_blockAt 63 = .ok (.iconst 1, 1) := by decide +kernel
theorem d_Mo_blockAt_64 : decode cd_Mo_blockAt 64 = .ok (.goto 4, 3) := by decide +kernel
theorem d_Mo_blockAt_67 : decode cd_Mo_blockAt 67 = .ok (.iconst 0, 1) := by decide +kernel
theorem d_Mo_blockAt_68 : decode cd_Mo_blockAt 68 = .ok (.istore 4, 2) := by decide +kernel
theorem d_Mo_blockAt_70 : decode cd_Mo_blockAt 70 = .ok (.iinc 5 1, 3) := by decide +kernel
theorem d_Mo_blockAt_73 : decode cd_Mo_blockAt 73 = .ok (.goto (-36), 3) := by decide +kernel
theorem d_Mo_blockAt_76 : decode cd_Mo_blockAt 76 = .ok (.iload 4, 2) := by decide +kernel
theorem d_Mo_blockAt_78 : decode cd_Mo_blockAt 78 = .ok (.ifCond .ne 5, 3) := by decide +kernel
theorem d_Mo_blockAt_81 : decode cd_Mo_blockAt 81 = .ok (.iconst (-1), 1) := by decide +kernel
theorem d_Mo_blockAt_82 : decode cd_Mo_blockAt 82 = .ok (.ireturn, 1) := by decide +kernel
theorem d_Mo_blockAt_83 : decode cd_Mo_blockAt 83 = .ok (.aload_n 0, 1) := by decide +kernel
theorem d_Mo_blockAt_84 : decode cd_Mo_blockAt 84 = .ok (.sipush 300, 3) := by decide +kernel
theorem d_Mo_blockAt_87 : decode cd_Mo_blockAt 87 = .ok (.iload_n 1, 1) := by decide +kernel
theorem d_Mo_blockAt_88 : decode cd_Mo_blockAt 88 = .ok (.iadd, 1) := by decide +kernel
theorem d_Mo_blockAt_89 : decode cd_Mo_blockAt 89 = .ok (.aload_n 0, 1) := by decide +kernel
theorem d_Mo_blockAt_90 : decode cd_Mo_blockAt 90 = .ok (.getfield 240, 3) := by decide +kernel
theorem d_Mo_blockAt_93 : decode cd_Mo_blockAt 93 = .ok (.invokevirtual 227, 3) := by decide +kernel
theorem d_Mo_blockAt_96 : decode cd_Mo_blockAt 96 = .ok (.iconst (-1), 1) := by decide +kernel
theorem d_Mo_blockAt_97 : decode cd_Mo_blockAt 97 = .ok (.istore 5, 2) := by decide +kernel
theorem d_Mo_blockAt_99 : decode cd_Mo_blockAt 99 = .ok (.aload_n 0, 1) := by decide +kernel
theorem d_Mo_blockAt_100 : decode cd_Mo_blockAt 100 = .ok (.getfield 87, 3) := by decide +kernel
theorem d_Mo_blockAt_103 : decode cd_Mo_blockAt 103 = .ok (.iconst 1, 1) := by decide +kernel
theorem d_Mo_blockAt_104 : decode cd_Mo_blockAt 104 = .ok (.isub, 1) := by decide +kernel
theorem d_Mo_blockAt_105 : decode cd_Mo_blockAt 105 = .ok (.istore 6, 2) := by decide +kernel
theorem d_Mo_blockAt_107 : decode cd_Mo_blockAt 107 = .ok (.iload 6, 2) := by decide +kernel
theorem d_Mo_blockAt_109 : decode cd_Mo_blockAt 109 = .ok (.ifCond .lt 60, 3) := by decide +kernel
theorem d_Mo_blockAt_112 : decode cd_Mo_blockAt 112 = .ok (.aload_n 0, 1) := by decide +kernel
theorem d_Mo_blockAt_113 : decode cd_Mo_blockAt 113 = .ok (.getfield 91, 3) := by decide +kernel
theorem d_Mo_blockAt_116 : decode cd_Mo_blockAt 116 = .ok (.iload 6, 2) := by decide +kernel
theorem d_Mo_blockAt_118 : decode cd_Mo_blockAt 118 = .ok (.laload, 1) := by decide +kernel
theorem d_Mo_blockAt_119 : decode cd_Mo_blockAt 119 = .ok (.lload_n 2, 1) := by decide +kernel
theorem d_Mo_blockAt_120 : decode cd_Mo_blockAt 120 = .ok (.lcmp, 1) := by decide +kernel
theorem d_Mo_blockAt_121 : decode cd_Mo_blockAt 121 = .ok (.ifCond .ne 38, 3) := by decide +kernel
theorem d_Mo_blockAt_124 : decode cd_Mo_blockAt 124 = .ok (.aload_n 0, 1) := by decide +kernel
theorem d_Mo_blockAt_125 : decode cd_Mo_blockAt 125 = .ok (.getfield 94, 3) := by decide +kernel
theorem d_Mo_blockAt_128 : decode cd_Mo_blockAt 128 = .ok (.iload 6, 2) := by decide +kernel
theorem d_Mo_blockAt_130 : decode cd_Mo_blockAt 130 = .ok (.laload, 1) := by decide +kernel
theorem d_Mo_blockAt_131 : decode cd_Mo_blockAt 131 = .ok (.aload_n 0, 1) := by decide +kernel
theorem d_Mo_blockAt_132 : decode cd_Mo_blockAt 132 = .ok (.getfield 220, 3) := by decide +kernel
theorem d_Mo_blockAt_135 : decode cd_Mo_blockAt 135 = .ok (.lcmp, 1) := by decide +kernel
theorem d_Mo_blockAt_136 : decode cd_Mo_blockAt 136 = .ok (.ifCond .ne 23, 3) := by decide +kernel
theorem d_Mo_blockAt_139 : decode cd_Mo_blockAt 139 = .ok (.aload_n 0, 1) := by decide +kernel
theorem d_Mo_blockAt_140 : decode cd_Mo_blockAt 140 = .ok (.getfield 97, 3) := by decide +kernel
theorem d_Mo_blockAt_143 : decode cd_Mo_blockAt 143 = .ok (.iload 6, 2) := by decide +kernel
theorem d_Mo_blockAt_145 : decode cd_Mo_blockAt 145 = .ok (.laload, 1) := by decide +kernel
theorem d_Mo_blockAt_146 : decode cd_Mo_blockAt 146 = .ok (.aload_n 0, 1) := by decide +kernel
theorem d_Mo_blockAt_147 : decode cd_Mo_blockAt 147 = .ok (.getfield 224, 3) := by decide +kernel
theorem d_Mo_blockAt_150 : decode cd_Mo_blockAt 150 = .ok (.lcmp, 1) := by decide +kernel
theorem d_Mo_blockAt_151 : decode cd_Mo_blockAt 151 = .ok (.ifCond .ne 8, 3) := by decide +kernel
theorem d_Mo_blockAt_154 : decode cd_Mo_blockAt 154 = .ok (.iload 6, 2) := by decide +kernel
theorem d_Mo_blockAt_156 : decode cd_Mo_blockAt 156 = .ok (.goto 5, 3) := by decide +kernel
theorem d_Mo_blockAt_159 : decode cd_Mo_blockAt 159 = .ok (.iload 5, 2) := by decide +kernel
theorem d_Mo_blockAt_161 : decode cd_Mo_blockAt 161 = .ok (.istore 5, 2) := by decide +kernel
theorem d_Mo_blockAt_163 : decode cd_Mo_blockAt 163 = .ok (.iinc 6 (-1), 3) := by decide +kernel
theorem d_Mo_blockAt_166 : decode cd_Mo_blockAt 166 = .ok (.goto (-59), 3) := by decide +kernel
theorem d_Mo_blockAt_169 : decode cd_Mo_blockAt 169 = .ok (.iload 5, 2) := by decide +kernel
theorem d_Mo_blockAt_171 : decode cd_Mo_blockAt 171 = .ok (.ireturn, 1) := by decide +kernel
theorem d_Mo_raw_0 : decode cd_Mo_raw 0 = .ok (.aload_n 0, 1) := by decide +kernel
theorem d_Mo_raw_1 : decode cd_Mo_raw 1 = .ok (.getfield 243, 3) := by decide +kernel
theorem d_Mo_raw_4 : decode cd_Mo_raw 4 = .ok (.ifCond .le 69, 3) := by decide +kernel
theorem d_Mo_raw_7 : decode cd_Mo_raw 7 = .ok (.iload_n 1, 1) := by decide +kernel
theorem d_Mo_raw_8 : decode cd_Mo_raw 8 = .ok (.ifCond .ge 20, 3) := by decide +kernel
theorem d_Mo_raw_11 : decode cd_Mo_raw 11 = .ok (.aload_n 0, 1) := by decide +kernel
theorem d_Mo_raw_12 : decode cd_Mo_raw 12 = .ok (.getfield 118, 3) := by decide +kernel
theorem d_Mo_raw_15 : decode cd_Mo_raw 15 = .ok (.aload_n 0, 1) := by decide +kernel
theorem d_Mo_raw_16 : decode cd_Mo_raw 16 = .ok (.getfield 243, 3) := by decide +kernel
theorem d_Mo_raw_19 : decode cd_Mo_raw 19 = .ok (.iconst 1, 1) := by decide +kernel
theorem d_Mo_raw_20 : decode cd_Mo_raw 20 = .ok (.isub, 1) := by decide +kernel
theorem d_Mo_raw_21 : decode cd_Mo_raw 21 = .ok (.iaload, 1) := by decide +kernel
theorem d_Mo_raw_22 : decode cd_Mo_raw 22 = .ok (.ifCond .ge 51, 3) := by decide +kernel
theorem d_Mo_raw_25 : decode cd_Mo_raw 25 = .ok (.goto 44, 3) := by decide +kernel
theorem d_Mo_raw_28 : decode cd_Mo_raw 28 = .ok (.aload_n 0, 1) := by decide +kernel
theorem d_Mo_raw_29 : decode cd_Mo_raw 29 = .ok (.getfield 118, 3) := by decide +kernel
theorem d_Mo_raw_32 : decode cd_Mo_raw 32 = .ok (.aload_n 0, 1) := by decide +kernel
theorem d_Mo_raw_33 : decode cd_Mo_raw 33 = .ok (.getfield 243, 3) := by decide +kernel
theorem d_Mo_raw_36 : decode cd_Mo_raw 36 = .ok (.iconst 1, 1) := by decide +kernel
theorem d_Mo_raw_37 : decode cd_Mo_raw 37 = .ok (.isub, 1) := by decide +kernel
theorem d_Mo_raw_38 : decode cd_Mo_raw 38 = .ok (.iaload, 1) := by decide +kernel
theorem d_Mo_raw_39 : decode cd_Mo_raw 39 = .ok (.ifCond .lt 34, 3) := by decide +kernel
theorem d_Mo_raw_42 : decode cd_Mo_raw 42 = .ok (.aload_n 0, 1) := by decide +kernel
theorem d_Mo_raw_43 : decode cd_Mo_raw 43 = .ok (.getfield 118, 3) := by decide +kernel
theorem d_Mo_raw_46 : decode cd_Mo_raw 46 = .ok (.aload_n 0, 1) := by decide +kernel
theorem d_Mo_raw_47 : decode cd_Mo_raw 47 = .ok (.getfield 243, 3) := by decide +kernel
theorem d_Mo_raw_50 : decode cd_Mo_raw 50 = .ok (.iconst 1, 1) := by decide +kernel
theorem d_Mo_raw_51 : decode cd_Mo_raw 51 = .ok (.isub, 1) := by decide +kernel
theorem d_Mo_raw_52 : decode cd_Mo_raw 52 = .ok (.iaload, 1) := by decide +kernel
theorem d_Mo_raw_53 : decode cd_Mo_raw 53 = .ok (.aload_n 0, 1) := by decide +kernel
theorem d_Mo_raw_54 : decode cd_Mo_raw 54 = .ok (.getfield 115, 3) := by decide +kernel
theorem d_Mo_raw_57 : decode cd_Mo_raw 57 = .ok (.aload_n 0, 1) := by decide +kernel
theorem d_Mo_raw_58 : decode cd_Mo_raw 58 = .ok (.getfield 243, 3) := by decide +kernel
theorem d_Mo_raw_61 : decode cd_Mo_raw 61 = .ok (.iconst 1, 1) := by decide +kernel
theorem d_Mo_raw_62 : decode cd_Mo_raw 62 = .ok (.isub, 1) := by decide +kernel
theorem d_Mo_raw_63 : decode cd_Mo_raw 63 = .ok (.iaload, 1) := by decide +kernel
theorem d_Mo_raw_64 : decode cd_Mo_raw 64 = .ok (.iadd, 1) := by decide +kernel
theorem d_Mo_raw_65 : decode cd_Mo_raw 65 = .ok (.iload_n 1, 1) := by decide +kernel
theorem d_Mo_raw_66 : decode cd_Mo_raw 66 = .ok (.if_icmp .ne 7, 3) := by decide +kernel
theorem d_Mo_raw_69 : decode cd_Mo_raw 69 = .ok (.iconst 1, 1) := by decide +kernel
theorem d_Mo_raw_70 : decode cd_Mo_raw 70 = .ok (.goto 4, 3) := by decide +kernel
theorem d_Mo_raw_73 : decode cd_Mo_raw 73 = .ok (.iconst 0, 1) := by decide +kernel
theorem d_Mo_raw_74 : decode cd_Mo_raw 74 = .ok (.istore_n 3, 1) := by decide +kernel
theorem d_Mo_raw_75 : decode cd_Mo_raw 75 = .ok (.iload_n 3, 1) := by decide +kernel
theorem d_Mo_raw_76 : decode cd_Mo_raw 76 = .ok (.ifCond .eq 28, 3) := by decide +kernel
theorem d_Mo_raw_79 : decode cd_Mo_raw 79 = .ok (.aload_n 0, 1) := by decide +kernel
theorem d_Mo_raw_80 : decode cd_Mo_raw 80 = .ok (.getfield 115, 3) := by decide +kernel
theorem d_Mo_raw_83 : decode cd_Mo_raw 83 = .ok (.aload_n 0, 1) := by decide +kernel
theorem d_Mo_raw_84 : decode cd_Mo_raw 84 = .ok (.getfield 243, 3) := by decide +kernel
theorem d_Mo_raw_87 : decode cd_Mo_raw 87 = .ok (.iconst 1, 1) := by decide +kernel
theorem d_Mo_raw_88 : decode cd_Mo_raw 88 = .ok (.isub, 1) := by decide +kernel
theorem d_Mo_raw_89 : decode cd_Mo_raw 89 = .ok (.aload_n 0, 1) := by decide +kernel
theorem d_Mo_raw_90 : decode cd_Mo_raw 90 = .ok (.getfield 115, 3) := by decide +kernel
theorem d_Mo_raw_93 : decode cd_Mo_raw 93 = .ok (.aload_n 0, 1) := by decide +kernel
theorem d_Mo_raw_94 : decode cd_Mo_raw 94 = .ok (.getfield 243, 3) := by decide +kernel
theorem d_Mo_raw_97 : decode cd_Mo_raw 97 = .ok (.iconst 1, 1) := by decide +kernel
theorem d_Mo_raw_98 : decode cd_Mo_raw 98 = .ok (.isub, 1) := by decide +kernel
theorem d_Mo_raw_99 : decode cd_Mo_raw 99 = .ok (.iaload, 1) := by decide +kernel
theorem d_Mo_raw_100 : decode cd_Mo_raw 100 = .ok (.iload_n 2, 1) := by decide +kernel
theorem d_Mo_raw_101 : decode cd_Mo_raw 101 = .ok (.iadd, 1) := by decide +kernel
theorem d_Mo_raw_102 : decode cd_Mo_raw 102 = .ok (.iastore, 1) := by decide +kernel
theorem d_Mo_raw_103 : decode cd_Mo_raw 103 = .ok (.return_, 1) := by decide +kernel
theorem d_Mo_raw_104 : decode cd_Mo_raw 104 = .ok (.aload_n 0, 1) := by decide +kernel
theorem d_Mo_raw_105 : decode cd_Mo_raw 105 = .ok (.getfield 118, 3) := by decide +kernel
theorem d_Mo_raw_108 : decode cd_Mo_raw 108 = .ok (.aload_n 0, 1) := by decide +kernel
theorem d_Mo_raw_109 : decode cd_Mo_raw 109 = .ok (.getfield 243, 3) := by decide +kernel
theorem d_Mo_raw_112 : decode cd_Mo_raw 112 = .ok (.iload_n 1, 1) := by decide +kernel
theorem d_Mo_raw_113 : decode cd_Mo_raw 113 = .ok (.iastore, 1) := by decide +kernel
theorem d_Mo_raw_114 : decode cd_Mo_raw 114 = .ok (.aload_n 0, 1) := by decide +kernel
theorem d_Mo_raw_115 : decode cd_Mo_raw 115 = .ok (.getfield 115, 3) := by decide +kernel
theorem d_Mo_raw_118 : decode cd_Mo_raw 118 = .ok (.aload_n 0, 1) := by decide +kernel
theorem d_Mo_raw_119 : decode cd_Mo_raw 119 = .ok (.getfield 243, 3) := by decide +kernel
theorem d_Mo_raw_122 : decode cd_Mo_raw 122 = .ok (.iload_n 2, 1) := by decide +kernel
theorem d_Mo_raw_123 : decode cd_Mo_raw 123 = .ok (.iastore, 1) := by decide +kernel
theorem d_Mo_raw_124 : decode cd_Mo_raw 124 = .ok (.aload_n 0, 1) := by decide +kernel
theorem d_Mo_raw_125 : decode cd_Mo_raw 125 = .ok (.dup, 1) := by decide +kernel
theorem d_Mo_raw_126 : decode cd_Mo_raw 126 = .ok (.getfield 243, 3) := by decide +kernel
theorem d_Mo_raw_129 : decode cd_Mo_raw 129 = .ok (.iconst 1, 1) := by decide +kernel
theorem d_Mo_raw_130 : decode cd_Mo_raw 130 = .ok (.iadd, 1) := by decide +kernel
theorem d_Mo_raw_131 : decode cd_Mo_raw 131 = .ok (.putfield 243, 3) := by decide +kernel
theorem d_Mo_raw_134 : decode cd_Mo_raw 134 = .ok (.return_, 1) := by decide +kernel
theorem d_Mo_tell_0 : decode cd_Mo_tell 0 = .ok (.aload_n 0, 1) := by decide +kernel
theorem d_Mo_tell_1 : decode cd_Mo_tell 1 = .ok (.getfield 103, 3) := by decide +kernel
theorem d_Mo_tell_4 : decode cd_Mo_tell 4 = .ok (.aload_n 0, 1) := by decide +kernel
theorem d_Mo_tell_5 : decode cd_Mo_tell 5 = .ok (.getfield 100, 3) := by decide +kernel
theorem d_Mo_tell_8 : decode cd_Mo_tell 8 = .ok (.iload_n 1, 1) := by decide +kernel
theorem d_Mo_tell_9 : decode cd_Mo_tell 9 = .ok (.iastore, 1) := by decide +kernel
theorem d_Mo_tell_10 : decode cd_Mo_tell 10 = .ok (.aload_n 0, 1) := by decide +kernel
theorem d_Mo_tell_11 : decode cd_Mo_tell 11 = .ok (.getfield 106, 3) := by decide +kernel
theorem d_Mo_tell_14 : decode cd_Mo_tell 14 = .ok (.aload_n 0, 1) := by decide +kernel
theorem d_Mo_tell_15 : decode cd_Mo_tell 15 = .ok (.getfield 100, 3) := by decide +kernel
theorem d_Mo_tell_18 : decode cd_Mo_tell 18 = .ok (.iload_n 2, 1) := by decide +kernel
theorem d_Mo_tell_19 : decode cd_Mo_tell 19 = .ok (.iastore, 1) := by decide +kernel
theorem d_Mo_tell_20 : decode cd_Mo_tell 20 = .ok (.aload_n 0, 1) := by decide +kernel
theorem d_Mo_tell_21 : decode cd_Mo_tell 21 = .ok (.getfield 109, 3) := by decide +kernel
theorem d_Mo_tell_24 : decode cd_Mo_tell 24 = .ok (.aload_n 0, 1) := by decide +kernel
theorem d_Mo_tell_25 : decode cd_Mo_tell 25 = .ok (.getfield 100, 3) := by decide +kernel
theorem d_Mo_tell_28 : decode cd_Mo_tell 28 = .ok (.iload_n 3, 1) := by decide +kernel
theorem d_Mo_tell_29 : decode cd_Mo_tell 29 = .ok (.iastore, 1) := by decide +kernel
theorem d_Mo_tell_30 : decode cd_Mo_tell 30 = .ok (.aload_n 0, 1) := by decide +kernel
theorem d_Mo_tell_31 : decode cd_Mo_tell 31 = .ok (.getfield 112, 3) := by decide +kernel
theorem d_Mo_tell_34 : decode cd_Mo_tell 34 = .ok (.aload_n 0, 1) := by decide +kernel
theorem d_Mo_tell_35 : decode cd_Mo_tell 35 = .ok (.getfield 100, 3) := by decide +kernel
theorem d_Mo_tell_38 : decode cd_Mo_tell 38 = .ok (.iload 4, 2) := by decide +kernel
theorem d_Mo_tell_40 : decode cd_Mo_tell 40 = .ok (.iastore, 1) := by decide +kernel
theorem d_Mo_tell_41 : decode cd_Mo_tell 41 = .ok (.aload_n 0, 1) := by decide +kernel
theorem d_Mo_tell_42 : decode cd_Mo_tell 42 = .ok (.dup, 1) := by decide +kernel
theorem d_Mo_tell_43 : decode cd_Mo_tell 43 = .ok (.getfield 100, 3) := by decide +kernel
theorem d_Mo_tell_46 : decode cd_Mo_tell 46 = .ok (.iconst 1, 1) := by decide +kernel
theorem d_Mo_tell_47 : decode cd_Mo_tell 47 = .ok (.iadd, 1) := by decide +kernel
theorem d_Mo_tell_48 : decode cd_Mo_tell 48 = .ok (.putfield 100, 3) := by decide +kernel
theorem d_Mo_tell_51 : decode cd_Mo_tell 51 = .ok (.return_, 1) := by decide +kernel
theorem d_Mo_scan_0 : decode cd_Mo_scan 0 = .ok (.aload_n 0, 1) := by decide +kernel
theorem d_Mo_scan_1 : decode cd_Mo_scan 1 = .ok (.getfield 87, 3) := by decide +kernel
theorem d_Mo_scan_4 : decode cd_Mo_scan 4 = .ok (.ifCond .lt 16, 3) := by decide +kernel
theorem d_Mo_scan_7 : decode cd_Mo_scan 7 = .ok (.iload_n 1, 1) := by decide +kernel
theorem d_Mo_scan_8 : decode cd_Mo_scan 8 = .ok (.bipush 16, 2) := by decide +kernel
theorem d_Mo_scan_10 : decode cd_Mo_scan 10 = .ok (.if_icmp .lt 10, 3) := by decide +kernel
theorem d_Mo_scan_13 : decode cd_Mo_scan 13 = .ok (.iload_n 1, 1) := by decide +kernel
theorem d_Mo_scan_14 : decode cd_Mo_scan 14 = .ok (.sipush 256, 3) := by decide +kernel
theorem d_Mo_scan_17 : decode cd_Mo_scan 17 = .ok (.if_icmp .le 5, 3) := by decide +kernel
theorem d_Mo_scan_20 : decode cd_Mo_scan 20 = .ok (.iconst (-1), 1) := by decide +kernel
theorem d_Mo_scan_21 : decode cd_Mo_scan 21 = .ok (.ireturn, 1) := by decide +kernel
theorem d_Mo_scan_22 : decode cd_Mo_scan 22 = .ok (.aload_n 0, 1) := by decide +kernel
theorem d_Mo_scan_23 : decode cd_Mo_scan 23 = .ok (.iload_n 1, 1) := by decide +kernel
theorem d_Mo_scan_24 : decode cd_Mo_scan 24 = .ok (.putfield 246, 3) := by decide +kernel
theorem d_Mo_scan_27 : decode cd_Mo_scan 27 = .ok (.aload_n 0, 1) := by decide +kernel
theorem d_Mo_scan_28 : decode cd_Mo_scan 28 = .ok (.aload_n 0, 1) := by decide +kernel
theorem d_Mo_scan_29 : decode cd_Mo_scan 29 = .ok (.getfield 87, 3) := by decide +kernel
theorem d_Mo_scan_32 : decode cd_Mo_scan 32 = .ok (.aload_n 0, 1) := by decide +kernel
theorem d_Mo_scan_33 : decode cd_Mo_scan 33 = .ok (.getfield 240, 3) := by decide +kernel
theorem d_Mo_scan_36 : decode cd_Mo_scan 36 = .ok (.imul, 1) := by decide +kernel
theorem d_Mo_scan_37 : decode cd_Mo_scan 37 = .ok (.putfield 249, 3) := by decide +kernel
theorem d_Mo_scan_40 : decode cd_Mo_scan 40 = .ok (.aload_n 0, 1) := by decide +kernel
theorem d_Mo_scan_41 : decode cd_Mo_scan 41 = .ok (.iconst 0, 1) := by decide +kernel
theorem d_Mo_scan_42 : decode cd_Mo_scan 42 = .ok (.putfield 243, 3) := by decide +kernel
theorem d_Mo_scan_45 : decode cd_Mo_scan 45 = .ok (.iconst 0, 1) := by decide +kernel
theorem d_Mo_scan_46 : decode cd_Mo_scan 46 = .ok (.istore_n 2, 1) := by decide +kernel
theorem d_Mo_scan_47 : decode cd_Mo_scan 47 = .ok (.iload_n 2, 1) := by decide +kernel
theorem d_Mo_scan_48 : decode cd_Mo_scan 48 = .ok (.aload_n 0, 1) := by decide +kernel
theorem d_Mo_scan_49 : decode cd_Mo_scan 49 = .ok (.getfield 81, 3) := by decide +kernel
theorem d_Mo_scan_52 : decode cd_Mo_scan 52 = .ok (.iconst 1, 1) := by decide +kernel
theorem d_Mo_scan_53 : decode cd_Mo_scan 53 = .ok (.iaload, 1) := by decide +kernel
theorem d_Mo_scan_54 : decode cd_Mo_scan 54 = .ok (.if_icmp .ge 59, 3) := by decide +kernel
theorem d_Mo_scan_57 : decode cd_Mo_scan 57 = .ok (.aload_n 0, 1) := by decide +kernel
theorem d_Mo_scan_58 : decode cd_Mo_scan 58 = .ok (.iload_n 2, 1) := by decide +kernel
theorem d_Mo_scan_59 : decode cd_Mo_scan 59 = .ok (.invokevirtual 252, 3) := by decide +kernel
theorem d_Mo_scan_62 : decode cd_Mo_scan 62 = .ok (.istore_n 3, 1) := by decide +kernel
theorem d_Mo_scan_63 : decode cd_Mo_scan 63 = .ok (.aload_n 0, 1) := by decide +kernel
theorem d_Mo_scan_64 : decode cd_Mo_scan 64 = .ok (.iload_n 3, 1) := by decide +kernel
theorem d_Mo_scan_65 : decode cd_Mo_scan 65 = .ok (.ifCond .ge 7, 3) := by decide +kernel
theorem d_Mo_scan_68 : decode cd_Mo_scan 68 = .ok (.iconst (-1), 1) := by decide +kernel
theorem d_Mo_scan_69 : decode cd_Mo_scan 69 = .ok (.goto 9, 3) := by decide +kernel
theorem d_Mo_scan_72 : decode cd_Mo_scan 72 = .ok (.iload_n 3, 1) := by decide +kernel
theorem d_Mo_scan_73 : decode cd_Mo_scan 73 = .ok (.aload_n 0, 1) := by decide +kernel
theorem d_Mo_scan_74 : decode cd_Mo_scan 74 = .ok (.getfield 240, 3) := by decide +kernel
theorem d_Mo_scan_77 : decode cd_Mo_scan 77 = .ok (.imul, 1) := by decide +kernel
theorem d_Mo_scan_78 : decode cd_Mo_scan 78 = .ok (.iload_n 3, 1) := by decide +kernel
theorem d_Mo_scan_79 : decode cd_Mo_scan 79 = .ok (.ifCond .ge 7, 3) := by decide +kernel
theorem d_Mo_scan_82 : decode cd_Mo_scan 82 = .ok (.iconst 1, 1) := by decide +kernel
theorem d_Mo_scan_83 : decode cd_Mo_scan 83 = .ok (.goto 7, 3) := by decide +kernel
theorem d_Mo_scan_86 : decode cd_Mo_scan 86 = .ok (.aload_n 0, 1) := by decide +kernel
theorem d_Mo_scan_87 : decode cd_Mo_scan 87 = .ok (.getfield 240, 3) := by decide +kernel
theorem d_Mo_scan_90 : decode cd_Mo_scan 90 = .ok (.invokevirtual 255, 3) := by decide +kernel
theorem d_Mo_scan_93 : decode cd_Mo_scan 93 = .ok (.iload_n 3, 1) := by decide +kernel
theorem d_Mo_scan_94 : decode cd_Mo_scan 94 = .ok (.ifCond .ge 9, 3) := by decide +kernel
theorem d_Mo_scan_97 : decode cd_Mo_scan 97 = .ok (.iload_n 2, 1) := by decide +kernel
theorem d_Mo_scan_98 : decode cd_Mo_scan 98 = .ok (.iconst 1, 1) := by decide +kernel
theorem d_Mo_scan_99 : decode cd_Mo_scan 99 = .ok (.iadd, 1) := by decide +kernel
theorem d_Mo_scan_100 : decode cd_Mo_scan 100 = .ok (.goto 9, 3) := by decide +kernel
theorem d_Mo_scan_103 : decode cd_Mo_scan 103 = .ok (.iload_n 2, 1) := by decide +kernel
theorem d_Mo_scan_104 : decode cd_Mo_scan 104 = .ok (.aload_n 0, 1) := by decide +kernel
theorem d_Mo_scan_105 : decode cd_Mo_scan 105 = .ok (.getfield 240, 3) := by decide +kernel
theorem d_Mo_scan_108 : decode cd_Mo_scan 108 = .ok (.iadd, 1) := by decide +kernel
theorem d_Mo_scan_109 : decode cd_Mo_scan 109 = .ok (.istore_n 2, 1) := by decide +kernel
theorem d_Mo_scan_110 : decode cd_Mo_scan 110 = .ok (.goto (-63), 3) := by decide +kernel
theorem d_Mo_scan_113 : decode cd_Mo_scan 113 = .ok (.aload_n 0, 1) := by decide +kernel
theorem d_Mo_scan_114 : decode cd_Mo_scan 114 = .ok (.iconst 0, 1) := by decide +kernel
theorem d_Mo_scan_115 : decode cd_Mo_scan 115 = .ok (.putfield 100, 3) := by decide +kernel
theorem d_Mo_scan_118 : decode cd_Mo_scan 118 = .ok (.iconst 0, 1) := by decide +kernel
theorem d_Mo_scan_119 : decode cd_Mo_scan 119 = .ok (.istore_n 2, 1) := by decide +kernel
theorem d_Mo_scan_120 : decode cd_Mo_scan 120 = .ok (.iconst 0, 1) := by decide +kernel
theorem d_Mo_scan_121 : decode cd_Mo_scan 121 = .ok (.istore_n 3, 1) := by decide +kernel
theorem d_Mo_scan_122 : decode cd_Mo_scan 122 = .ok (.iload_n 3, 1) := by decide +kernel
theorem d_Mo_scan_123 : decode cd_Mo_scan 123 = .ok (.aload_n 0, 1) := by decide +kernel
theorem d_Mo_scan_124 : decode cd_Mo_scan 124 = .ok (.getfield 243, 3) := by decide +kernel
theorem d_Mo_scan_127 : decode cd_Mo_scan 127 = .ok (.if_icmp .ge 121, 3) := by decide +kernel
theorem d_Mo_scan_130 : decode cd_Mo_scan 130 = .ok (.aload_n 0, 1) := by decide +kernel
theorem d_Mo_scan_131 : decode cd_Mo_scan 131 = .ok (.getfield 115, 3) := by decide +kernel
theorem d_Mo_scan_134 : decode cd_Mo_scan 134 = .ok (.iload_n 3, 1) := by decide +kernel
theorem d_Mo_scan_135 : decode cd_Mo_scan 135 = .ok (.iaload, 1) := by decide +kernel
theorem d_Mo_scan_136 : decode cd_Mo_scan 136 = .ok (.istore 4, 2) := by decide +kernel
theorem d_Mo_scan_138 : decode cd_Mo_scan 138 = .ok (.iload 4, 2) := by decide +kernel
theorem d_Mo_scan_140 : decode cd_Mo_scan 140 = .ok (.ifCond .le 102, 3) := by decide +kernel
theorem d_Mo_scan_143 : decode cd_Mo_scan 143 = .ok (.aload_n 0, 1) := by decide +kernel
theorem d_Mo_scan_144 : decode cd_Mo_scan 144 = .ok (.getfield 246, 3) := by decide +kernel
theorem d_Mo_scan_147 : decode cd_Mo_scan 147 = .ok (.iload_n 2, 1) := by decide +kernel
theorem d_Mo_scan_148 : decode cd_Mo_scan 148 = .ok (.aload_n 0, 1) := by decide +kernel
theorem d_Mo_scan_149 : decode cd_Mo_scan 149 = .ok (.getfield 246, 3) := by decide +kernel
theorem d_Mo_scan_152 : decode cd_Mo_scan 152 = .ok (.irem, 1) := by decide +kernel
theorem d_Mo_scan_153 : decode cd_Mo_scan 153 = .ok (.isub, 1) := by decide +kernel
theorem d_Mo_scan_154 : decode cd_Mo_scan 154 = .ok (.istore 5, 2) := by decide +kernel
theorem d_Mo_scan_156 : decode cd_Mo_scan 156 = .ok (.iload 4, 2) := by decide +kernel
theorem d_Mo_scan_158 : decode cd_Mo_scan 158 = .ok (.iload 5, 2) := by decide +kernel
theorem d_Mo_scan_160 : decode cd_Mo_scan 160 = .ok (.if_icmp .ge 8, 3) := by decide +kernel
theorem d_Mo_scan_163 : decode cd_Mo_scan 163 = .ok (.iload 4, 2) := by decide +kernel
theorem d_Mo_scan_165 : decode cd_Mo_scan 165 = .ok (.goto 5, 3) := by decide +kernel
theorem d_Mo_scan_168 : decode cd_Mo_scan 168 = .ok (.iload 5, 2) := by decide +kernel
theorem d_Mo_scan_170 : decode cd_Mo_scan 170 = .ok (.istore 6, 2) := by decide +kernel
theorem d_Mo_scan_172 : decode cd_Mo_scan 172 = .ok (.aload_n 0, 1) := by decide +kernel
theorem d_Mo_scan_173 : decode cd_Mo_scan 173 = .ok (.aload_n 0, 1) := by decide +kernel
theorem d_Mo_scan_174 : decode cd_Mo_scan 174 = .ok (.getfield 118, 3) := by decide +kernel
theorem d_Mo_scan_177 : decode cd_Mo_scan 177 = .ok (.iload_n 3, 1) := by decide +kernel
theorem d_Mo_scan_178 : decode cd_Mo_scan 178 = .ok (.iaload, 1) := by decide +kernel
theorem d_Mo_scan_179 : decode cd_Mo_scan 179 = .ok (.ifCond .ge 7, 3) := by decide +kernel
theorem d_Mo_scan_182 : decode cd_Mo_scan 182 = .ok (.iconst 1, 1) := by decide +kernel
theorem d_Mo_scan_183 : decode cd_Mo_scan 183 = .ok (.goto 4, 3) := by decide +kernel
theorem d_Mo_scan_186 : decode cd_Mo_scan 186 = .ok (.iconst 3, 1) := by decide +kernel
theorem d_Mo_scan_187 : decode cd_Mo_scan 187 = .ok (.iload 6, 2) := by decide +kernel
theorem d_Mo_scan_189 : decode cd_Mo_scan 189 = .ok (.aload_n 0, 1) := by decide +kernel
theorem d_Mo_scan_190 : decode cd_Mo_scan 190 = .ok (.getfield 118, 3) := by decide +kernel
theorem d_Mo_scan_193 : decode cd_Mo_scan 193 = .ok (.iload_n 3, 1) := by decide +kernel
theorem d_Mo_scan_194 : decode cd_Mo_scan 194 = .ok (.iaload, 1) := by decide +kernel
theorem d_Mo_scan_195 : decode cd_Mo_scan 195 = .ok (.ifCond .ge 7, 3) := by decide +kernel
theorem d_Mo_scan_198 : decode cd_Mo_scan 198 = .ok (.iconst (-1), 1) := by decide +kernel
theorem d_Mo_scan_199 : decode cd_Mo_scan 199 = .ok (.goto 19, 3) := by decide +kernel
theorem d_Mo_scan_202 : decode cd_Mo_scan 202 = .ok (.aload_n 0, 1) := by decide +kernel
theorem d_Mo_scan_203 : decode cd_Mo_scan 203 = .ok (.getfield 118, 3) := by decide +kernel
theorem d_Mo_scan_206 : decode cd_Mo_scan 206 = .ok (.iload_n 3, 1) := by decide +kernel
theorem d_Mo_scan_207 : decode cd_Mo_scan 207 = .ok (.iaload, 1) := by decide +kernel
theorem d_Mo_scan_208 : decode cd_Mo_scan 208 = .ok (.aload_n 0, 1) := by decide +kernel
theorem d_Mo_scan_209 : decode cd_Mo_scan 209 = .ok (.getfield 115, 3) := by decide +kernel
theorem d_Mo_scan_212 : decode cd_Mo_scan 212 = .ok (.iload_n 3, 1) := by decide +kernel
theorem d_Mo_scan_213 : decode cd_Mo_scan 213 = .ok (.iaload, 1) := by decide +kernel
theorem d_Mo_scan_214 : decode cd_Mo_scan 214 = .ok (.iadd, 1) := by decide +kernel
theorem d_Mo_scan_215 : decode cd_Mo_scan 215 = .ok (.iload 4, 2) := by decide +kernel
theorem d_Mo_scan_217 : decode cd_Mo_scan 217 = .ok (.isub, 1) := by decide +kernel
theorem d_Mo_scan_218 : decode cd_Mo_scan 218 = .ok (.iload_n 2, 1) := by decide +kernel
theorem d_Mo_scan_219 : decode cd_Mo_scan 219 = .ok (.aload_n 0, 1) := by decide +kernel
theorem d_Mo_scan_220 : decode cd_Mo_scan 220 = .ok (.getfield 246, 3) := by decide +kernel
theorem d_Mo_scan_223 : decode cd_Mo_scan 223 = .ok (.idiv, 1) := by decide +kernel
theorem d_Mo_scan_224 : decode cd_Mo_scan 224 = .ok (.invokevirtual 258, 3) := by decide +kernel
theorem d_Mo_scan_227 : decode cd_Mo_scan 227 = .ok (.iload 4, 2) := by decide +kernel
theorem d_Mo_scan_229 : decode cd_Mo_scan 229 = .ok (.iload 6, 2) := by decide +kernel
theorem d_Mo_scan_231 : decode cd_Mo_scan 231 = .ok (.isub, 1) := by decide +kernel
theorem d_Mo_scan_232 : decode cd_Mo_scan 232 = .ok (.istore 4, 2) := by decide +kernel
theorem d_Mo_scan_234 : decode cd_Mo_scan 234 = .ok (.iload_n 2, 1) := by decide +kernel
theorem d_Mo_scan_235 : decode cd_Mo_scan 235 = .ok (.iload 6, 2) := by decide +kernel
theorem d_Mo_scan_237 : decode cd_Mo_scan 237 = .ok (.iadd, 1) := by decide +kernel
theorem d_Mo_scan_238 : decode cd_Mo_scan 238 = .ok (.istore_n 2, 1) := by decide +kernel
theorem d_Mo_scan_239 : decode cd_Mo_scan 239 = .ok (.goto (-101), 3) := by decide +kernel
theorem d_Mo_scan_242 : decode cd_Mo_scan 242 = .ok (.iinc 3 1, 3) := by decide +kernel
theorem d_Mo_scan_245 : decode cd_Mo_scan 245 = .ok (.goto (-123), 3) := by decide +kernel
theorem d_Mo_scan_248 : decode cd_Mo_scan 248 = .ok (.aload_n 0, 1) := by decide +kernel
theorem d_Mo_scan_249 : decode cd_Mo_scan 249 = .ok (.getfield 100, 3) := by decide +kernel
theorem d_Mo_scan_252 : decode cd_Mo_scan 252 = .ok (.ireturn, 1) := by decide +kernel
theorem d_Mo_both_0 : decode cd_Mo_both 0 = .ok (.iload_n 1, 1) := by decide +kernel
theorem d_Mo_both_1 : decode cd_Mo_both 1 = .ok (.aload_n 0, 1) := by decide +kernel
theorem d_Mo_both_2 : decode cd_Mo_both 2 = .ok (.getfield 249, 3) := by decide +kernel
theorem d_Mo_both_5 : decode cd_Mo_both 5 = .ok (.if_icmp .ge 12, 3) := by decide +kernel
theorem d_Mo_both_8 : decode cd_Mo_both 8 = .ok (.aload_n 0, 1) := by decide +kernel
theorem d_Mo_both_9 : decode cd_Mo_both 9 = .ok (.getfield 77, 3) := by decide +kernel
theorem d_Mo_both_12 : decode cd_Mo_both 12 = .ok (.iload_n 1, 1) := by decide +kernel
theorem d_Mo_both_13 : decode cd_Mo_both 13 = .ok (.iaload, 1) := by decide +kernel
theorem d_Mo_both_14 : decode cd_Mo_both 14 = .ok (.goto 20, 3) := by decide +kernel
theorem d_Mo_both_17 : decode cd_Mo_both 17 = .ok (.aload_n 0, 1) := by decide +kernel
theorem d_Mo_both_18 : decode cd_Mo_both 18 = .ok (.getfield 77, 3) := by decide +kernel
theorem d_Mo_both_21 : decode cd_Mo_both 21 = .ok (.sipush 300, 3) := by decide +kernel
theorem d_Mo_both_24 : decode cd_Mo_both 24 = .ok (.iload_n 2, 1) := by decide +kernel
theorem d_Mo_both_25 : decode cd_Mo_both 25 = .ok (.iadd, 1) := by decide +kernel
theorem d_Mo_both_26 : decode cd_Mo_both 26 = .ok (.iload_n 1, 1) := by decide +kernel
theorem d_Mo_both_27 : decode cd_Mo_both 27 = .ok (.iadd, 1) := by decide +kernel
theorem d_Mo_both_28 : decode cd_Mo_both 28 = .ok (.aload_n 0, 1) := by decide +kernel
theorem d_Mo_both_29 : decode cd_Mo_both 29 = .ok (.getfield 249, 3) := by decide +kernel
theorem d_Mo_both_32 : decode cd_Mo_both 32 = .ok (.isub, 1) := by decide +kernel
theorem d_Mo_both_33 : decode cd_Mo_both 33 = .ok (.iaload, 1) := by decide +kernel
theorem d_Mo_both_34 : decode cd_Mo_both 34 = .ok (.ireturn, 1) := by decide +kernel
theorem d_Mo_matched_0 : decode cd_Mo_matched 0 = .ok (.iconst 0, 1) := by decide +kernel
theorem d_Mo_matched_1 : decode cd_Mo_matched 1 = .ok (.istore 5, 2) := by decide +kernel
theorem d_Mo_matched_3 : decode cd_Mo_matched 3 = .ok (.iload_n 2, 1) := by decide +kernel
theorem d_Mo_matched_4 : decode cd_Mo_matched 4 = .ok (.iload 5, 2) := by decide +kernel
theorem d_Mo_matched_6 : decode cd_Mo_matched 6 = .ok (.iadd, 1) := by decide +kernel
theorem d_Mo_matched_7 : decode cd_Mo_matched 7 = .ok (.iload 4, 2) := by decide +kernel
theorem d_Mo_matched_9 : decode cd_Mo_matched 9 = .ok (.if_icmp .ge 34, 3) := by decide +kernel
theorem d_Mo_matched_12 : decode cd_Mo_matched 12 = .ok (.aload_n 0, 1) := by decide +kernel
theorem d_Mo_matched_13 : decode cd_Mo_matched 13 = .ok (.iload_n 1, 1) := by decide +kernel
theorem d_Mo_matched_14 : decode cd_Mo_matched 14 = .ok (.iload 5, 2) := by decide +kernel
theorem d_Mo_matched_16 : decode cd_Mo_matched 16 = .ok (.iadd, 1) := by decide +kernel
theorem d_Mo_matched_17 : decode cd_Mo_matched 17 = .ok (.iload_n 3, 1) := by decide +kernel
theorem d_Mo_matched_18 : decode cd_Mo_matched 18 = .ok (.invokevirtual 261, 3) := by decide +kernel
theorem d_Mo_matched_21 : decode cd_Mo_matched 21 = .ok (.aload_n 0, 1) := by decide +kernel
theorem d_Mo_matched_22 : decode cd_Mo_matched 22 = .ok (.getfield 77, 3) := by decide +kernel
theorem d_Mo_matched_25 : decode cd_Mo_matched 25 = .ok (.sipush 300, 3) := by decide +kernel
theorem d_Mo_matched_28 : decode cd_Mo_matched 28 = .ok (.iload_n 2, 1) := by decide +kernel
theorem d_Mo_matched_29 : decode cd_Mo_matched 29 = .ok (.iadd, 1) := by decide +kernel
theorem d_Mo_matched_30 : decode cd_Mo_matched 30 = .ok (.iload 5, 2) := by decide +kernel
theorem d_Mo_matched_32 : decode cd_Mo_matched 32 = .ok (.iadd, 1) := by decide +kernel
theorem d_Mo_matched_33 : decode cd_Mo_matched 33 = .ok (.iaload, 1) := by decide +kernel
theorem d_Mo_matched_34 : decode cd_Mo_matched 34 = .ok (.if_icmp .ne 9, 3) := by decide +kernel
theorem d_Mo_matched_37 : decode cd_Mo_matched 37 = .ok (.iinc 5 1, 3) := by decide +kernel
theorem d_Mo_matched_40 : decode cd_Mo_matched 40 = .ok (.goto (-37), 3) := by decide +kernel
theorem d_Mo_matched_43 : decode cd_Mo_matched 43 = .ok (.iload 5, 2) := by decide +kernel
theorem d_Mo_matched_45 : decode cd_Mo_matched 45 = .ok (.ireturn, 1) := by decide +kernel
theorem d_Mo_bestMatch_0 : decode cd_Mo_bestMatch 0 = .ok (.iconst 0, 1) := by decide +kernel
theorem d_Mo_bestMatch_1 : decode cd_Mo_bestMatch 1 = .ok (.istore 5, 2) := by decide +kernel
theorem d_Mo_bestMatch_3 : decode cd_Mo_bestMatch 3 = .ok (.iconst 0, 1) := by decide +kernel
theorem d_Mo_bestMatch_4 : decode cd_Mo_bestMatch 4 = .ok (.istore 6, 2) := by decide +kernel
theorem d_Mo_bestMatch_6 : decode cd_Mo_bestMatch 6 = .ok (.aload_n 0, 1) := by decide +kernel
theorem d_Mo_bestMatch_7 : decode cd_Mo_bestMatch 7 = .ok (.getfield 249, 3) := by decide +kernel
theorem d_Mo_bestMatch_10 : decode cd_Mo_bestMatch 10 = .ok (.iload_n 1, 1) := by decide +kernel
theorem d_Mo_bestMatch_11 : decode cd_Mo_bestMatch 11 = .ok (.iadd, 1) := by decide +kernel
theorem d_Mo_bestMatch_12 : decode cd_Mo_bestMatch 12 = .ok (.iload_n 2, 1) := by decide +kernel
theorem d_Mo_bestMatch_13 : decode cd_Mo_bestMatch 13 = .ok (.isub, 1) := by decide +kernel
theorem d_Mo_bestMatch_14 : decode cd_Mo_bestMatch 14 = .ok (.iconst 1, 1) := by decide +kernel
theorem d_Mo_bestMatch_15 : decode cd_Mo_bestMatch 15 = .ok (.isub, 1) := by decide +kernel
theorem d_Mo_bestMatch_16 : decode cd_Mo_bestMatch 16 = .ok (.istore 7, 2) := by decide +kernel
theorem d_Mo_bestMatch_18 : decode cd_Mo_bestMatch 18 = .ok (.iload 7, 2) := by decide +kernel
theorem d_Mo_bestMatch_20 : decode cd_Mo_bestMatch 20 = .ok (.ifCond .lt 149, 3) := by decide +kernel
theorem d_Mo_bestMatch_23 : decode cd_Mo_bestMatch 23 = .ok (.iload 6, 2) := by decide +kernel
theorem d_Mo_bestMatch_25 : decode cd_Mo_bestMatch 25 = .ok (.iload 4, 2) := by decide +kernel
theorem d_Mo_bestMatch_27 : decode cd_Mo_bestMatch 27 = .ok (.if_icmp .ge 142, 3) := by decide +kernel
theorem d_Mo_bestMatch_30 : decode cd_Mo_bestMatch 30 = .ok (.iload_n 1, 1) := by decide +kernel
theorem d_Mo_bestMatch_31 : decode cd_Mo_bestMatch 31 = .ok (.iconst 4, 1) := by decide +kernel
theorem d_Mo_bestMatch_32 : decode cd_Mo_bestMatch 32 = .ok (.iadd, 1) := by decide +kernel
theorem d_Mo_bestMatch_33 : decode cd_Mo_bestMatch 33 = .ok (.iload_n 3, 1) := by decide +kernel
theorem d_Mo_bestMatch_34 : decode cd_Mo_bestMatch 34 = .ok (.if_icmp .gt 135, 3) := by decide +kernel
theorem d_Mo_bestMatch_37 : decode cd_Mo_bestMatch 37 = .ok (.iload 7, 2) := by decide +kernel
theorem d_Mo_bestMatch_39 : decode cd_Mo_bestMatch 39 = .ok (.aload_n 0, 1) := by decide +kernel
theorem d_Mo_bestMatch_40 : decode cd_Mo_bestMatch 40 = .ok (.getfield 249, 3) := by decide +kernel
theorem d_Mo_bestMatch_43 : decode cd_Mo_bestMatch 43 = .ok (.if_icmp .ge 14, 3) := by decide +kernel
theorem d_Mo_bestMatch_46 : decode cd_Mo_bestMatch 46 = .ok (.iload 7, 2) := by decide +kernel
theorem d_Mo_bestMatch_48 : decode cd_Mo_bestMatch 48 = .ok (.iconst 4, 1) := by decide +kernel
theorem d_Mo_bestMatch_49 : decode cd_Mo_bestMatch 49 = .ok (.iadd, 1) := by decide +kernel
theorem d_Mo_bestMatch_50 : decode cd_Mo_bestMatch 50 = .ok (.aload_n 0, 1) := by decide +kernel
theorem d_Mo_bestMatch_51 : decode cd_Mo_bestMatch 51 = .ok (.getfield 249, 3) := by decide +kernel
theorem d_Mo_bestMatch_54 : decode cd_Mo_bestMatch 54 = .ok (.if_icmp .gt 7, 3) := by decide +kernel
theorem d_Mo_bestMatch_57 : decode cd_Mo_bestMatch 57 = .ok (.iconst 1, 1) := by decide +kernel
theorem d_Mo_bestMatch_58 : decode cd_Mo_bestMatch 58 = .ok (.goto 4, 3) := by decide +kernel
theorem d_Mo_bestMatch_61 : decode cd_Mo_bestMatch 61 = .ok (.iconst 0, 1) := by decide +kernel
theorem d_Mo_bestMatch_62 : decode cd_Mo_bestMatch 62 = .ok (.istore 8, 2) := by decide +kernel
theorem d_Mo_bestMatch_64 : decode cd_Mo_bestMatch 64 = .ok (.iconst 0, 1) := by decide +kernel
theorem d_Mo_bestMatch_65 : decode cd_Mo_bestMatch 65 = .ok (.istore 9, 2) := by decide +kernel
theorem d_Mo_bestMatch_67 : decode cd_Mo_bestMatch 67 = .ok (.iload 9, 2) := by decide +kernel
theorem d_Mo_bestMatch_69 : decode cd_Mo_bestMatch 69 = .ok (.iconst 4, 1) := by decide +kernel
theorem d_Mo_bestMatch_70 : decode cd_Mo_bestMatch 70 = .ok (.if_icmp .ge 47, 3) := by decide +kernel
theorem d_Mo_bestMatch_73 : decode cd_Mo_bestMatch 73 = .ok (.iload 8, 2) := by decide +kernel
theorem d_Mo_bestMatch_75 : decode cd_Mo_bestMatch 75 = .ok (.ifCond .eq 42, 3) := by decide +kernel
theorem d_Mo_bestMatch_78 : decode cd_Mo_bestMatch 78 = .ok (.aload_n 0, 1) := by decide +kernel
theorem d_Mo_bestMatch_79 : decode cd_Mo_bestMatch 79 = .ok (.iload 7, 2) := by decide +kernel
theorem d_Mo_bestMatch_81 : decode cd_Mo_bestMatch 81 = .ok (.iload 9, 2) := by decide +kernel
theorem d_Mo_bestMatch_83 : decode cd_Mo_bestMatch 83 = .ok (.iadd, 1) := by decide +kernel
theorem d_Mo_bestMatch_84 : decode cd_Mo_bestMatch 84 = .ok (.iload_n 2, 1) := by decide +kernel
theorem d_Mo_bestMatch_85 : decode cd_Mo_bestMatch 85 = .ok (.invokevirtual 261, 3) := by decide +kernel
theorem d_Mo_bestMatch_88 : decode cd_Mo_bestMatch 88 = .ok (.aload_n 0, 1) := by decide +kernel
theorem d_Mo_bestMatch_89 : decode cd_Mo_bestMatch 89 = .ok (.getfield 77, 3) := by decide +kernel
theorem d_Mo_bestMatch_92 : decode cd_Mo_bestMatch 92 = .ok (.sipush 300, 3) := by decide +kernel
theorem d_Mo_bestMatch_95 : decode cd_Mo_bestMatch 95 = .ok (.iload_n 1, 1) := by decide +kernel
theorem d_Mo_bestMatch_96 : decode cd_Mo_bestMatch 96 = .ok (.iadd, 1) := by decide +kernel
theorem d_Mo_bestMatch_97 : decode cd_Mo_bestMatch 97 = .ok (.iload 9, 2) := by decide +kernel
theorem d_Mo_bestMatch_99 : decode cd_Mo_bestMatch 99 = .ok (.iadd, 1) := by decide +kernel
theorem d_Mo_bestMatch_100 : decode cd_Mo_bestMatch 100 = .ok (.iaload, 1) := by decide +kernel
theorem d_Mo_bestMatch_101 : decode cd_Mo_bestMatch 101 = .ok (.if_icmp .ne 7, 3) := by decide +kernel
theorem d_Mo_bestMatch_104 : decode cd_Mo_bestMatch 104 = .ok (.iconst 1, 1) := by decide +kernel
theorem d_Mo_bestMatch_105 : decode cd_Mo_bestMatch 105 = .ok (.goto 4, 3) := by decide +kernel
theorem d_Mo_bestMatch_108 : decode cd_Mo_bestMatch 108 = .ok (.iconst 0, 1) := by decide +kernel
theorem d_Mo_bestMatch_109 : decode cd_Mo_bestMatch 109 = .ok (.istore 8, 2) := by decide +kernel
theorem d_Mo_bestMatch_111 : decode cd_Mo_bestMatch 111 = .ok (.iinc 9 1, 3) := by decide +kernel
theorem d_Mo_bestMatch_114 : decode cd_Mo_bestMatch 114 = .ok (.goto (-47), 3) := by decide +kernel
theorem d_Mo_bestMatch_117 : decode cd_Mo_bestMatch 117 = .ok (.iload 8, 2) := by decide +kernel
theorem d_Mo_bestMatch_119 : decode cd_Mo_bestMatch 119 = .ok (.ifCond .eq 44, 3) := by decide +kernel
theorem d_Mo_bestMatch_122 : decode cd_Mo_bestMatch 122 = .ok (.iinc 6 1, 3) := by decide +kernel
theorem d_Mo_bestMatch_125 : decode cd_Mo_bestMatch 125 = .ok (.aload_n 0, 1) := by decide +kernel
theorem d_Mo_bestMatch_126 : decode cd_Mo_bestMatch 126 = .ok (.iload 7, 2) := by decide +kernel
theorem d_Mo_bestMatch_128 : decode cd_Mo_bestMatch 128 = .ok (.iload_n 1, 1) := by decide +kernel
theorem d_Mo_bestMatch_129 : decode cd_Mo_bestMatch 129 = .ok (.iload_n 2, 1) := by decide +kernel
theorem d_Mo_bestMatch_130 : decode cd_Mo_bestMatch 130 = .ok (.iload_n 3, 1) := by decide +kernel
theorem d_Mo_bestMatch_131 : decode cd_Mo_bestMatch 131 = .ok (.invokevirtual 265, 3) := by decide +kernel
theorem d_Mo_bestMatch_134 : decode cd_Mo_bestMatch 134 = .ok (.istore 9, 2) := by decide +kernel
theorem d_Mo_bestMatch_136 : decode cd_Mo_bestMatch 136 = .ok (.iload 9, 2) := by decide +kernel
theorem d_Mo_bestMatch_138 : decode cd_Mo_bestMatch 138 = .ok (.iload 5, 2) := by decide +kernel
theorem d_Mo_bestMatch_140 : decode cd_Mo_bestMatch 140 = .ok (.sipush 1000, 3) := by decide +kernel
theorem d_Mo_bestMatch_143 : decode cd_Mo_bestMatch 143 = .ok (.irem, 1) := by decide +kernel
theorem d_Mo_bestMatch_144 : decode cd_Mo_bestMatch 144 = .ok (.if_icmp .le 15, 3) := by decide +kernel
theorem d_Mo_bestMatch_147 : decode cd_Mo_bestMatch 147 = .ok (.sipush 1000, 3) := by decide +kernel
theorem d_Mo_bestMatch_150 : decode cd_Mo_bestMatch 150 = .ok (.iload 7, 2) := by decide +kernel
theorem d_Mo_bestMatch_152 : decode cd_Mo_bestMatch 152 = .ok (.imul, 1) := by decide +kernel
theorem d_Mo_bestMatch_153 : decode cd_Mo_bestMatch 153 = .ok (.iload 9, 2) := by decide +kernel
theorem d_Mo_bestMatch_155 : decode cd_Mo_bestMatch 155 = .ok (.iadd, 1) := by decide +kernel
theorem d_Mo_bestMatch_156 : decode cd_Mo_bestMatch 156 = .ok (.goto 5, 3) := by decide +kernel
theorem d_Mo_bestMatch_159 : decode cd_Mo_bestMatch 159 = .ok (.iload 5, 2) := by decide +kernel
theorem d_Mo_bestMatch_161 : decode cd_Mo_bestMatch 161 = .ok (.istore 5, 2) := by decide +kernel
theorem d_Mo_bestMatch_163 : decode cd_Mo_bestMatch 163 = .ok (.iinc 7 (-1), 3) := by decide +kernel
theorem d_Mo_bestMatch_166 : decode cd_Mo_bestMatch 166 = .ok (.goto (-148), 3) := by decide +kernel
theorem d_Mo_bestMatch_169 : decode cd_Mo_bestMatch 169 = .ok (.iload 5, 2) := by decide +kernel
theorem d_Mo_bestMatch_171 : decode cd_Mo_bestMatch 171 = .ok (.ireturn, 1) := by decide +kernel
theorem d_Mo_isAdding_0 : decode cd_Mo_isAdding 0 = .ok (.aload_n 0, 1) := by decide +kernel
theorem d_Mo_isAdding_1 : decode cd_Mo_isAdding 1 = .ok (.getfield 100, 3) := by decide +kernel
theorem d_Mo_isAdding_4 : decode cd_Mo_isAdding 4 = .ok (.ifCond .le 37, 3) := by decide +kernel
theorem d_Mo_isAdding_7 : decode cd_Mo_isAdding 7 = .ok (.aload_n 0, 1) := by decide +kernel
theorem d_Mo_isAdding_8 : decode cd_Mo_isAdding 8 = .ok (.getfield 103, 3) := by decide +kernel
theorem d_Mo_isAdding_11 : decode cd_Mo_isAdding 11 = .ok (.aload_n 0, 1) := by decide +kernel
theorem d_Mo_isAdding_12 : decode cd_Mo_isAdding 12 = .ok (.getfield 100, 3) := by decide +kernel
theorem d_Mo_isAdding_15 : decode cd_Mo_isAdding 15 = .ok (.iconst 1, 1) := by decide +kernel
theorem d_Mo_isAdding_16 : decode cd_Mo_isAdding 16 = .ok (.isub, 1) := by decide +kernel
theorem d_Mo_isAdding_17 : decode cd_Mo_isAdding 17 = .ok (.iaload, 1) := by decide +kernel
theorem d_Mo_isAdding_18 : decode cd_Mo_isAdding 18 = .ok (.iconst 1, 1) := by decide +kernel
theorem d_Mo_isAdding_19 : decode cd_Mo_isAdding 19 = .ok (.if_icmp .ne 22, 3) := by decide +kernel
theorem d_Mo_isAdding_22 : decode cd_Mo_isAdding 22 = .ok (.aload_n 0, 1) := by decide +kernel
theorem d_Mo_isAdding_23 : decode cd_Mo_isAdding 23 = .ok (.getfield 112, 3) := by decide +kernel
theorem d_Mo_isAdding_26 : decode cd_Mo_isAdding 26 = .ok (.aload_n 0, 1) := by decide +kernel
theorem d_Mo_isAdding_27 : decode cd_Mo_isAdding 27 = .ok (.getfield 100, 3) := by decide +kernel
theorem d_Mo_isAdding_30 : decode cd_Mo_isAdding 30 = .ok (.iconst 1, 1) := by decide +kernel
theorem d_Mo_isAdding_31 : decode cd_Mo_isAdding 31 = .ok (.isub, 1) := by decide +kernel
theorem d_Mo_isAdding_32 : decode cd_Mo_isAdding 32 = .ok (.iaload, 1) := by decide +kernel
theorem d_Mo_isAdding_33 : decode cd_Mo_isAdding 33 = .ok (.iload_n 1, 1) := by decide +kernel
theorem d_Mo_isAdding_34 : decode cd_Mo_isAdding 34 = .ok (.if_icmp .ne 7, 3) := by decide +kernel
theorem d_Mo_isAdding_37 : decode cd_Mo_isAdding 37 = .ok (.iconst 1, 1) := by decide +kernel
theorem d_Mo_isAdding_38 : decode cd_Mo_isAdding 38 = .ok (.goto 4, 3) := by decide +kernel
theorem d_Mo_isAdding_41 : decode cd_Mo_isAdding 41 = .ok (.iconst 0, 1) := by decide +kernel
theorem d_Mo_isAdding_42 : decode cd_Mo_isAdding 42 = .ok (.ireturn, 1) := by decide +kernel
theorem d_Mo_copyBack_0 : decode cd_Mo_copyBack 0 = .ok (.iload_n 3, 1) := by decide +kernel
theorem d_Mo_copyBack_1 : decode cd_Mo_copyBack 1 = .ok (.aload_n 0, 1) := by decide +kernel
theorem d_Mo_copyBack_2 : decode cd_Mo_copyBack 2 = .ok (.getfield 246, 3) := by decide +kernel
theorem d_Mo_copyBack_5 : decode cd_Mo_copyBack 5 = .ok (.idiv, 1) := by decide +kernel
theorem d_Mo_copyBack_6 : decode cd_Mo_copyBack 6 = .ok (.istore 4, 2) := by decide +kernel
theorem d_Mo_copyBack_8 : decode cd_Mo_copyBack 8 = .ok (.iload_n 1, 1) := by decide +kernel
theorem d_Mo_copyBack_9 : decode cd_Mo_copyBack 9 = .ok (.sipush 1000, 3) := by decide +kernel
theorem d_Mo_copyBack_12 : decode cd_Mo_copyBack 12 = .ok (.idiv, 1) := by decide +kernel
theorem d_Mo_copyBack_13 : decode cd_Mo_copyBack 13 = .ok (.istore 5, 2) := by decide +kernel
theorem d_Mo_copyBack_15 : decode cd_Mo_copyBack 15 = .ok (.iload_n 1, 1) := by decide +kernel
theorem d_Mo_copyBack_16 : decode cd_Mo_copyBack 16 = .ok (.sipush 1000, 3) := by decide +kernel
theorem d_Mo_copyBack_19 : decode cd_Mo_copyBack 19 = .ok (.irem, 1) := by decide +kernel
theorem d_Mo_copyBack_20 : decode cd_Mo_copyBack 20 = .ok (.istore 6, 2) := by decide +kernel
theorem d_Mo_copyBack_22 : decode cd_Mo_copyBack 22 = .ok (.iload_n 2, 1) := by decide +kernel
theorem d_Mo_copyBack_23 : decode cd_Mo_copyBack 23 = .ok (.istore 7, 2) := by decide +kernel
theorem d_Mo_copyBack_25 : decode cd_Mo_copyBack 25 = .ok (.aload_n 0, 1) := by decide +kernel
theorem d_Mo_copyBack_26 : decode cd_Mo_copyBack 26 = .ok (.iload 4, 2) := by decide +kernel
theorem d_Mo_copyBack_28 : decode cd_Mo_copyBack 28 = .ok (.invokevirtual 268, 3) := by decide +kernel
theorem d_Mo_copyBack_31 : decode cd_Mo_copyBack 31 = .ok (.ifCond .eq 100, 3) := by decide +kernel
theorem d_Mo_copyBack_34 : decode cd_Mo_copyBack 34 = .ok (.iload 5, 2) := by decide +kernel
theorem d_Mo_copyBack_36 : decode cd_Mo_copyBack 36 = .ok (.ifCond .le 95, 3) := by decide +kernel
theorem d_Mo_copyBack_39 : decode cd_Mo_copyBack 39 = .ok (.aload_n 0, 1) := by decide +kernel
theorem d_Mo_copyBack_40 : decode cd_Mo_copyBack 40 = .ok (.iload 5, 2) := by decide +kernel
theorem d_Mo_copyBack_42 : decode cd_Mo_copyBack 42 = .ok (.iconst 1, 1) := by decide +kernel
theorem d_Mo_copyBack_43 : decode cd_Mo_copyBack 43 = .ok (.isub, 1) := by decide +kernel
theorem d_Mo_copyBack_44 : decode cd_Mo_copyBack 44 = .ok (.iload_n 3, 1) := by decide +kernel
theorem d_Mo_copyBack_45 : decode cd_Mo_copyBack 45 = .ok (.invokevirtual 261, 3) := by decide +kernel
theorem d_Mo_copyBack_48 : decode cd_Mo_copyBack 48 = .ok (.aload_n 0, 1) := by decide +kernel
theorem d_Mo_copyBack_49 : decode cd_Mo_copyBack 49 = .ok (.getfield 77, 3) := by decide +kernel
theorem d_Mo_copyBack_52 : decode cd_Mo_copyBack 52 = .ok (.sipush 300, 3) := by decide +kernel
theorem d_Mo_copyBack_55 : decode cd_Mo_copyBack 55 = .ok (.iload 7, 2) := by decide +kernel
theorem d_Mo_copyBack_57 : decode cd_Mo_copyBack 57 = .ok (.iadd, 1) := by decide +kernel
theorem d_Mo_copyBack_58 : decode cd_Mo_copyBack 58 = .ok (.iconst 1, 1) := by decide +kernel
theorem d_Mo_copyBack_59 : decode cd_Mo_copyBack 59 = .ok (.isub, 1) := by decide +kernel
theorem d_Mo_copyBack_60 : decode cd_Mo_copyBack 60 = .ok (.iaload, 1) := by decide +kernel
theorem d_Mo_copyBack_61 : decode cd_Mo_copyBack 61 = .ok (.if_icmp .ne 70, 3) := by decide +kernel
theorem d_Mo_copyBack_64 : decode cd_Mo_copyBack 64 = .ok (.iinc 5 (-1), 3) := by decide +kernel
theorem d_Mo_copyBack_67 : decode cd_Mo_copyBack 67 = .ok (.iinc 7 (-1), 3) := by decide +kernel
theorem d_Mo_copyBack_70 : decode cd_Mo_copyBack 70 = .ok (.iinc 6 1, 3) := by decide +kernel
theorem d_Mo_copyBack_73 : decode cd_Mo_copyBack 73 = .ok (.aload_n 0, 1) := by decide +kernel
theorem d_Mo_copyBack_74 : decode cd_Mo_copyBack 74 = .ok (.getfield 106, 3) := by decide +kernel
theorem d_Mo_copyBack_77 : decode cd_Mo_copyBack 77 = .ok (.aload_n 0, 1) := by decide +kernel
theorem d_Mo_copyBack_78 : decode cd_Mo_copyBack 78 = .ok (.getfield 100, 3) := by decide +kernel
theorem d_Mo_copyBack_81 : decode cd_Mo_copyBack 81 = .ok (.iconst 1, 1) := by decide +kernel
theorem d_Mo_copyBack_82 : decode cd_Mo_copyBack 82 = .ok (.isub, 1) := by decide +kernel
theorem d_Mo_copyBack_83 : decode cd_Mo_copyBack 83 = .ok (.aload_n 0, 1) := by decide +kernel
theorem d_Mo_copyBack_84 : decode cd_Mo_copyBack 84 = .ok (.getfield 106, 3) := by decide +kernel
theorem d_Mo_copyBack_87 : decode cd_Mo_copyBack 87 = .ok (.aload_n 0, 1) := by decide +kernel
theorem d_Mo_copyBack_88 : decode cd_Mo_copyBack 88 = .ok (.getfield 100, 3) := by decide +kernel
theorem d_Mo_copyBack_91 : decode cd_Mo_copyBack 91 = .ok (.iconst 1, 1) := by decide +kernel
theorem d_Mo_copyBack_92 : decode cd_Mo_copyBack 92 = .ok (.isub, 1) := by decide +kernel
theorem d_Mo_copyBack_93 : decode cd_Mo_copyBack 93 = .ok (.iaload, 1) := by decide +kernel
theorem d_Mo_copyBack_94 : decode cd_Mo_copyBack 94 = .ok (.iconst 1, 1) := by decide +kernel
theorem d_Mo_copyBack_95 : decode cd_Mo_copyBack 95 = .ok (.isub, 1) := by decide +kernel
theorem d_Mo_copyBack_96 : decode cd_Mo_copyBack 96 = .ok (.iastore, 1) := by decide +kernel
theorem d_Mo_copyBack_97 : decode cd_Mo_copyBack 97 = .ok (.aload_n 0, 1) := by decide +kernel
theorem d_Mo_copyBack_98 : decode cd_Mo_copyBack 98 = .ok (.aload_n 0, 1) := by decide +kernel
theorem d_Mo_copyBack_99 : decode cd_Mo_copyBack 99 = .ok (.getfield 106, 3) := by decide +kernel
theorem d_Mo_copyBack_102 : decode cd_Mo_copyBack 102 = .ok (.aload_n 0, 1) := by decide +kernel
theorem d_Mo_copyBack_103 : decode cd_Mo_copyBack 103 = .ok (.getfield 100, 3) := by decide +kernel
theorem d_Mo_copyBack_106 : decode cd_Mo_copyBack 106 = .ok (.iconst 1, 1) := by decide +kernel
theorem d_Mo_copyBack_107 : decode cd_Mo_copyBack 107 = .ok (.isub, 1) := by decide +kernel
theorem d_Mo_copyBack_108 : decode cd_Mo_copyBack 108 = .ok (.iaload, 1) := by decide +kernel
theorem d_Mo_copyBack_109 : decode cd_Mo_copyBack 109 = .ok (.ifCond .ne 12, 3) := by decide +kernel
theorem d_Mo_copyBack_112 : decode cd_Mo_copyBack 112 = .ok (.aload_n 0, 1) := by decide +kernel
theorem d_Mo_copyBack_113 : decode cd_Mo_copyBack 113 = .ok (.getfield 100, 3) := by decide +kernel
theorem d_Mo_copyBack_116 : decode cd_Mo_copyBack 116 = .ok (.iconst 1, 1) := by decide +kernel
theorem d_Mo_copyBack_117 : decode cd_Mo_copyBack 117 = .ok (.isub, 1) := by decide +kernel
theorem d_Mo_copyBack_118 : decode cd_Mo_copyBack 118 = .ok (.goto 7, 3) := by decide +kernel
theorem d_Mo_copyBack_121 : decode cd_Mo_copyBack 121 = .ok (.aload_n 0, 1) := by decide +kernel
theorem d_Mo_copyBack_122 : decode cd_Mo_copyBack 122 = .ok (.getfield 100, 3) := by decide +kernel
theorem d_Mo_copyBack_125 : decode cd_Mo_copyBack 125 = .ok (.putfield 100, 3) := by decide +kernel
theorem d_Mo_copyBack_128 : decode cd_Mo_copyBack 128 = .ok (.goto (-103), 3) := by decide +kernel
theorem d_Mo_copyBack_131 : decode cd_Mo_copyBack 131 = .ok (.aload_n 0, 1) := by decide +kernel
theorem d_Mo_copyBack_132 : decode cd_Mo_copyBack 132 = .ok (.iconst 3, 1) := by decide +kernel
theorem d_Mo_copyBack_133 : decode cd_Mo_copyBack 133 = .ok (.iload 6, 2) := by decide +kernel
theorem d_Mo_copyBack_135 : decode cd_Mo_copyBack 135 = .ok (.iload 5, 2) := by decide +kernel
theorem d_Mo_copyBack_137 : decode cd_Mo_copyBack 137 = .ok (.iload 4, 2) := by decide +kernel
theorem d_Mo_copyBack_139 : decode cd_Mo_copyBack 139 = .ok (.invokevirtual 258, 3) := by decide +kernel
theorem d_Mo_copyBack_142 : decode cd_Mo_copyBack 142 = .ok (.return_, 1) := by decide +kernel
theorem d_Mo_differ_0 : decode cd_Mo_differ 0 = .ok (.iload_n 1, 1) := by decide +kernel
theorem d_Mo_differ_1 : decode cd_Mo_differ 1 = .ok (.iconst 1, 1) := by decide +kernel
theorem d_Mo_differ_2 : decode cd_Mo_differ 2 = .ok (.if_icmp .lt 22, 3) := by decide +kernel
theorem d_Mo_differ_5 : decode cd_Mo_differ 5 = .ok (.iload_n 1, 1) := by decide +kernel
theorem d_Mo_differ_6 : decode cd_Mo_differ 6 = .ok (.bipush 16, 2) := by decide +kernel
theorem d_Mo_differ_8 : decode cd_Mo_differ 8 = .ok (.if_icmp .gt 16, 3) := by decide +kernel
theorem d_Mo_differ_11 : decode cd_Mo_differ 11 = .ok (.iload_n 2, 1) := by decide +kernel
theorem d_Mo_differ_12 : decode cd_Mo_differ 12 = .ok (.bipush 16, 2) := by decide +kernel
theorem d_Mo_differ_14 : decode cd_Mo_differ 14 = .ok (.if_icmp .lt 10, 3) := by decide +kernel
theorem d_Mo_differ_17 : decode cd_Mo_differ 17 = .ok (.iload_n 2, 1) := by decide +kernel
theorem d_Mo_differ_18 : decode cd_Mo_differ 18 = .ok (.sipush 256, 3) := by decide +kernel
theorem d_Mo_differ_21 : decode cd_Mo_differ 21 = .ok (.if_icmp .le 5, 3) := by decide +kernel
theorem d_Mo_differ_24 : decode cd_Mo_differ 24 = .ok (.iconst (-1), 1) := by decide +kernel
theorem d_Mo_differ_25 : decode cd_Mo_differ 25 = .ok (.ireturn, 1) := by decide +kernel
theorem d_Mo_differ_26 : decode cd_Mo_differ 26 = .ok (.aload_n 0, 1) := by decide +kernel
theorem d_Mo_differ_27 : decode cd_Mo_differ 27 = .ok (.iload_n 2, 1) := by decide +kernel
theorem d_Mo_differ_28 : decode cd_Mo_differ 28 = .ok (.putfield 246, 3) := by decide +kernel
theorem d_Mo_differ_31 : decode cd_Mo_differ 31 = .ok (.aload_n 0, 1) := by decide +kernel
theorem d_Mo_differ_32 : decode cd_Mo_differ 32 = .ok (.aload_n 0, 1) := by decide +kernel
theorem d_Mo_differ_33 : decode cd_Mo_differ 33 = .ok (.getfield 81, 3) := by decide +kernel
theorem d_Mo_differ_36 : decode cd_Mo_differ 36 = .ok (.iconst 0, 1) := by decide +kernel
theorem d_Mo_differ_37 : decode cd_Mo_differ 37 = .ok (.iaload, 1) := by decide +kernel
theorem d_Mo_differ_38 : decode cd_Mo_differ 38 = .ok (.putfield 249, 3) := by decide +kernel
theorem d_Mo_differ_41 : decode cd_Mo_differ 41 = .ok (.aload_n 0, 1) := by decide +kernel
theorem d_Mo_differ_42 : decode cd_Mo_differ 42 = .ok (.iconst 0, 1) := by decide +kernel
theorem d_Mo_differ_43 : decode cd_Mo_differ 43 = .ok (.putfield 100, 3) := by decide +kernel
theorem d_Mo_differ_46 : decode cd_Mo_differ 46 = .ok (.iconst 0, 1) := by decide +kernel
theorem d_Mo_differ_47 : decode cd_Mo_differ 47 = .ok (.istore_n 3, 1) := by decide +kernel
theorem d_Mo_differ_48 : decode cd_Mo_differ 48 = .ok (.iload_n 3, 1) := by decide +kernel
theorem d_Mo_differ_49 : decode cd_Mo_differ 49 = .ok (.aload_n 0, 1) := by decide +kernel
theorem d_Mo_differ_50 : decode cd_Mo_differ 50 = .ok (.getfield 81, 3) := by decide +kernel
theorem d_Mo_differ_53 : decode cd_Mo_differ 53 = .ok (.iconst 1, 1) := by decide +kernel
theorem d_Mo_differ_54 : decode cd_Mo_differ 54 = .ok (.iaload, 1) := by decide +kernel
theorem d_Mo_differ_55 : decode cd_Mo_differ 55 = .ok (.if_icmp .ge 246, 3) := by decide +kernel
theorem d_Mo_differ_58 : decode cd_Mo_differ 58 = .ok (.iload_n 3, 1) := by decide +kernel
theorem d_Mo_differ_59 : decode cd_Mo_differ 59 = .ok (.aload_n 0, 1) := by decide +kernel
theorem d_Mo_differ_60 : decode cd_Mo_differ 60 = .ok (.getfield 246, 3) := by decide +kernel
theorem d_Mo_differ_63 : decode cd_Mo_differ 63 = .ok (.iadd, 1) := by decide +kernel
theorem d_Mo_differ_64 : decode cd_Mo_differ 64 = .ok (.aload_n 0, 1) := by decide +kernel
theorem d_Mo_differ_65 : decode cd_Mo_differ 65 = .ok (.getfield 81, 3) := by decide +kernel
theorem d_Mo_differ_68 : decode cd_Mo_differ 68 = .ok (.iconst 1, 1) := by decide +kernel
theorem d_Mo_differ_69 : decode cd_Mo_differ 69 = .ok (.iaload, 1) := by decide +kernel
theorem d_Mo_differ_70 : decode cd_Mo_differ 70 = .ok (.if_icmp .ge 12, 3) := by decide +kernel
theorem d_Mo_differ_73 : decode cd_Mo_differ 73 = .ok (.iload_n 3, 1) := by decide +kernel
theorem d_Mo_differ_74 : decode cd_Mo_differ 74 = .ok (.aload_n 0, 1) := by decide +kernel
theorem d_Mo_differ_75 : decode cd_Mo_differ 75 = .ok (.getfield 246, 3) := by decide +kernel
theorem d_Mo_differ_78 : decode cd_Mo_differ 78 = .ok (.iadd, 1) := by decide +kernel
theorem d_Mo_differ_79 : decode cd_Mo_differ 79 = .ok (.goto 9, 3) := by decide +kernel
theorem d_Mo_differ_82 : decode cd_Mo_differ 82 = .ok (.aload_n 0, 1) := by decide +kernel
theorem d_Mo_differ_83 : decode cd_Mo_differ 83 = .ok (.getfield 81, 3) := by decide +kernel
theorem d_Mo_differ_86 : decode cd_Mo_differ 86 = .ok (.iconst 1, 1) := by decide +kernel
theorem d_Mo_differ_87 : decode cd_Mo_differ 87 = .ok (.iaload, 1) := by decide +kernel
theorem d_Mo_differ_88 : decode cd_Mo_differ 88 = .ok (.istore 4, 2) := by decide +kernel
theorem d_Mo_differ_90 : decode cd_Mo_differ 90 = .ok (.iload_n 3, 1) := by decide +kernel
theorem d_Mo_differ_91 : decode cd_Mo_differ 91 = .ok (.istore 5, 2) := by decide +kernel
theorem d_Mo_differ_93 : decode cd_Mo_differ 93 = .ok (.iload 5, 2) := by decide +kernel
theorem d_Mo_differ_95 : decode cd_Mo_differ 95 = .ok (.iload 4, 2) := by decide +kernel
theorem d_Mo_differ_97 : decode cd_Mo_differ 97 = .ok (.if_icmp .ge 194, 3) := by decide +kernel
theorem d_Mo_differ_100 : decode cd_Mo_differ 100 = .ok (.iconst 1, 1) := by decide +kernel
theorem d_Mo_differ_101 : decode cd_Mo_differ 101 = .ok (.istore 6, 2) := by decide +kernel
theorem d_Mo_differ_103 : decode cd_Mo_differ 103 = .ok (.iload 5, 2) := by decide +kernel
theorem d_Mo_differ_105 : decode cd_Mo_differ 105 = .ok (.iload 6, 2) := by decide +kernel
theorem d_Mo_differ_107 : decode cd_Mo_differ 107 = .ok (.iadd, 1) := by decide +kernel
theorem d_Mo_differ_108 : decode cd_Mo_differ 108 = .ok (.iload 4, 2) := by decide +kernel
theorem d_Mo_differ_110 : decode cd_Mo_differ 110 = .ok (.if_icmp .ge 37, 3) := by decide +kernel
theorem d_Mo_differ_113 : decode cd_Mo_differ 113 = .ok (.aload_n 0, 1) := by decide +kernel
theorem d_Mo_differ_114 : decode cd_Mo_differ 114 = .ok (.getfield 77, 3) := by decide +kernel
theorem d_Mo_differ_117 : decode cd_Mo_differ 117 = .ok (.sipush 300, 3) := by decide +kernel
theorem d_Mo_differ_120 : decode cd_Mo_differ 120 = .ok (.iload 5, 2) := by decide +kernel
theorem d_Mo_differ_122 : decode cd_Mo_differ 122 = .ok (.iadd, 1) := by decide +kernel
theorem d_Mo_differ_123 : decode cd_Mo_differ 123 = .ok (.iload 6, 2) := by decide +kernel
theorem d_Mo_differ_125 : decode cd_Mo_differ 125 = .ok (.iadd, 1) := by decide +kernel
theorem d_Mo_differ_126 : decode cd_Mo_differ 126 = .ok (.iaload, 1) := by decide +kernel
theorem d_Mo_differ_127 : decode cd_Mo_differ 127 = .ok (.aload_n 0, 1) := by decide +kernel
theorem d_Mo_differ_128 : decode cd_Mo_differ 128 = .ok (.getfield 77, 3) := by decide +kernel
theorem d_Mo_differ_131 : decode cd_Mo_differ 131 = .ok (.sipush 300, 3) := by decide +kernel
theorem d_Mo_differ_134 : decode cd_Mo_differ 134 = .ok (.iload 5, 2) := by decide +kernel
theorem d_Mo_differ_136 : decode cd_Mo_differ 136 = .ok (.iadd, 1) := by decide +kernel
theorem d_Mo_differ_137 : decode cd_Mo_differ 137 = .ok (.iaload, 1) := by decide +kernel
theorem d_Mo_differ_138 : decode cd_Mo_differ 138 = .ok (.if_icmp .ne 9, 3) := by decide +kernel
theorem d_Mo_differ_141 : decode cd_Mo_differ 141 = .ok (.iinc 6 1, 3) := by decide +kernel
theorem d_Mo_differ_144 : decode cd_Mo_differ 144 = .ok (.goto (-41), 3) := by decide +kernel
theorem d_Mo_differ_147 : decode cd_Mo_differ 147 = .ok (.aload_n 0, 1) := by decide +kernel
theorem d_Mo_differ_148 : decode cd_Mo_differ 148 = .ok (.iload 5, 2) := by decide +kernel
theorem d_Mo_differ_150 : decode cd_Mo_differ 150 = .ok (.iload_n 3, 1) := by decide +kernel
theorem d_Mo_differ_151 : decode cd_Mo_differ 151 = .ok (.iload 4, 2) := by decide +kernel
theorem d_Mo_differ_153 : decode cd_Mo_differ 153 = .ok (.iload_n 1, 1) := by decide +kernel
theorem d_Mo_differ_154 : decode cd_Mo_differ 154 = .ok (.invokevirtual 271, 3) := by decide +kernel
theorem d_Mo_differ_157 : decode cd_Mo_differ 157 = .ok (.istore 7, 2) := by decide +kernel
theorem d_Mo_differ_159 : decode cd_Mo_differ 159 = .ok (.iload 7, 2) := by decide +kernel
theorem d_Mo_differ_161 : decode cd_Mo_differ 161 = .ok (.sipush 1000, 3) := by decide +kernel
theorem d_Mo_differ_164 : decode cd_Mo_differ 164 = .ok (.irem, 1) := by decide +kernel
theorem d_Mo_differ_165 : decode cd_Mo_differ 165 = .ok (.istore 8, 2) := by decide +kernel
theorem d_Mo_differ_167 : decode cd_Mo_differ 167 = .ok (.iload 6, 2) := by decide +kernel
theorem d_Mo_differ_169 : decode cd_Mo_differ 169 = .ok (.iconst 4, 1) := by decide +kernel
theorem d_Mo_differ_170 : decode cd_Mo_differ 170 = .ok (.if_icmp .lt 34, 3) := by decide +kernel
theorem d_Mo_differ_173 : decode cd_Mo_differ 173 = .ok (.iload 6, 2) := by decide +kernel
theorem d_Mo_differ_175 : decode cd_Mo_differ 175 = .ok (.iload 8, 2) := by decide +kernel
theorem d_Mo_differ_177 : decode cd_Mo_differ 177 = .ok (.if_icmp .lt 27, 3) := by decide +kernel
theorem d_Mo_differ_180 : decode cd_Mo_differ 180 = .ok (.aload_n 0, 1) := by decide +kernel
theorem d_Mo_differ_181 : decode cd_Mo_differ 181 = .ok (.iconst 2, 1) := by decide +kernel
theorem d_Mo_differ_182 : decode cd_Mo_differ 182 = .ok (.iload 6, 2) := by decide +kernel
theorem d_Mo_differ_184 : decode cd_Mo_differ 184 = .ok (.iconst (-1), 1) := by decide +kernel
theorem d_Mo_differ_185 : decode cd_Mo_differ 185 = .ok (.iload_n 3, 1) := by decide +kernel
theorem d_Mo_differ_186 : decode cd_Mo_differ 186 = .ok (.aload_n 0, 1) := by decide +kernel
theorem d_Mo_differ_187 : decode cd_Mo_differ 187 = .ok (.getfield 246, 3) := by decide +kernel
theorem d_Mo_differ_190 : decode cd_Mo_differ 190 = .ok (.idiv, 1) := by decide +kernel
theorem d_Mo_differ_191 : decode cd_Mo_differ 191 = .ok (.invokevirtual 258, 3) := by decide +kernel
theorem d_Mo_differ_194 : decode cd_Mo_differ 194 = .ok (.iload 5, 2) := by decide +kernel
theorem d_Mo_differ_196 : decode cd_Mo_differ 196 = .ok (.iload 6, 2) := by decide +kernel
theorem d_Mo_differ_198 : decode cd_Mo_differ 198 = .ok (.iadd, 1) := by decide +kernel
theorem d_Mo_differ_199 : decode cd_Mo_differ 199 = .ok (.istore 5, 2) := by decide +kernel
theorem d_Mo_differ_201 : decode cd_Mo_differ 201 = .ok (.goto 87, 3) := by decide +kernel
theorem d_Mo_differ_204 : decode cd_Mo_differ 204 = .ok (.iload 8, 2) := by decide +kernel
theorem d_Mo_differ_206 : decode cd_Mo_differ 206 = .ok (.iconst 4, 1) := by decide +kernel
theorem d_Mo_differ_207 : decode cd_Mo_differ 207 = .ok (.if_icmp .lt 22, 3) := by decide +kernel
theorem d_Mo_differ_210 : decode cd_Mo_differ 210 = .ok (.aload_n 0, 1) := by decide +kernel
theorem d_Mo_differ_211 : decode cd_Mo_differ 211 = .ok (.iload 7, 2) := by decide +kernel
theorem d_Mo_differ_213 : decode cd_Mo_differ 213 = .ok (.iload 5, 2) := by decide +kernel
theorem d_Mo_differ_215 : decode cd_Mo_differ 215 = .ok (.iload_n 3, 1) := by decide +kernel
theorem d_Mo_differ_216 : decode cd_Mo_differ 216 = .ok (.invokevirtual 274, 3) := by decide +kernel
theorem d_Mo_differ_219 : decode cd_Mo_differ 219 = .ok (.iload 5, 2) := by decide +kernel
theorem d_Mo_differ_221 : decode cd_Mo_differ 221 = .ok (.iload 8, 2) := by decide +kernel
theorem d_Mo_differ_223 : decode cd_Mo_differ 223 = .ok (.iadd, 1) := by decide +kernel
theorem d_Mo_differ_224 : decode cd_Mo_differ 224 = .ok (.istore 5, 2) := by decide +kernel
theorem d_Mo_differ_226 : decode cd_Mo_differ 226 = .ok (.goto 62, 3) := by decide +kernel
theorem d_Mo_differ_229 : decode cd_Mo_differ 229 = .ok (.aload_n 0, 1) := by decide +kernel
theorem d_Mo_differ_230 : decode cd_Mo_differ 230 = .ok (.iload_n 3, 1) := by decide +kernel
theorem d_Mo_differ_231 : decode cd_Mo_differ 231 = .ok (.aload_n 0, 1) := by decide +kernel
theorem d_Mo_differ_232 : decode cd_Mo_differ 232 = .ok (.getfield 246, 3) := by decide +kernel
theorem d_Mo_differ_235 : decode cd_Mo_differ 235 = .ok (.idiv, 1) := by decide +kernel
theorem d_Mo_differ_236 : decode cd_Mo_differ 236 = .ok (.invokevirtual 268, 3) := by decide +kernel
theorem d_Mo_differ_239 : decode cd_Mo_differ 239 = .ok (.ifCond .eq 33, 3) := by decide +kernel
theorem d_Mo_differ_242 : decode cd_Mo_differ 242 = .ok (.aload_n 0, 1) := by decide +kernel
theorem d_Mo_differ_243 : decode cd_Mo_differ 243 = .ok (.getfield 106, 3) := by decide +kernel
theorem d_Mo_differ_246 : decode cd_Mo_differ 246 = .ok (.aload_n 0, 1) := by decide +kernel
theorem d_Mo_differ_247 : decode cd_Mo_differ 247 = .ok (.getfield 100, 3) := by decide +kernel
theorem d_Mo_differ_250 : decode cd_Mo_differ 250 = .ok (.iconst 1, 1) := by decide +kernel
theorem d_Mo_differ_251 : decode cd_Mo_differ 251 = .ok (.isub, 1) := by decide +kernel
theorem d_Mo_differ_252 : decode cd_Mo_differ 252 = .ok (.aload_n 0, 1) := by decide +kernel
theorem d_Mo_differ_253 : decode cd_Mo_differ 253 = .ok (.getfield 106, 3) := by decide +kernel
theorem d_Mo_differ_256 : decode cd_Mo_differ 256 = .ok (.aload_n 0, 1) := by decide +kernel
theorem d_Mo_differ_257 : decode cd_Mo_differ 257 = .ok (.getfield 100, 3) := by decide +kernel
theorem d_Mo_differ_260 : decode cd_Mo_differ 260 = .ok (.iconst 1, 1) := by decide +kernel
theorem d_Mo_differ_261 : decode cd_Mo_differ 261 = .ok (.isub, 1) := by decide +kernel
theorem d_Mo_differ_262 : decode cd_Mo_differ 262 = .ok (.iaload, 1) := by decide +kernel
theorem d_Mo_differ_263 : decode cd_Mo_differ 263 = .ok (.iconst 1, 1) := by decide +kernel
theorem d_Mo_differ_264 : decode cd_Mo_differ 264 = .ok (.iadd, 1) := by decide +kernel
theorem d_Mo_differ_265 : decode cd_Mo_differ 265 = .ok (.iastore, 1) := by decide +kernel
theorem d_Mo_differ_266 : decode cd_Mo_differ 266 = .ok (.iinc 5 1, 3) := by decide +kernel
theorem d_Mo_differ_269 : decode cd_Mo_differ 269 = .ok (.goto 19, 3) := by decide +kernel
theorem d_Mo_differ_272 : decode cd_Mo_differ 272 = .ok (.aload_n 0, 1) := by decide +kernel
theorem d_Mo_differ_273 : decode cd_Mo_differ 273 = .ok (.iconst 1, 1) := by decide +kernel
theorem d_Mo_differ_274 : decode cd_Mo_differ 274 = .ok (.iconst 1, 1) := by decide +kernel
theorem d_Mo_differ_275 : decode cd_Mo_differ 275 = .ok (.iconst (-1), 1) := by decide +kernel
theorem d_Mo_differ_276 : decode cd_Mo_differ 276 = .ok (.iload_n 3, 1) := by decide +kernel
theorem d_Mo_differ_277 : decode cd_Mo_differ 277 = .ok (.aload_n 0, 1) := by decide +kernel
theorem d_Mo_differ_278 : decode cd_Mo_differ 278 = .ok (.getfield 246, 3) := by decide +kernel
theorem d_Mo_differ_281 : decode cd_Mo_differ 281 = .ok (.idiv, 1) := by decide +kernel
theorem d_Mo_differ_282 : decode cd_Mo_differ 282 = .ok (.invokevirtual 258, 3) := by decide +kernel
theorem d_Mo_differ_285 : decode cd_Mo_differ 285 = .ok (.iinc 5 1, 3) := by decide +kernel
theorem d_Mo_differ_288 : decode cd_Mo_differ 288 = .ok (.goto (-195), 3) := by decide +kernel
theorem d_Mo_differ_291 : decode cd_Mo_differ 291 = .ok (.iload_n 3, 1) := by decide +kernel
theorem d_Mo_differ_292 : decode cd_Mo_differ 292 = .ok (.aload_n 0, 1) := by decide +kernel
theorem d_Mo_differ_293 : decode cd_Mo_differ 293 = .ok (.getfield 246, 3) := by decide +kernel
theorem d_Mo_differ_296 : decode cd_Mo_differ 296 = .ok (.iadd, 1) := by decide +kernel
theorem d_Mo_differ_297 : decode cd_Mo_differ 297 = .ok (.istore_n 3, 1) := by decide +kernel
theorem d_Mo_differ_298 : decode cd_Mo_differ 298 = .ok (.goto (-250), 3) := by decide +kernel
theorem d_Mo_differ_301 : decode cd_Mo_differ 301 = .ok (.aload_n 0, 1) := by decide +kernel
theorem d_Mo_differ_302 : decode cd_Mo_differ 302 = .ok (.getfield 100, 3) := by decide +kernel
theorem d_Mo_differ_305 : decode cd_Mo_differ 305 = .ok (.ireturn, 1) := by decide +kernel
theorem d_Mo_instruction_0 : decode cd_Mo_instruction 0 = .ok (.iload_n 1, 1) := by decide +kernel
theorem d_Mo_instruction_1 : decode cd_Mo_instruction 1 = .ok (.ifCond .lt 20, 3) := by decide +kernel
theorem d_Mo_instruction_4 : decode cd_Mo_instruction 4 = .ok (.iload_n 1, 1) := by decide +kernel
theorem d_Mo_instruction_5 : decode cd_Mo_instruction 5 = .ok (.aload_n 0, 1) := by decide +kernel
theorem d_Mo_instruction_6 : decode cd_Mo_instruction 6 = .ok (.getfield 100, 3) := by decide +kernel
theorem d_Mo_instruction_9 : decode cd_Mo_instruction 9 = .ok (.if_icmp .ge 12, 3) := by decide +kernel
theorem d_Mo_instruction_12 : decode cd_Mo_instruction 12 = .ok (.iload_n 2, 1) := by decide +kernel
theorem d_Mo_instruction_13 : decode cd_Mo_instruction 13 = .ok (.ifCond .lt 8, 3) := by decide +kernel
theorem d_Mo_instruction_16 : decode cd_Mo_instruction 16 = .ok (.iload_n 2, 1) := by decide +kernel
theorem d_Mo_instruction_17 : decode cd_Mo_instruction 17 = .ok (.iconst 3, 1) := by decide +kernel
theorem d_Mo_instruction_18 : decode cd_Mo_instruction 18 = .ok (.if_icmp .le 5, 3) := by decide +kernel
theorem d_Mo_instruction_21 : decode cd_Mo_instruction 21 = .ok (.iconst (-1), 1) := by decide +kernel
theorem d_Mo_instruction_22 : decode cd_Mo_instruction 22 = .ok (.ireturn, 1) := by decide +kernel
theorem d_Mo_instruction_23 : decode cd_Mo_instruction 23 = .ok (.iload_n 2, 1) := by decide +kernel
theorem d_Mo_instruction_24 : decode cd_Mo_instruction 24 = .ok (.ifCond .ne 12, 3) := by decide +kernel
theorem d_Mo_instruction_27 : decode cd_Mo_instruction 27 = .ok (.aload_n 0, 1) := by decide +kernel
theorem d_Mo_instruction_28 : decode cd_Mo_instruction 28 = .ok (.getfield 103, 3) := by decide +kernel
theorem d_Mo_instruction_31 : decode cd_Mo_instruction 31 = .ok (.iload_n 1, 1) := by decide +kernel
theorem d_Mo_instruction_32 : decode cd_Mo_instruction 32 = .ok (.iaload, 1) := by decide +kernel
theorem d_Mo_instruction_33 : decode cd_Mo_instruction 33 = .ok (.goto 37, 3) := by decide +kernel
theorem d_Mo_instruction_36 : decode cd_Mo_instruction 36 = .ok (.iload_n 2, 1) := by decide +kernel
theorem d_Mo_instruction_37 : decode cd_Mo_instruction 37 = .ok (.iconst 1, 1) := by decide +kernel
theorem d_Mo_instruction_38 : decode cd_Mo_instruction 38 = .ok (.if_icmp .ne 12, 3) := by decide +kernel
theorem d_Mo_instruction_41 : decode cd_Mo_instruction 41 = .ok (.aload_n 0, 1) := by decide +kernel
theorem d_Mo_instruction_42 : decode cd_Mo_instruction 42 = .ok (.getfield 106, 3) := by decide +kernel
theorem d_Mo_instruction_45 : decode cd_Mo_instruction 45 = .ok (.iload_n 1, 1) := by decide +kernel
theorem d_Mo_instruction_46 : decode cd_Mo_instruction 46 = .ok (.iaload, 1) := by decide +kernel
theorem d_Mo_instruction_47 : decode cd_Mo_instruction 47 = .ok (.goto 23, 3) := by decide +kernel
theorem d_Mo_instruction_50 : decode cd_Mo_instruction 50 = .ok (.iload_n 2, 1) := by decide +kernel
theorem d_Mo_instruction_51 : decode cd_Mo_instruction 51 = .ok (.iconst 2, 1) := by decide +kernel
theorem d_Mo_instruction_52 : decode cd_Mo_instruction 52 = .ok (.if_icmp .ne 12, 3) := by decide +kernel
theorem d_Mo_instruction_55 : decode cd_Mo_instruction 55 = .ok (.aload_n 0, 1) := by decide +kernel
theorem d_Mo_instruction_56 : decode cd_Mo_instruction 56 = .ok (.getfield 109, 3) := by decide +kernel
theorem d_Mo_instruction_59 : decode cd_Mo_instruction 59 = .ok (.iload_n 1, 1) := by decide +kernel
theorem d_Mo_instruction_60 : decode cd_Mo_instruction 60 = .ok (.iaload, 1) := by decide +kernel
theorem d_Mo_instruction_61 : decode cd_Mo_instruction 61 = .ok (.goto 9, 3) := by decide +kernel
theorem d_Mo_instruction_64 : decode cd_Mo_instruction 64 = .ok (.aload_n 0, 1) := by decide +kernel
theorem d_Mo_instruction_65 : decode cd_Mo_instruction 65 = .ok (.getfield 112, 3) := by decide +kernel
theorem d_Mo_instruction_68 : decode cd_Mo_instruction 68 = .ok (.iload_n 1, 1) := by decide +kernel
theorem d_Mo_instruction_69 : decode cd_Mo_instruction 69 = .ok (.iaload, 1) := by decide +kernel
theorem d_Mo_instruction_70 : decode cd_Mo_instruction 70 = .ok (.ireturn, 1) := by decide +kernel
theorem d_Mo_beginRows_0 : decode cd_Mo_beginRows 0 = .ok (.aload_n 0, 1) := by decide +kernel
theorem d_Mo_beginRows_1 : decode cd_Mo_beginRows 1 = .ok (.iload_n 1, 1) := by decide +kernel
theorem d_Mo_beginRows_2 : decode cd_Mo_beginRows 2 = .ok (.putfield 278, 3) := by decide +kernel
theorem d_Mo_beginRows_5 : decode cd_Mo_beginRows 5 = .ok (.aload_n 0, 1) := by decide +kernel
theorem d_Mo_beginRows_6 : decode cd_Mo_beginRows 6 = .ok (.iload_n 2, 1) := by decide +kernel
theorem d_Mo_beginRows_7 : decode cd_Mo_beginRows 7 = .ok (.putfield 281, 3) := by decide +kernel
theorem d_Mo_beginRows_10 : decode cd_Mo_beginRows 10 = .ok (.aload_n 0, 1) := by decide +kernel
theorem d_Mo_beginRows_11 : decode cd_Mo_beginRows 11 = .ok (.iconst 0, 1) := by decide +kernel
theorem d_Mo_beginRows_12 : decode cd_Mo_beginRows 12 = .ok (.putfield 284, 3) := by decide +kernel
theorem d_Mo_beginRows_15 : decode cd_Mo_beginRows 15 = .ok (.iconst 0, 1) := by decide +kernel
theorem d_Mo_beginRows_16 : decode cd_Mo_beginRows 16 = .ok (.istore_n 3, 1) := by decide +kernel
theorem d_Mo_beginRows_17 : decode cd_Mo_beginRows 17 = .ok (.iload_n 3, 1) := by decide +kernel
theorem d_Mo_beginRows_18 : decode cd_Mo_beginRows 18 = .ok (.bipush 8, 2) := by decide +kernel
theorem d_Mo_beginRows_20 : decode cd_Mo_beginRows 20 = .ok (.if_icmp .ge 16, 3) := by decide +kernel
theorem d_Mo_beginRows_23 : decode cd_Mo_beginRows 23 = .ok (.aload_n 0, 1) := by decide +kernel
theorem d_Mo_beginRows_24 : decode cd_Mo_beginRows 24 = .ok (.getfield 130, 3) := by decide +kernel
theorem d_Mo_beginRows_27 : decode cd_Mo_beginRows 27 = .ok (.iload_n 3, 1) := by decide +kernel
theorem d_Mo_beginRows_28 : decode cd_Mo_beginRows 28 = .ok (.iconst 0, 1) := by decide +kernel
theorem d_Mo_beginRows_29 : decode cd_Mo_beginRows 29 = .ok (.iastore, 1) := by decide +kernel
theorem d_Mo_beginRows_30 : decode cd_Mo_beginRows 30 = .ok (.iinc 3 1, 3) := by decide +kernel
theorem d_Mo_beginRows_33 : decode cd_Mo_beginRows 33 = .ok (.goto (-16), 3) := by decide +kernel
theorem d_Mo_beginRows_36 : decode cd_Mo_beginRows 36 = .ok (.iconst 0, 1) := by decide +kernel
theorem d_Mo_beginRows_37 : decode cd_Mo_beginRows 37 = .ok (.istore_n 3, 1) := by decide +kernel
theorem d_Mo_beginRows_38 : decode cd_Mo_beginRows 38 = .ok (.iload_n 3, 1) := by decide +kernel
theorem d_Mo_beginRows_39 : decode cd_Mo_beginRows 39 = .ok (.sipush 1024, 3) := by decide +kernel
theorem d_Mo_beginRows_42 : decode cd_Mo_beginRows 42 = .ok (.if_icmp .ge 16, 3) := by decide +kernel
theorem d_Mo_beginRows_45 : decode cd_Mo_beginRows 45 = .ok (.aload_n 0, 1) := by decide +kernel
theorem d_Mo_beginRows_46 : decode cd_Mo_beginRows 46 = .ok (.getfield 133, 3) := by decide +kernel
theorem d_Mo_beginRows_49 : decode cd_Mo_beginRows 49 = .ok (.iload_n 3, 1) := by decide +kernel
theorem d_Mo_beginRows_50 : decode cd_Mo_beginRows 50 = .ok (.iconst 0, 1) := by decide +kernel
theorem d_Mo_beginRows_51 : decode cd_Mo_beginRows 51 = .ok (.iastore, 1) := by decide +kernel
theorem d_Mo_beginRows_52 : decode cd_Mo_beginRows 52 = .ok (.iinc 3 1, 3) := by decide +kernel
theorem d_Mo_beginRows_55 : decode cd_Mo_beginRows 55 = .ok (.goto (-17), 3) := by decide +kernel
theorem d_Mo_beginRows_58 : decode cd_Mo_beginRows 58 = .ok (.return_, 1) := by decide +kernel
theorem d_Mo_note_0 : decode cd_Mo_note 0 = .ok (.aload_n 0, 1) := by decide +kernel
theorem d_Mo_note_1 : decode cd_Mo_note 1 = .ok (.getfield 278, 3) := by decide +kernel
theorem d_Mo_note_4 : decode cd_Mo_note 4 = .ok (.ifCond .le 40, 3) := by decide +kernel
theorem d_Mo_note_7 : decode cd_Mo_note 7 = .ok (.aload_n 0, 1) := by decide +kernel
theorem d_Mo_note_8 : decode cd_Mo_note 8 = .ok (.getfield 130, 3) := by decide +kernel
theorem d_Mo_note_11 : decode cd_Mo_note 11 = .ok (.aload_n 0, 1) := by decide +kernel
theorem d_Mo_note_12 : decode cd_Mo_note 12 = .ok (.getfield 284, 3) := by decide +kernel
theorem d_Mo_note_15 : decode cd_Mo_note 15 = .ok (.iload_n 1, 1) := by decide +kernel
theorem d_Mo_note_16 : decode cd_Mo_note 16 = .ok (.iastore, 1) := by decide +kernel
theorem d_Mo_note_17 : decode cd_Mo_note 17 = .ok (.aload_n 0, 1) := by decide +kernel
theorem d_Mo_note_18 : decode cd_Mo_note 18 = .ok (.aload_n 0, 1) := by decide +kernel
theorem d_Mo_note_19 : decode cd_Mo_note 19 = .ok (.getfield 284, 3) := by decide +kernel
theorem d_Mo_note_22 : decode cd_Mo_note 22 = .ok (.iconst 1, 1) := by decide +kernel
theorem d_Mo_note_23 : decode cd_Mo_note 23 = .ok (.iadd, 1) := by decide +kernel
theorem d_Mo_note_24 : decode cd_Mo_note 24 = .ok (.aload_n 0, 1) := by decide +kernel
theorem d_Mo_note_25 : decode cd_Mo_note 25 = .ok (.getfield 278, 3) := by decide +kernel
theorem d_Mo_note_28 : decode cd_Mo_note 28 = .ok (.if_icmp .ne 7, 3) := by decide +kernel
theorem d_Mo_note_31 : decode cd_Mo_note 31 = .ok (.iconst 0, 1) := by decide +kernel
theorem d_Mo_note_32 : decode cd_Mo_note 32 = .ok (.goto 9, 3) := by decide +kernel
theorem d_Mo_note_35 : decode cd_Mo_note 35 = .ok (.aload_n 0, 1) := by decide +kernel
theorem d_Mo_note_36 : decode cd_Mo_note 36 = .ok (.getfield 284, 3) := by decide +kernel
theorem d_Mo_note_39 : decode cd_Mo_note 39 = .ok (.iconst 1, 1) := by decide +kernel
theorem d_Mo_note_40 : decode cd_Mo_note 40 = .ok (.iadd, 1) := by decide +kernel
theorem d_Mo_note_41 : decode cd_Mo_note 41 = .ok (.putfield 284, 3) := by decide +kernel
theorem d_Mo_note_44 : decode cd_Mo_note 44 = .ok (.aload_n 0, 1) := by decide +kernel
theorem d_Mo_note_45 : decode cd_Mo_note 45 = .ok (.getfield 281, 3) := by decide +kernel
theorem d_Mo_note_48 : decode cd_Mo_note 48 = .ok (.ifCond .le 19, 3) := by decide +kernel
theorem d_Mo_note_51 : decode cd_Mo_note 51 = .ok (.aload_n 0, 1) := by decide +kernel
theorem d_Mo_note_52 : decode cd_Mo_note 52 = .ok (.getfield 133, 3) := by decide +kernel
theorem d_Mo_note_55 : decode cd_Mo_note 55 = .ok (.iload_n 1, 1) := by decide +kernel
theorem d_Mo_note_56 : decode cd_Mo_note 56 = .ok (.sipush 256, 3) := by decide +kernel
theorem d_Mo_note_59 : decode cd_Mo_note 59 = .ok (.aload_n 0, 1) := by decide +kernel
theorem d_Mo_note_60 : decode cd_Mo_note 60 = .ok (.getfield 281, 3) := by decide +kernel
theorem d_Mo_note_63 : decode cd_Mo_note 63 = .ok (.imul, 1) := by decide +kernel
theorem d_Mo_note_64 : decode cd_Mo_note 64 = .ok (.irem, 1) := by decide +kernel
theorem d_Mo_note_65 : decode cd_Mo_note 65 = .ok (.iload_n 1, 1) := by decide +kernel
theorem d_Mo_note_66 : decode cd_Mo_note 66 = .ok (.iastore, 1) := by decide +kernel
theorem d_Mo_note_67 : decode cd_Mo_note 67 = .ok (.return_, 1) := by decide +kernel
theorem d_Mo_toldBy_0 : decode cd_Mo_toldBy 0 = .ok (.iload_n 1, 1) := by decide +kernel
theorem d_Mo_toldBy_1 : decode cd_Mo_toldBy 1 = .ok (.ifCond .ne 7, 3) := by decide +kernel
theorem d_Mo_toldBy_4 : decode cd_Mo_toldBy 4 = .ok (.iload_n 2, 1) := by decide +kernel
theorem d_Mo_toldBy_5 : decode cd_Mo_toldBy 5 = .ok (.goto 24, 3) := by decide +kernel
theorem d_Mo_toldBy_8 : decode cd_Mo_toldBy 8 = .ok (.iload_n 1, 1) := by decide +kernel
theorem d_Mo_toldBy_9 : decode cd_Mo_toldBy 9 = .ok (.iconst 1, 1) := by decide +kernel
theorem d_Mo_toldBy_10 : decode cd_Mo_toldBy 10 = .ok (.if_icmp .ne 9, 3) := by decide +kernel
theorem d_Mo_toldBy_13 : decode cd_Mo_toldBy 13 = .ok (.iload_n 3, 1) := by decide +kernel
theorem d_Mo_toldBy_14 : decode cd_Mo_toldBy 14 = .ok (.iload_n 2, 1) := by decide +kernel
theorem d_Mo_toldBy_15 : decode cd_Mo_toldBy 15 = .ok (.isub, 1) := by decide +kernel
theorem d_Mo_toldBy_16 : decode cd_Mo_toldBy 16 = .ok (.goto 13, 3) := by decide +kernel
theorem d_Mo_toldBy_19 : decode cd_Mo_toldBy 19 = .ok (.iload_n 2, 1) := by decide +kernel
theorem d_Mo_toldBy_20 : decode cd_Mo_toldBy 20 = .ok (.aload_n 0, 1) := by decide +kernel
theorem d_Mo_toldBy_21 : decode cd_Mo_toldBy 21 = .ok (.getfield 130, 3) := by decide +kernel
theorem d_Mo_toldBy_24 : decode cd_Mo_toldBy 24 = .ok (.iload_n 1, 1) := by decide +kernel
theorem d_Mo_toldBy_25 : decode cd_Mo_toldBy 25 = .ok (.iconst 2, 1) := by decide +kernel
theorem d_Mo_toldBy_26 : decode cd_Mo_toldBy 26 = .ok (.isub, 1) := by decide +kernel
theorem d_Mo_toldBy_27 : decode cd_Mo_toldBy 27 = .ok (.iaload, 1) := by decide +kernel
theorem d_Mo_toldBy_28 : decode cd_Mo_toldBy 28 = .ok (.isub, 1) := by decide +kernel
theorem d_Mo_toldBy_29 : decode cd_Mo_toldBy 29 = .ok (.istore 4, 2) := by decide +kernel
theorem d_Mo_toldBy_31 : decode cd_Mo_toldBy 31 = .ok (.iload 4, 2) := by decide +kernel
theorem d_Mo_toldBy_33 : decode cd_Mo_toldBy 33 = .ok (.ifCond .ge 7, 3) := by decide +kernel
theorem d_Mo_toldBy_36 : decode cd_Mo_toldBy 36 = .ok (.iconst (-1), 1) := by decide +kernel
theorem d_Mo_toldBy_37 : decode cd_Mo_toldBy 37 = .ok (.goto 5, 3) := by decide +kernel
theorem d_Mo_toldBy_40 : decode cd_Mo_toldBy 40 = .ok (.iload 4, 2) := by decide +kernel
theorem d_Mo_toldBy_42 : decode cd_Mo_toldBy 42 = .ok (.ireturn, 1) := by decide +kernel
theorem d_Mo_modeFor_0 : decode cd_Mo_modeFor 0 = .ok (.aload_n 0, 1) := by decide +kernel
theorem d_Mo_modeFor_1 : decode cd_Mo_modeFor 1 = .ok (.getfield 133, 3) := by decide +kernel
theorem d_Mo_modeFor_4 : decode cd_Mo_modeFor 4 = .ok (.iload_n 1, 1) := by decide +kernel
theorem d_Mo_modeFor_5 : decode cd_Mo_modeFor 5 = .ok (.sipush 768, 3) := by decide +kernel
theorem d_Mo_modeFor_8 : decode cd_Mo_modeFor 8 = .ok (.irem, 1) := by decide +kernel
theorem d_Mo_modeFor_9 : decode cd_Mo_modeFor 9 = .ok (.iaload, 1) := by decide +kernel
theorem d_Mo_modeFor_10 : decode cd_Mo_modeFor 10 = .ok (.iload_n 1, 1) := by decide +kernel
theorem d_Mo_modeFor_11 : decode cd_Mo_modeFor 11 = .ok (.if_icmp .ne 16, 3) := by decide +kernel
theorem d_Mo_modeFor_14 : decode cd_Mo_modeFor 14 = .ok (.bipush 6, 2) := by decide +kernel
theorem d_Mo_modeFor_16 : decode cd_Mo_modeFor 16 = .ok (.iload_n 1, 1) := by decide +kernel
theorem d_Mo_modeFor_17 : decode cd_Mo_modeFor 17 = .ok (.sipush 768, 3) := by decide +kernel
theorem d_Mo_modeFor_20 : decode cd_Mo_modeFor 20 = .ok (.irem, 1) := by decide +kernel
theorem d_Mo_modeFor_21 : decode cd_Mo_modeFor 21 = .ok (.sipush 256, 3) := by decide +kernel
theorem d_Mo_modeFor_24 : decode cd_Mo_modeFor 24 = .ok (.idiv, 1) := by decide +kernel
theorem d_Mo_modeFor_25 : decode cd_Mo_modeFor 25 = .ok (.iadd, 1) := by decide +kernel
theorem d_Mo_modeFor_26 : decode cd_Mo_modeFor 26 = .ok (.ireturn, 1) := by decide +kernel
theorem d_Mo_modeFor_27 : decode cd_Mo_modeFor 27 = .ok (.iconst 0, 1) := by decide +kernel
theorem d_Mo_modeFor_28 : decode cd_Mo_modeFor 28 = .ok (.istore_n 3, 1) := by decide +kernel
theorem d_Mo_modeFor_29 : decode cd_Mo_modeFor 29 = .ok (.iconst 1, 1) := by decide +kernel
theorem d_Mo_modeFor_30 : decode cd_Mo_modeFor 30 = .ok (.istore 4, 2) := by decide +kernel
theorem d_Mo_modeFor_32 : decode cd_Mo_modeFor 32 = .ok (.iload 4, 2) := by decide +kernel
theorem d_Mo_modeFor_34 : decode cd_Mo_modeFor 34 = .ok (.bipush 6, 2) := by decide +kernel
theorem d_Mo_modeFor_36 : decode cd_Mo_modeFor 36 = .ok (.if_icmp .ge 43, 3) := by decide +kernel
theorem d_Mo_modeFor_39 : decode cd_Mo_modeFor 39 = .ok (.aload_n 0, 1) := by decide +kernel
theorem d_Mo_modeFor_40 : decode cd_Mo_modeFor 40 = .ok (.iload 4, 2) := by decide +kernel
theorem d_Mo_modeFor_42 : decode cd_Mo_modeFor 42 = .ok (.iload_n 1, 1) := by decide +kernel
theorem d_Mo_modeFor_43 : decode cd_Mo_modeFor 43 = .ok (.iload_n 2, 1) := by decide +kernel
theorem d_Mo_modeFor_44 : decode cd_Mo_modeFor 44 = .ok (.invokevirtual 287, 3) := by decide +kernel
theorem d_Mo_modeFor_47 : decode cd_Mo_modeFor 47 = .ok (.istore 5, 2) := by decide +kernel
theorem d_Mo_modeFor_49 : decode cd_Mo_modeFor 49 = .ok (.iload 5, 2) := by decide +kernel
theorem d_Mo_modeFor_51 : decode cd_Mo_modeFor 51 = .ok (.ifCond .lt 20, 3) := by decide +kernel
theorem d_Mo_modeFor_54 : decode cd_Mo_modeFor 54 = .ok (.iload 5, 2) := by decide +kernel
theorem d_Mo_modeFor_56 : decode cd_Mo_modeFor 56 = .ok (.aload_n 0, 1) := by decide +kernel
theorem d_Mo_modeFor_57 : decode cd_Mo_modeFor 57 = .ok (.iload_n 3, 1) := by decide +kernel
theorem d_Mo_modeFor_58 : decode cd_Mo_modeFor 58 = .ok (.iload_n 1, 1) := by decide +kernel
theorem d_Mo_modeFor_59 : decode cd_Mo_modeFor 59 = .ok (.iload_n 2, 1) := by decide +kernel
theorem d_Mo_modeFor_60 : decode cd_Mo_modeFor 60 = .ok (.invokevirtual 287, 3) := by decide +kernel
theorem d_Mo_modeFor_63 : decode cd_Mo_modeFor 63 = .ok (.if_icmp .ge 8, 3) := by decide +kernel
theorem d_Mo_modeFor_66 : decode cd_Mo_modeFor 66 = .ok (.iload 4, 2) := by decide +kernel
theorem d_Mo_modeFor_68 : decode cd_Mo_modeFor 68 = .ok (.goto 4, 3) := by decide +kernel
theorem d_Mo_modeFor_71 : decode cd_Mo_modeFor 71 = .ok (.iload_n 3, 1) := by decide +kernel
theorem d_Mo_modeFor_72 : decode cd_Mo_modeFor 72 = .ok (.istore_n 3, 1) := by decide +kernel
theorem d_Mo_modeFor_73 : decode cd_Mo_modeFor 73 = .ok (.iinc 4 1, 3) := by decide +kernel
theorem d_Mo_modeFor_76 : decode cd_Mo_modeFor 76 = .ok (.goto (-44), 3) := by decide +kernel
theorem d_Mo_modeFor_79 : decode cd_Mo_modeFor 79 = .ok (.iload_n 3, 1) := by decide +kernel
theorem d_Mo_modeFor_80 : decode cd_Mo_modeFor 80 = .ok (.ireturn, 1) := by decide +kernel
theorem d_Mo_widthOf_0 : decode cd_Mo_widthOf 0 = .ok (.iload_n 0, 1) := by decide +kernel
theorem d_Mo_widthOf_1 : decode cd_Mo_widthOf 1 = .ok (.sipush 128, 3) := by decide +kernel
theorem d_Mo_widthOf_4 : decode cd_Mo_widthOf 4 = .ok (.if_icmp .ge 7, 3) := by decide +kernel
theorem d_Mo_widthOf_7 : decode cd_Mo_widthOf 7 = .ok (.iconst 1, 1) := by decide +kernel
theorem d_Mo_widthOf_8 : decode cd_Mo_widthOf 8 = .ok (.goto 26, 3) := by decide +kernel
theorem d_Mo_widthOf_11 : decode cd_Mo_widthOf 11 = .ok (.iload_n 0, 1) := by decide +kernel
theorem d_Mo_widthOf_12 : decode cd_Mo_widthOf 12 = .ok (.sipush 16384, 3) := by decide +kernel
theorem d_Mo_widthOf_15 : decode cd_Mo_widthOf 15 = .ok (.if_icmp .ge 7, 3) := by decide +kernel
theorem d_Mo_widthOf_18 : decode cd_Mo_widthOf 18 = .ok (.iconst 2, 1) := by decide +kernel
theorem d_Mo_widthOf_19 : decode cd_Mo_widthOf 19 = .ok (.goto 15, 3) := by decide +kernel
theorem d_Mo_widthOf_22 : decode cd_Mo_widthOf 22 = .ok (.iload_n 0, 1) := by decide +kernel
theorem d_Mo_widthOf_23 : decode cd_Mo_widthOf 23 = .ok (.ldc_w 291, 3) := by decide +kernel
theorem d_Mo_widthOf_26 : decode cd_Mo_widthOf 26 = .ok (.if_icmp .ge 7, 3) := by decide +kernel
theorem d_Mo_widthOf_29 : decode cd_Mo_widthOf 29 = .ok (.iconst 3, 1) := by decide +kernel
theorem d_Mo_widthOf_30 : decode cd_Mo_widthOf 30 = .ok (.goto 4, 3) := by decide +kernel
theorem d_Mo_widthOf_33 : decode cd_Mo_widthOf 33 = .ok (.iconst 4, 1) := by decide +kernel
theorem d_Mo_widthOf_34 : decode cd_Mo_widthOf 34 = .ok (.ireturn, 1) := by decide +kernel
theorem d_Mo_write_0 : decode cd_Mo_write 0 = .ok (.aload_n 0, 1) := by decide +kernel
theorem d_Mo_write_1 : decode cd_Mo_write 1 = .ok (.getfield 121, 3) := by decide +kernel
theorem d_Mo_write_4 : decode cd_Mo_write 4 = .ok (.aload_n 0, 1) := by decide +kernel
theorem d_Mo_write_5 : decode cd_Mo_write 5 = .ok (.getfield 292, 3) := by decide +kernel
theorem d_Mo_write_8 : decode cd_Mo_write 8 = .ok (.iload_n 1, 1) := by decide +kernel
theorem d_Mo_write_9 : decode cd_Mo_write 9 = .ok (.iastore, 1) := by decide +kernel
theorem d_Mo_write_10 : decode cd_Mo_write 10 = .ok (.aload_n 0, 1) := by decide +kernel
theorem d_Mo_write_11 : decode cd_Mo_write 11 = .ok (.dup, 1) := by decide +kernel
theorem d_Mo_write_12 : decode cd_Mo_write 12 = .ok (.getfield 292, 3) := by decide +kernel
theorem d_Mo_write_15 : decode cd_Mo_write 15 = .ok (.iconst 1, 1) := by decide +kernel
theorem d_Mo_write_16 : decode cd_Mo_write 16 = .ok (.iadd, 1) := by decide +kernel
theorem d_Mo_write_17 : decode cd_Mo_write 17 = .ok (.putfield 292, 3) := by decide +kernel
theorem d_Mo_write_20 : decode cd_Mo_write 20 = .ok (.return_, 1) := by decide +kernel
theorem d_Mo_writeNumber_0 : decode cd_Mo_writeNumber 0 = .ok (.iload_n 1, 1) := by decide +kernel
theorem d_Mo_writeNumber_1 : decode cd_Mo_writeNumber 1 = .ok (.invokestatic 295, 3) := by decide +kernel
theorem d_Mo_writeNumber_4 : decode cd_Mo_writeNumber 4 = .ok (.iconst 1, 1) := by decide +kernel
theorem d_Mo_writeNumber_5 : decode cd_Mo_writeNumber 5 = .ok (.isub, 1) := by decide +kernel
theorem d_Mo_writeNumber_6 : decode cd_Mo_writeNumber 6 = .ok (.istore_n 2, 1) := by decide +kernel
theorem d_Mo_writeNumber_7 : decode cd_Mo_writeNumber 7 = .ok (.iload_n 2, 1) := by decide +kernel
theorem d_Mo_writeNumber_8 : decode cd_Mo_writeNumber 8 = .ok (.ifCond .lt 34, 3) := by decide +kernel
theorem d_Mo_writeNumber_11 : decode cd_Mo_writeNumber 11 = .ok (.aload_n 0, 1) := by decide +kernel
theorem d_Mo_writeNumber_12 : decode cd_Mo_writeNumber 12 = .ok (.iload_n 1, 1) := by decide +kernel
theorem d_Mo_writeNumber_13 : decode cd_Mo_writeNumber 13 = .ok (.bipush 7, 2) := by decide +kernel
theorem d_Mo_writeNumber_15 : decode cd_Mo_writeNumber 15 = .ok (.iload_n 2, 1) := by decide +kernel
theorem d_Mo_writeNumber_16 : decode cd_Mo_writeNumber 16 = .ok (.imul, 1) := by decide +kernel
theorem d_Mo_writeNumber_17 : decode cd_Mo_writeNumber 17 = .ok (.ishr, 1) := by decide +kernel
theorem d_Mo_writeNumber_18 : decode cd_Mo_writeNumber 18 = .ok (.bipush 127, 2) := by decide +kernel
theorem d_Mo_writeNumber_20 : decode cd_Mo_writeNumber 20 = .ok (.iand, 1) := by decide +kernel
theorem d_Mo_writeNumber_21 : decode cd_Mo_writeNumber 21 = .ok (.iload_n 2, 1) := by decide +kernel
theorem d_Mo_writeNumber_22 : decode cd_Mo_writeNumber 22 = .ok (.ifCond .le 9, 3) := by decide +kernel
theorem d_Mo_writeNumber_25 : decode cd_Mo_writeNumber 25 = .ok (.sipush 128, 3) := by decide +kernel
theorem d_Mo_writeNumber_28 : decode cd_Mo_writeNumber 28 = .ok (.goto 4, 3) := by decide +kernel
theorem d_Mo_writeNumber_31 : decode cd_Mo_writeNumber 31 = .ok (.iconst 0, 1) := by decide +kernel
theorem d_Mo_writeNumber_32 : decode cd_Mo_writeNumber 32 = .ok (.iadd, 1) := by decide +kernel
theorem d_Mo_writeNumber_33 : decode cd_Mo_writeNumber 33 = .ok (.invokevirtual 298, 3) := by decide +kernel
theorem d_Mo_writeNumber_36 : decode cd_Mo_writeNumber 36 = .ok (.iinc 2 (-1), 3) := by decide +kernel
theorem d_Mo_writeNumber_39 : decode cd_Mo_writeNumber 39 = .ok (.goto (-32), 3) := by decide +kernel
theorem d_Mo_writeNumber_42 : decode cd_Mo_writeNumber 42 = .ok (.return_, 1) := by decide +kernel
theorem d_Mo_lay_0 : decode cd_Mo_lay 0 = .ok (.aload_n 0, 1) := by decide +kernel
theorem d_Mo_lay_1 : decode cd_Mo_lay 1 = .ok (.getfield 127, 3) := by decide +kernel
theorem d_Mo_lay_4 : decode cd_Mo_lay 4 = .ok (.sipush 1000, 3) := by decide +kernel
theorem d_Mo_lay_7 : decode cd_Mo_lay 7 = .ok (.iload_n 1, 1) := by decide +kernel
theorem d_Mo_lay_8 : decode cd_Mo_lay 8 = .ok (.imul, 1) := by decide +kernel
theorem d_Mo_lay_9 : decode cd_Mo_lay 9 = .ok (.aload_n 0, 1) := by decide +kernel
theorem d_Mo_lay_10 : decode cd_Mo_lay 10 = .ok (.getfield 124, 3) := by decide +kernel
theorem d_Mo_lay_13 : decode cd_Mo_lay 13 = .ok (.iload_n 1, 1) := by decide +kernel
theorem d_Mo_lay_14 : decode cd_Mo_lay 14 = .ok (.iaload, 1) := by decide +kernel
theorem d_Mo_lay_15 : decode cd_Mo_lay 15 = .ok (.iadd, 1) := by decide +kernel
theorem d_Mo_lay_16 : decode cd_Mo_lay 16 = .ok (.iload_n 2, 1) := by decide +kernel
theorem d_Mo_lay_17 : decode cd_Mo_lay 17 = .ok (.iastore, 1) := by decide +kernel
theorem d_Mo_lay_18 : decode cd_Mo_lay 18 = .ok (.aload_n 0, 1) := by decide +kernel
theorem d_Mo_lay_19 : decode cd_Mo_lay 19 = .ok (.getfield 124, 3) := by decide +kernel
theorem d_Mo_lay_22 : decode cd_Mo_lay 22 = .ok (.iload_n 1, 1) := by decide +kernel
theorem d_Mo_lay_23 : decode cd_Mo_lay 23 = .ok (.dup2, 1) := by decide +kernel
theorem d_Mo_lay_24 : decode cd_Mo_lay 24 = .ok (.iaload, 1) := by decide +kernel
theorem d_Mo_lay_25 : decode cd_Mo_lay 25 = .ok (.iconst 1, 1) := by decide +kernel
theorem d_Mo_lay_26 : decode cd_Mo_lay 26 = .ok (.iadd, 1) := by decide +kernel
theorem d_Mo_lay_27 : decode cd_Mo_lay 27 = .ok (.iastore, 1) := by decide +kernel
theorem d_Mo_lay_28 : decode cd_Mo_lay 28 = .ok (.return_, 1) := by decide +kernel
theorem d_Mo_layNumber_0 : decode cd_Mo_layNumber 0 = .ok (.iload_n 2, 1) := by decide +kernel
theorem d_Mo_layNumber_1 : decode cd_Mo_layNumber 1 = .ok (.invokestatic 295, 3) := by decide +kernel
theorem d_Mo_layNumber_4 : decode cd_Mo_layNumber 4 = .ok (.iconst 1, 1) := by decide +kernel
theorem d_Mo_layNumber_5 : decode cd_Mo_layNumber 5 = .ok (.isub, 1) := by decide +kernel
theorem d_Mo_layNumber_6 : decode cd_Mo_layNumber 6 = .ok (.istore_n 3, 1) := by decide +kernel
theorem d_Mo_layNumber_7 : decode cd_Mo_layNumber 7 = .ok (.iload_n 3, 1) := by decide +kernel
theorem d_Mo_layNumber_8 : decode cd_Mo_layNumber 8 = .ok (.ifCond .lt 35, 3) := by decide +kernel
theorem d_Mo_layNumber_11 : decode cd_Mo_layNumber 11 = .ok (.aload_n 0, 1) := by decide +kernel
theorem d_Mo_layNumber_12 : decode cd_Mo_layNumber 12 = .ok (.iload_n 1, 1) := by decide +kernel
theorem d_Mo_layNumber_13 : decode cd_Mo_layNumber 13 = .ok (.iload_n 2, 1) := by decide +kernel
theorem d_Mo_layNumber_14 : decode cd_Mo_layNumber 14 = .ok (.bipush 7, 2) := by decide +kernel
theorem d_Mo_layNumber_16 : decode cd_Mo_layNumber 16 = .ok (.iload_n 3, 1) := by decide +kernel
theorem d_Mo_layNumber_17 : decode cd_Mo_layNumber 17 = .ok (.imul, 1) := by decide +kernel
theorem d_Mo_layNumber_18 : decode cd_Mo_layNumber 18 = .ok (.ishr, 1) := by decide +kernel
theorem d_Mo_layNumber_19 : decode cd_Mo_layNumber 19 = .ok (.bipush 127, 2) := by decide +kernel
theorem d_Mo_layNumber_21 : decode cd_Mo_layNumber 21 = .ok (.iand, 1) := by decide +kernel
theorem d_Mo_layNumber_22 : decode cd_Mo_layNumber 22 = .ok (.iload_n 3, 1) := by decide +kernel
theorem d_Mo_layNumber_23 : decode cd_Mo_layNumber 23 = .ok (.ifCond .le 9, 3) := by decide +kernel
theorem d_Mo_layNumber_26 : decode cd_Mo_layNumber 26 = .ok (.sipush 128, 3) := by decide +kernel
theorem d_Mo_layNumber_29 : decode cd_Mo_layNumber 29 = .ok (.goto 4, 3) := by decide +kernel
theorem d_Mo_layNumber_32 : decode cd_Mo_layNumber 32 = .ok (.iconst 0, 1) := by decide +kernel
theorem d_Mo_layNumber_33 : decode cd_Mo_layNumber 33 = .ok (.iadd, 1) := by decide +kernel
theorem d_Mo_layNumber_34 : decode cd_Mo_layNumber 34 = .ok (.invokevirtual 301, 3) := by decide +kernel
theorem d_Mo_layNumber_37 : decode cd_Mo_layNumber 37 = .ok (.iinc 3 (-1), 3) := by decide +kernel
theorem d_Mo_layNumber_40 : decode cd_Mo_layNumber 40 = .ok (.goto (-33), 3) := by decide +kernel
theorem d_Mo_layNumber_43 : decode cd_Mo_layNumber 43 = .ok (.return_, 1) := by decide +kernel
theorem d_Mo_layAddress_0 : decode cd_Mo_layAddress 0 = .ok (.iload_n 2, 1) := by decide +kernel
theorem d_Mo_layAddress_1 : decode cd_Mo_layAddress 1 = .ok (.iconst 5, 1) := by decide +kernel
theorem d_Mo_layAddress_2 : decode cd_Mo_layAddress 2 = .ok (.if_icmp .le 16, 3) := by decide +kernel
theorem d_Mo_layAddress_5 : decode cd_Mo_layAddress 5 = .ok (.aload_n 0, 1) := by decide +kernel
theorem d_Mo_layAddress_6 : decode cd_Mo_layAddress 6 = .ok (.iconst 2, 1) := by decide +kernel
theorem d_Mo_layAddress_7 : decode cd_Mo_layAddress 7 = .ok (.iload_n 1, 1) := by decide +kernel
theorem d_Mo_layAddress_8 : decode cd_Mo_layAddress 8 = .ok (.sipush 256, 3) := by decide +kernel
theorem d_Mo_layAddress_11 : decode cd_Mo_layAddress 11 = .ok (.irem, 1) := by decide +kernel
theorem d_Mo_layAddress_12 : decode cd_Mo_layAddress 12 = .ok (.invokevirtual 301, 3) := by decide +kernel
theorem d_Mo_layAddress_15 : decode cd_Mo_layAddress 15 = .ok (.goto 15, 3) := by decide +kernel
theorem d_Mo_layAddress_18 : decode cd_Mo_layAddress 18 = .ok (.aload_n 0, 1) := by decide +kernel
theorem d_Mo_layAddress_19 : decode cd_Mo_layAddress 19 = .ok (.iconst 2, 1) := by decide +kernel
theorem d_Mo_layAddress_20 : decode cd_Mo_layAddress 20 = .ok (.aload_n 0, 1) := by decide +kernel
theorem d_Mo_layAddress_21 : decode cd_Mo_layAddress 21 = .ok (.iload_n 2, 1) := by decide +kernel
theorem d_Mo_layAddress_22 : decode cd_Mo_layAddress 22 = .ok (.iload_n 1, 1) := by decide +kernel
theorem d_Mo_layAddress_23 : decode cd_Mo_layAddress 23 = .ok (.iload_n 3, 1) := by decide +kernel
theorem d_Mo_layAddress_24 : decode cd_Mo_layAddress 24 = .ok (.invokevirtual 287, 3) := by decide +kernel
theorem d_Mo_layAddress_27 : decode cd_Mo_layAddress 27 = .ok (.invokevirtual 304, 3) := by decide +kernel
theorem d_Mo_layAddress_30 : decode cd_Mo_layAddress 30 = .ok (.aload_n 0, 1) := by decide +kernel
theorem d_Mo_layAddress_31 : decode cd_Mo_layAddress 31 = .ok (.iload_n 1, 1) := by decide +kernel
theorem d_Mo_layAddress_32 : decode cd_Mo_layAddress 32 = .ok (.invokevirtual 307, 3) := by decide +kernel
theorem d_Mo_layAddress_35 : decode cd_Mo_layAddress 35 = .ok (.return_, 1) := by decide +kernel
theorem d_Mo_layAdded_0 : decode cd_Mo_layAdded 0 = .ok (.iconst 0, 1) := by decide +kernel
theorem d_Mo_layAdded_1 : decode cd_Mo_layAdded 1 = .ok (.istore_n 3, 1) := by decide +kernel
theorem d_Mo_layAdded_2 : decode cd_Mo_layAdded 2 = .ok (.iload_n 3, 1) := by decide +kernel
theorem d_Mo_layAdded_3 : decode cd_Mo_layAdded 3 = .ok (.iload_n 2, 1) := by decide +kernel
theorem d_Mo_layAdded_4 : decode cd_Mo_layAdded 4 = .ok (.if_icmp .ge 26, 3) := by decide +kernel
theorem d_Mo_layAdded_7 : decode cd_Mo_layAdded 7 = .ok (.aload_n 0, 1) := by decide +kernel
theorem d_Mo_layAdded_8 : decode cd_Mo_layAdded 8 = .ok (.iconst 0, 1) := by decide +kernel
theorem d_Mo_layAdded_9 : decode cd_Mo_layAdded 9 = .ok (.aload_n 0, 1) := by decide +kernel
theorem d_Mo_layAdded_10 : decode cd_Mo_layAdded 10 = .ok (.getfield 77, 3) := by decide +kernel
theorem d_Mo_layAdded_13 : decode cd_Mo_layAdded 13 = .ok (.sipush 300, 3) := by decide +kernel
theorem d_Mo_layAdded_16 : decode cd_Mo_layAdded 16 = .ok (.iload_n 1, 1) := by decide +kernel
theorem d_Mo_layAdded_17 : decode cd_Mo_layAdded 17 = .ok (.iadd, 1) := by decide +kernel
theorem d_Mo_layAdded_18 : decode cd_Mo_layAdded 18 = .ok (.iload_n 3, 1) := by decide +kernel
theorem d_Mo_layAdded_19 : decode cd_Mo_layAdded 19 = .ok (.iadd, 1) := by decide +kernel
theorem d_Mo_layAdded_20 : decode cd_Mo_layAdded 20 = .ok (.iaload, 1) := by decide +kernel
theorem d_Mo_layAdded_21 : decode cd_Mo_layAdded 21 = .ok (.invokevirtual 301, 3) := by decide +kernel
theorem d_Mo_layAdded_24 : decode cd_Mo_layAdded 24 = .ok (.iinc 3 1, 3) := by decide +kernel
theorem d_Mo_layAdded_27 : decode cd_Mo_layAdded 27 = .ok (.goto (-25), 3) := by decide +kernel
theorem d_Mo_layAdded_30 : decode cd_Mo_layAdded 30 = .ok (.return_, 1) := by decide +kernel
theorem d_Mo_layOne_0 : decode cd_Mo_layOne 0 = .ok (.aload_n 0, 1) := by decide +kernel
theorem d_Mo_layOne_1 : decode cd_Mo_layOne 1 = .ok (.getfield 106, 3) := by decide +kernel
theorem d_Mo_layOne_4 : decode cd_Mo_layOne 4 = .ok (.iload_n 1, 1) := by decide +kernel
theorem d_Mo_layOne_5 : decode cd_Mo_layOne 5 = .ok (.iaload, 1) := by decide +kernel
theorem d_Mo_layOne_6 : decode cd_Mo_layOne 6 = .ok (.istore 4, 2) := by decide +kernel
theorem d_Mo_layOne_8 : decode cd_Mo_layOne 8 = .ok (.aload_n 0, 1) := by decide +kernel
theorem d_Mo_layOne_9 : decode cd_Mo_layOne 9 = .ok (.getfield 103, 3) := by decide +kernel
theorem d_Mo_layOne_12 : decode cd_Mo_layOne 12 = .ok (.iload_n 1, 1) := by decide +kernel
theorem d_Mo_layOne_13 : decode cd_Mo_layOne 13 = .ok (.iaload, 1) := by decide +kernel
theorem d_Mo_layOne_14 : decode cd_Mo_layOne 14 = .ok (.iconst 1, 1) := by decide +kernel
theorem d_Mo_layOne_15 : decode cd_Mo_layOne 15 = .ok (.if_icmp .ne 47, 3) := by decide +kernel
theorem d_Mo_layOne_18 : decode cd_Mo_layOne 18 = .ok (.aload_n 0, 1) := by decide +kernel
theorem d_Mo_layOne_19 : decode cd_Mo_layOne 19 = .ok (.iconst 1, 1) := by decide +kernel
theorem d_Mo_layOne_20 : decode cd_Mo_layOne 20 = .ok (.iload 4, 2) := by decide +kernel
theorem d_Mo_layOne_22 : decode cd_Mo_layOne 22 = .ok (.bipush 18, 2) := by decide +kernel
theorem d_Mo_layOne_24 : decode cd_Mo_layOne 24 = .ok (.if_icmp .ge 10, 3) := by decide +kernel
theorem d_Mo_layOne_27 : decode cd_Mo_layOne 27 = .ok (.iconst 1, 1) := by decide +kernel
theorem d_Mo_layOne_28 : decode cd_Mo_layOne 28 = .ok (.iload 4, 2) := by decide +kernel
theorem d_Mo_layOne_30 : decode cd_Mo_layOne 30 = .ok (.iadd, 1) := by decide +kernel
theorem d_Mo_layOne_31 : decode cd_Mo_layOne 31 = .ok (.goto 4, 3) := by decide +kernel
theorem d_Mo_layOne_34 : decode cd_Mo_layOne 34 = .ok (.iconst 1, 1) := by decide +kernel
theorem d_Mo_layOne_35 : decode cd_Mo_layOne 35 = .ok (.invokevirtual 301, 3) := by decide +kernel
theorem d_Mo_layOne_38 : decode cd_Mo_layOne 38 = .ok (.iload 4, 2) := by decide +kernel
theorem d_Mo_layOne_40 : decode cd_Mo_layOne 40 = .ok (.bipush 17, 2) := by decide +kernel
theorem d_Mo_layOne_42 : decode cd_Mo_layOne 42 = .ok (.if_icmp .le 10, 3) := by decide +kernel
theorem d_Mo_layOne_45 : decode cd_Mo_layOne 45 = .ok (.aload_n 0, 1) := by decide +kernel
theorem d_Mo_layOne_46 : decode cd_Mo_layOne 46 = .ok (.iconst 1, 1) := by decide +kernel
theorem d_Mo_layOne_47 : decode cd_Mo_layOne 47 = .ok (.iload 4, 2) := by decide +kernel
theorem d_Mo_layOne_49 : decode cd_Mo_layOne 49 = .ok (.invokevirtual 304, 3) := by decide +kernel
theorem d_Mo_layOne_52 : decode cd_Mo_layOne 52 = .ok (.aload_n 0, 1) := by decide +kernel
theorem d_Mo_layOne_53 : decode cd_Mo_layOne 53 = .ok (.iload_n 2, 1) := by decide +kernel
theorem d_Mo_layOne_54 : decode cd_Mo_layOne 54 = .ok (.iload 4, 2) := by decide +kernel
theorem d_Mo_layOne_56 : decode cd_Mo_layOne 56 = .ok (.invokevirtual 310, 3) := by decide +kernel
theorem d_Mo_layOne_59 : decode cd_Mo_layOne 59 = .ok (.goto 120, 3) := by decide +kernel
theorem d_Mo_layOne_62 : decode cd_Mo_layOne 62 = .ok (.aload_n 0, 1) := by decide +kernel
theorem d_Mo_layOne_63 : decode cd_Mo_layOne 63 = .ok (.getfield 103, 3) := by decide +kernel
theorem d_Mo_layOne_66 : decode cd_Mo_layOne 66 = .ok (.iload_n 1, 1) := by decide +kernel
theorem d_Mo_layOne_67 : decode cd_Mo_layOne 67 = .ok (.iaload, 1) := by decide +kernel
theorem d_Mo_layOne_68 : decode cd_Mo_layOne 68 = .ok (.iconst 2, 1) := by decide +kernel
theorem d_Mo_layOne_69 : decode cd_Mo_layOne 69 = .ok (.if_icmp .ne 25, 3) := by decide +kernel
theorem d_Mo_layOne_72 : decode cd_Mo_layOne 72 = .ok (.aload_n 0, 1) := by decide +kernel
theorem d_Mo_layOne_73 : decode cd_Mo_layOne 73 = .ok (.iconst 1, 1) := by decide +kernel
theorem d_Mo_layOne_74 : decode cd_Mo_layOne 74 = .ok (.iconst 0, 1) := by decide +kernel
theorem d_Mo_layOne_75 : decode cd_Mo_layOne 75 = .ok (.invokevirtual 301, 3) := by decide +kernel
theorem d_Mo_layOne_78 : decode cd_Mo_layOne 78 = .ok (.aload_n 0, 1) := by decide +kernel
theorem d_Mo_layOne_79 : decode cd_Mo_layOne 79 = .ok (.iconst 1, 1) := by decide +kernel
theorem d_Mo_layOne_80 : decode cd_Mo_layOne 80 = .ok (.iload 4, 2) := by decide +kernel
theorem d_Mo_layOne_82 : decode cd_Mo_layOne 82 = .ok (.invokevirtual 304, 3) := by decide +kernel
theorem d_Mo_layOne_85 : decode cd_Mo_layOne 85 = .ok (.aload_n 0, 1) := by decide +kernel
theorem d_Mo_layOne_86 : decode cd_Mo_layOne 86 = .ok (.iload_n 2, 1) := by decide +kernel
theorem d_Mo_layOne_87 : decode cd_Mo_layOne 87 = .ok (.iconst 1, 1) := by decide +kernel
theorem d_Mo_layOne_88 : decode cd_Mo_layOne 88 = .ok (.invokevirtual 310, 3) := by decide +kernel
theorem d_Mo_layOne_91 : decode cd_Mo_layOne 91 = .ok (.goto 88, 3) := by decide +kernel
theorem d_Mo_layOne_94 : decode cd_Mo_layOne 94 = .ok (.aload_n 0, 1) := by decide +kernel
theorem d_Mo_layOne_95 : decode cd_Mo_layOne 95 = .ok (.aload_n 0, 1) := by decide +kernel
theorem d_Mo_layOne_96 : decode cd_Mo_layOne 96 = .ok (.getfield 109, 3) := by decide +kernel
theorem d_Mo_layOne_99 : decode cd_Mo_layOne 99 = .ok (.iload_n 1, 1) := by decide +kernel
theorem d_Mo_layOne_100 : decode cd_Mo_layOne 100 = .ok (.iaload, 1) := by decide +kernel
theorem d_Mo_layOne_101 : decode cd_Mo_layOne 101 = .ok (.iload_n 3, 1) := by decide +kernel
theorem d_Mo_layOne_102 : decode cd_Mo_layOne 102 = .ok (.invokevirtual 313, 3) := by decide +kernel
theorem d_Mo_layOne_105 : decode cd_Mo_layOne 105 = .ok (.istore 5, 2) := by decide +kernel
theorem d_Mo_layOne_107 : decode cd_Mo_layOne 107 = .ok (.iload 4, 2) := by decide +kernel
theorem d_Mo_layOne_109 : decode cd_Mo_layOne 109 = .ok (.iconst 4, 1) := by decide +kernel
theorem d_Mo_layOne_110 : decode cd_Mo_layOne 110 = .ok (.if_icmp .lt 14, 3) := by decide +kernel
theorem d_Mo_layOne_113 : decode cd_Mo_layOne 113 = .ok (.iload 4, 2) := by decide +kernel
theorem d_Mo_layOne_115 : decode cd_Mo_layOne 115 = .ok (.bipush 18, 2) := by decide +kernel
theorem d_Mo_layOne_117 : decode cd_Mo_layOne 117 = .ok (.if_icmp .gt 7, 3) := by decide +kernel
theorem d_Mo_layOne_120 : decode cd_Mo_layOne 120 = .ok (.iconst 1, 1) := by decide +kernel
theorem d_Mo_layOne_121 : decode cd_Mo_layOne 121 = .ok (.goto 4, 3) := by decide +kernel
theorem d_Mo_layOne_124 : decode cd_Mo_layOne 124 = .ok (.iconst 0, 1) := by decide +kernel
theorem d_Mo_layOne_125 : decode cd_Mo_layOne 125 = .ok (.istore 6, 2) := by decide +kernel
theorem d_Mo_layOne_127 : decode cd_Mo_layOne 127 = .ok (.aload_n 0, 1) := by decide +kernel
theorem d_Mo_layOne_128 : decode cd_Mo_layOne 128 = .ok (.iconst 1, 1) := by decide +kernel
theorem d_Mo_layOne_129 : decode cd_Mo_layOne 129 = .ok (.bipush 19, 2) := by decide +kernel
theorem d_Mo_layOne_131 : decode cd_Mo_layOne 131 = .ok (.bipush 16, 2) := by decide +kernel
theorem d_Mo_layOne_133 : decode cd_Mo_layOne 133 = .ok (.iload 5, 2) := by decide +kernel
theorem d_Mo_layOne_135 : decode cd_Mo_layOne 135 = .ok (.imul, 1) := by decide +kernel
theorem d_Mo_layOne_136 : decode cd_Mo_layOne 136 = .ok (.iadd, 1) := by decide +kernel
theorem d_Mo_layOne_137 : decode cd_Mo_layOne 137 = .ok (.iload 6, 2) := by decide +kernel
theorem d_Mo_layOne_139 : decode cd_Mo_layOne 139 = .ok (.ifCond .eq 10, 3) := by decide +kernel
theorem d_Mo_layOne_142 : decode cd_Mo_layOne 142 = .ok (.iload 4, 2) := by decide +kernel
theorem d_Mo_layOne_144 : decode cd_Mo_layOne 144 = .ok (.iconst 3, 1) := by decide +kernel
theorem d_Mo_layOne_145 : decode cd_Mo_layOne 145 = .ok (.isub, 1) := by decide +kernel
theorem d_Mo_layOne_146 : decode cd_Mo_layOne 146 = .ok (.goto 4, 3) := by decide +kernel
theorem d_Mo_layOne_149 : decode cd_Mo_layOne 149 = .ok (.iconst 0, 1) := by decide +kernel
theorem d_Mo_layOne_150 : decode cd_Mo_layOne 150 = .ok (.iadd, 1) := by decide +kernel
theorem d_Mo_layOne_151 : decode cd_Mo_layOne 151 = .ok (.invokevirtual 301, 3) := by decide +kernel
theorem d_Mo_layOne_154 : decode cd_Mo_layOne 154 = .ok (.iload 6, 2) := by decide +kernel
theorem d_Mo_layOne_156 : decode cd_Mo_layOne 156 = .ok (.ifCond .ne 10, 3) := by decide +kernel
theorem d_Mo_layOne_159 : decode cd_Mo_layOne 159 = .ok (.aload_n 0, 1) := by decide +kernel
theorem d_Mo_layOne_160 : decode cd_Mo_layOne 160 = .ok (.iconst 1, 1) := by decide +kernel
theorem d_Mo_layOne_161 : decode cd_Mo_layOne 161 = .ok (.iload 4, 2) := by decide +kernel
theorem d_Mo_layOne_163 : decode cd_Mo_layOne 163 = .ok (.invokevirtual 304, 3) := by decide +kernel
theorem d_Mo_layOne_166 : decode cd_Mo_layOne 166 = .ok (.aload_n 0, 1) := by decide +kernel
theorem d_Mo_layOne_167 : decode cd_Mo_layOne 167 = .ok (.aload_n 0, 1) := by decide +kernel
theorem d_Mo_layOne_168 : decode cd_Mo_layOne 168 = .ok (.getfield 109, 3) := by decide +kernel
theorem d_Mo_layOne_171 : decode cd_Mo_layOne 171 = .ok (.iload_n 1, 1) := by decide +kernel
theorem d_Mo_layOne_172 : decode cd_Mo_layOne 172 = .ok (.iaload, 1) := by decide +kernel
theorem d_Mo_layOne_173 : decode cd_Mo_layOne 173 = .ok (.iload 5, 2) := by decide +kernel
theorem d_Mo_layOne_175 : decode cd_Mo_layOne 175 = .ok (.iload_n 3, 1) := by decide +kernel
theorem d_Mo_layOne_176 : decode cd_Mo_layOne 176 = .ok (.invokevirtual 316, 3) := by decide +kernel
theorem d_Mo_layOne_179 : decode cd_Mo_layOne 179 = .ok (.return_, 1) := by decide +kernel
theorem d_Mo_pairCode_0 : decode cd_Mo_pairCode 0 = .ok (.iload_n 1, 1) := by decide +kernel
theorem d_Mo_pairCode_1 : decode cd_Mo_pairCode 1 = .ok (.iconst 4, 1) := by decide +kernel
theorem d_Mo_pairCode_2 : decode cd_Mo_pairCode 2 = .ok (.if_icmp .gt 24, 3) := by decide +kernel
theorem d_Mo_pairCode_5 : decode cd_Mo_pairCode 5 = .ok (.iload_n 2, 1) := by decide +kernel
theorem d_Mo_pairCode_6 : decode cd_Mo_pairCode 6 = .ok (.iconst 4, 1) := by decide +kernel
theorem d_Mo_pairCode_7 : decode cd_Mo_pairCode 7 = .ok (.if_icmp .lt 19, 3) := by decide +kernel
theorem d_Mo_pairCode_10 : decode cd_Mo_pairCode 10 = .ok (.iload_n 2, 1) := by decide +kernel
theorem d_Mo_pairCode_11 : decode cd_Mo_pairCode 11 = .ok (.bipush 6, 2) := by decide +kernel
theorem d_Mo_pairCode_13 : decode cd_Mo_pairCode 13 = .ok (.if_icmp .gt 13, 3) := by decide +kernel
theorem d_Mo_pairCode_16 : decode cd_Mo_pairCode 16 = .ok (.iload_n 3, 1) := by decide +kernel
theorem d_Mo_pairCode_17 : decode cd_Mo_pairCode 17 = .ok (.iconst 5, 1) := by decide +kernel
theorem d_Mo_pairCode_18 : decode cd_Mo_pairCode 18 = .ok (.if_icmp .le 10, 3) := by decide +kernel
theorem d_Mo_pairCode_21 : decode cd_Mo_pairCode 21 = .ok (.iload_n 2, 1) := by decide +kernel
theorem d_Mo_pairCode_22 : decode cd_Mo_pairCode 22 = .ok (.iconst 4, 1) := by decide +kernel
theorem d_Mo_pairCode_23 : decode cd_Mo_pairCode 23 = .ok (.if_icmp .le 5, 3) := by decide +kernel
theorem d_Mo_pairCode_26 : decode cd_Mo_pairCode 26 = .ok (.iconst (-1), 1) := by decide +kernel
theorem d_Mo_pairCode_27 : decode cd_Mo_pairCode 27 = .ok (.ireturn, 1) := by decide +kernel
theorem d_Mo_pairCode_28 : decode cd_Mo_pairCode 28 = .ok (.iload_n 3, 1) := by decide +kernel
theorem d_Mo_pairCode_29 : decode cd_Mo_pairCode 29 = .ok (.bipush 6, 2) := by decide +kernel
theorem d_Mo_pairCode_31 : decode cd_Mo_pairCode 31 = .ok (.if_icmp .ge 24, 3) := by decide +kernel
theorem d_Mo_pairCode_34 : decode cd_Mo_pairCode 34 = .ok (.sipush 163, 3) := by decide +kernel
theorem d_Mo_pairCode_37 : decode cd_Mo_pairCode 37 = .ok (.bipush 12, 2) := by decide +kernel
theorem d_Mo_pairCode_39 : decode cd_Mo_pairCode 39 = .ok (.iload_n 3, 1) := by decide +kernel
theorem d_Mo_pairCode_40 : decode cd_Mo_pairCode 40 = .ok (.imul, 1) := by decide +kernel
theorem d_Mo_pairCode_41 : decode cd_Mo_pairCode 41 = .ok (.iadd, 1) := by decide +kernel
theorem d_Mo_pairCode_42 : decode cd_Mo_pairCode 42 = .ok (.iconst 3, 1) := by decide +kernel
theorem d_Mo_pairCode_43 : decode cd_Mo_pairCode 43 = .ok (.iload_n 1, 1) := by decide +kernel
theorem d_Mo_pairCode_44 : decode cd_Mo_pairCode 44 = .ok (.iconst 1, 1) := by decide +kernel
theorem d_Mo_pairCode_45 : decode cd_Mo_pairCode 45 = .ok (.isub, 1) := by decide +kernel
theorem d_Mo_pairCode_46 : decode cd_Mo_pairCode 46 = .ok (.imul, 1) := by decide +kernel
theorem d_Mo_pairCode_47 : decode cd_Mo_pairCode 47 = .ok (.iadd, 1) := by decide +kernel
theorem d_Mo_pairCode_48 : decode cd_Mo_pairCode 48 = .ok (.iload_n 2, 1) := by decide +kernel
theorem d_Mo_pairCode_49 : decode cd_Mo_pairCode 49 = .ok (.iadd, 1) := by decide +kernel
theorem d_Mo_pairCode_50 : decode cd_Mo_pairCode 50 = .ok (.iconst 4, 1) := by decide +kernel
theorem d_Mo_pairCode_51 : decode cd_Mo_pairCode 51 = .ok (.isub, 1) := by decide +kernel
theorem d_Mo_pairCode_52 : decode cd_Mo_pairCode 52 = .ok (.goto 17, 3) := by decide +kernel
theorem d_Mo_pairCode_55 : decode cd_Mo_pairCode 55 = .ok (.sipush 235, 3) := by decide +kernel
theorem d_Mo_pairCode_58 : decode cd_Mo_pairCode 58 = .ok (.iconst 4, 1) := by decide +kernel
theorem d_Mo_pairCode_59 : decode cd_Mo_pairCode 59 = .ok (.iload_n 3, 1) := by decide +kernel
theorem d_Mo_pairCode_60 : decode cd_Mo_pairCode 60 = .ok (.bipush 6, 2) := by decide +kernel
theorem d_Mo_pairCode_62 : decode cd_Mo_pairCode 62 = .ok (.isub, 1) := by decide +kernel
theorem d_Mo_pairCode_63 : decode cd_Mo_pairCode 63 = .ok (.imul, 1) := by decide +kernel
theorem d_Mo_pairCode_64 : decode cd_Mo_pairCode 64 = .ok (.iadd, 1) := by decide +kernel
theorem d_Mo_pairCode_65 : decode cd_Mo_pairCode 65 = .ok (.iload_n 1, 1) := by decide +kernel
theorem d_Mo_pairCode_66 : decode cd_Mo_pairCode 66 = .ok (.iadd, 1) := by decide +kernel
theorem d_Mo_pairCode_67 : decode cd_Mo_pairCode 67 = .ok (.iconst 1, 1) := by decide +kernel
theorem d_Mo_pairCode_68 : decode cd_Mo_pairCode 68 = .ok (.isub, 1) := by decide +kernel
theorem d_Mo_pairCode_69 : decode cd_Mo_pairCode 69 = .ok (.ireturn, 1) := by decide +kernel
theorem d_Mo_layWindow_0 : decode cd_Mo_layWindow 0 = .ok (.aload_n 0, 1) := by decide +kernel
theorem d_Mo_layWindow_1 : decode cd_Mo_layWindow 1 = .ok (.getfield 124, 3) := by decide +kernel
theorem d_Mo_layWindow_4 : decode cd_Mo_layWindow 4 = .ok (.iconst 0, 1) := by decide +kernel
theorem d_Mo_layWindow_5 : decode cd_Mo_layWindow 5 = .ok (.iconst 0, 1) := by decide +kernel
theorem d_Mo_layWindow_6 : decode cd_Mo_layWindow 6 = .ok (.iastore, 1) := by decide +kernel
theorem d_Mo_layWindow_7 : decode cd_Mo_layWindow 7 = .ok (.aload_n 0, 1) := by decide +kernel
theorem d_Mo_layWindow_8 : decode cd_Mo_layWindow 8 = .ok (.getfield 124, 3) := by decide +kernel
theorem d_Mo_layWindow_11 : decode cd_Mo_layWindow 11 = .ok (.iconst 1, 1) := by decide +kernel
theorem d_Mo_layWindow_12 : decode cd_Mo_layWindow 12 = .ok (.iconst 0, 1) := by decide +kernel
theorem d_Mo_layWindow_13 : decode cd_Mo_layWindow 13 = .ok (.iastore, 1) := by decide +kernel
theorem d_Mo_layWindow_14 : decode cd_Mo_layWindow 14 = .ok (.aload_n 0, 1) := by decide +kernel
theorem d_Mo_layWindow_15 : decode cd_Mo_layWindow 15 = .ok (.getfield 124, 3) := by decide +kernel
theorem d_Mo_layWindow_18 : decode cd_Mo_layWindow 18 = .ok (.iconst 2, 1) := by decide +kernel
theorem d_Mo_layWindow_19 : decode cd_Mo_layWindow 19 = .ok (.iconst 0, 1) := by decide +kernel
theorem d_Mo_layWindow_20 : decode cd_Mo_layWindow 20 = .ok (.iastore, 1) := by decide +kernel
theorem d_Mo_layWindow_21 : decode cd_Mo_layWindow 21 = .ok (.aload_n 0, 1) := by decide +kernel
theorem d_Mo_layWindow_22 : decode cd_Mo_layWindow 22 = .ok (.iconst 4, 1) := by decide +kernel
theorem d_Mo_layWindow_23 : decode cd_Mo_layWindow 23 = .ok (.iconst 3, 1) := by decide +kernel
theorem d_Mo_layWindow_24 : decode cd_Mo_layWindow 24 = .ok (.invokevirtual 319, 3) := by decide +kernel
theorem d_Mo_layWindow_27 : decode cd_Mo_layWindow 27 = .ok (.iload_n 2, 1) := by decide +kernel
theorem d_Mo_layWindow_28 : decode cd_Mo_layWindow 28 = .ok (.aload_n 0, 1) := by decide +kernel
theorem d_Mo_layWindow_29 : decode cd_Mo_layWindow 29 = .ok (.getfield 246, 3) := by decide +kernel
theorem d_Mo_layWindow_32 : decode cd_Mo_layWindow 32 = .ok (.idiv, 1) := by decide +kernel
theorem d_Mo_layWindow_33 : decode cd_Mo_layWindow 33 = .ok (.istore_n 3, 1) := by decide +kernel
theorem d_Mo_layWindow_34 : decode cd_Mo_layWindow 34 = .ok (.iload_n 1, 1) := by decide +kernel
theorem d_Mo_layWindow_35 : decode cd_Mo_layWindow 35 = .ok (.istore 4, 2) := by decide +kernel
theorem d_Mo_layWindow_37 : decode cd_Mo_layWindow 37 = .ok (.iload_n 2, 1) := by decide +kernel
theorem d_Mo_layWindow_38 : decode cd_Mo_layWindow 38 = .ok (.istore 5, 2) := by decide +kernel
theorem d_Mo_layWindow_40 : decode cd_Mo_layWindow 40 = .ok (.iload 4, 2) := by decide +kernel
theorem d_Mo_layWindow_42 : decode cd_Mo_layWindow 42 = .ok (.aload_n 0, 1) := by decide +kernel
theorem d_Mo_layWindow_43 : decode cd_Mo_layWindow 43 = .ok (.getfield 100, 3) := by decide +kernel
theorem d_Mo_layWindow_46 : decode cd_Mo_layWindow 46 = .ok (.if_icmp .ge 393, 3) := by decide +kernel
theorem d_Mo_layWindow_49 : decode cd_Mo_layWindow 49 = .ok (.aload_n 0, 1) := by decide +kernel
theorem d_Mo_layWindow_50 : decode cd_Mo_layWindow 50 = .ok (.getfield 112, 3) := by decide +kernel
theorem d_Mo_layWindow_53 : decode cd_Mo_layWindow 53 = .ok (.iload 4, 2) := by decide +kernel
theorem d_Mo_layWindow_55 : decode cd_Mo_layWindow 55 = .ok (.iaload, 1) := by decide +kernel
theorem d_Mo_layWindow_56 : decode cd_Mo_layWindow 56 = .ok (.iload_n 3, 1) := by decide +kernel
theorem d_Mo_layWindow_57 : decode cd_Mo_layWindow 57 = .ok (.if_icmp .ne 382, 3) := by decide +kernel
theorem d_Mo_layWindow_60 : decode cd_Mo_layWindow 60 = .ok (.iload 4, 2) := by decide +kernel
theorem d_Mo_layWindow_62 : decode cd_Mo_layWindow 62 = .ok (.iconst 1, 1) := by decide +kernel
theorem d_Mo_layWindow_63 : decode cd_Mo_layWindow 63 = .ok (.iadd, 1) := by decide +kernel
theorem d_Mo_layWindow_64 : decode cd_Mo_layWindow 64 = .ok (.aload_n 0, 1) := by decide +kernel
theorem d_Mo_layWindow_65 : decode cd_Mo_layWindow 65 = .ok (.getfield 100, 3) := by decide +kernel
theorem d_Mo_layWindow_68 : decode cd_Mo_layWindow 68 = .ok (.if_icmp .ge 20, 3) := by decide +kernel
theorem d_Mo_layWindow_71 : decode cd_Mo_layWindow 71 = .ok (.aload_n 0, 1) := by decide +kernel
theorem d_Mo_layWindow_72 : decode cd_Mo_layWindow 72 = .ok (.getfield 112, 3) := by decide +kernel
theorem d_Mo_layWindow_75 : decode cd_Mo_layWindow 75 = .ok (.iload 4, 2) := by decide +kernel
theorem d_Mo_layWindow_77 : decode cd_Mo_layWindow 77 = .ok (.iconst 1, 1) := by decide +kernel
theorem d_Mo_layWindow_78 : decode cd_Mo_layWindow 78 = .ok (.iadd, 1) := by decide +kernel
theorem d_Mo_layWindow_79 : decode cd_Mo_layWindow 79 = .ok (.iaload, 1) := by decide +kernel
theorem d_Mo_layWindow_80 : decode cd_Mo_layWindow 80 = .ok (.iload_n 3, 1) := by decide +kernel
theorem d_Mo_layWindow_81 : decode cd_Mo_layWindow 81 = .ok (.if_icmp .ne 7, 3) := by decide +kernel
theorem d_Mo_layWindow_84 : decode cd_Mo_layWindow 84 = .ok (.iconst 1, 1) := by decide +kernel
theorem d_Mo_layWindow_85 : decode cd_Mo_layWindow 85 = .ok (.goto 4, 3) := by decide +kernel
theorem d_Mo_layWindow_88 : decode cd_Mo_layWindow 88 = .ok (.iconst 0, 1) := by decide +kernel
theorem d_Mo_layWindow_89 : decode cd_Mo_layWindow 89 = .ok (.istore 6, 2) := by decide +kernel
theorem d_Mo_layWindow_91 : decode cd_Mo_layWindow 91 = .ok (.aload_n 0, 1) := by decide +kernel
theorem d_Mo_layWindow_92 : decode cd_Mo_layWindow 92 = .ok (.getfield 249, 3) := by decide +kernel
theorem d_Mo_layWindow_95 : decode cd_Mo_layWindow 95 = .ok (.iload 5, 2) := by decide +kernel
theorem d_Mo_layWindow_97 : decode cd_Mo_layWindow 97 = .ok (.iadd, 1) := by decide +kernel
theorem d_Mo_layWindow_98 : decode cd_Mo_layWindow 98 = .ok (.iload_n 2, 1) := by decide +kernel
theorem d_Mo_layWindow_99 : decode cd_Mo_layWindow 99 = .ok (.isub, 1) := by decide +kernel
theorem d_Mo_layWindow_100 : decode cd_Mo_layWindow 100 = .ok (.istore 7, 2) := by decide +kernel
theorem d_Mo_layWindow_102 : decode cd_Mo_layWindow 102 = .ok (.iconst (-1), 1) := by decide +kernel
theorem d_Mo_layWindow_103 : decode cd_Mo_layWindow 103 = .ok (.istore 8, 2) := by decide +kernel
theorem d_Mo_layWindow_105 : decode cd_Mo_layWindow 105 = .ok (.iconst 0, 1) := by decide +kernel
theorem d_Mo_layWindow_106 : decode cd_Mo_layWindow 106 = .ok (.istore 9, 2) := by decide +kernel
theorem d_Mo_layWindow_108 : decode cd_Mo_layWindow 108 = .ok (.iload 6, 2) := by decide +kernel
theorem d_Mo_layWindow_110 : decode cd_Mo_layWindow 110 = .ok (.ifCond .eq 79, 3) := by decide +kernel
theorem d_Mo_layWindow_113 : decode cd_Mo_layWindow 113 = .ok (.aload_n 0, 1) := by decide +kernel
theorem d_Mo_layWindow_114 : decode cd_Mo_layWindow 114 = .ok (.getfield 103, 3) := by decide +kernel
theorem d_Mo_layWindow_117 : decode cd_Mo_layWindow 117 = .ok (.iload 4, 2) := by decide +kernel
theorem d_Mo_layWindow_119 : decode cd_Mo_layWindow 119 = .ok (.iaload, 1) := by decide +kernel
theorem d_Mo_layWindow_120 : decode cd_Mo_layWindow 120 = .ok (.iconst 1, 1) := by decide +kernel
theorem d_Mo_layWindow_121 : decode cd_Mo_layWindow 121 = .ok (.if_icmp .ne 68, 3) := by decide +kernel
theorem d_Mo_layWindow_124 : decode cd_Mo_layWindow 124 = .ok (.aload_n 0, 1) := by decide +kernel
theorem d_Mo_layWindow_125 : decode cd_Mo_layWindow 125 = .ok (.getfield 103, 3) := by decide +kernel
theorem d_Mo_layWindow_128 : decode cd_Mo_layWindow 128 = .ok (.iload 4, 2) := by decide +kernel
theorem d_Mo_layWindow_130 : decode cd_Mo_layWindow 130 = .ok (.iconst 1, 1) := by decide +kernel
theorem d_Mo_layWindow_131 : decode cd_Mo_layWindow 131 = .ok (.iadd, 1) := by decide +kernel
theorem d_Mo_layWindow_132 : decode cd_Mo_layWindow 132 = .ok (.iaload, 1) := by decide +kernel
theorem d_Mo_layWindow_133 : decode cd_Mo_layWindow 133 = .ok (.iconst 3, 1) := by decide +kernel
theorem d_Mo_layWindow_134 : decode cd_Mo_layWindow 134 = .ok (.if_icmp .ne 55, 3) := by decide +kernel
theorem d_Mo_layWindow_137 : decode cd_Mo_layWindow 137 = .ok (.aload_n 0, 1) := by decide +kernel
theorem d_Mo_layWindow_138 : decode cd_Mo_layWindow 138 = .ok (.aload_n 0, 1) := by decide +kernel
theorem d_Mo_layWindow_139 : decode cd_Mo_layWindow 139 = .ok (.getfield 109, 3) := by decide +kernel
theorem d_Mo_layWindow_142 : decode cd_Mo_layWindow 142 = .ok (.iload 4, 2) := by decide +kernel
theorem d_Mo_layWindow_144 : decode cd_Mo_layWindow 144 = .ok (.iconst 1, 1) := by decide +kernel
theorem d_Mo_layWindow_145 : decode cd_Mo_layWindow 145 = .ok (.iadd, 1) := by decide +kernel
theorem d_Mo_layWindow_146 : decode cd_Mo_layWindow 146 = .ok (.iaload, 1) := by decide +kernel
theorem d_Mo_layWindow_147 : decode cd_Mo_layWindow 147 = .ok (.iload 7, 2) := by decide +kernel
theorem d_Mo_layWindow_149 : decode cd_Mo_layWindow 149 = .ok (.aload_n 0, 1) := by decide +kernel
theorem d_Mo_layWindow_150 : decode cd_Mo_layWindow 150 = .ok (.getfield 106, 3) := by decide +kernel
theorem d_Mo_layWindow_153 : decode cd_Mo_layWindow 153 = .ok (.iload 4, 2) := by decide +kernel
theorem d_Mo_layWindow_155 : decode cd_Mo_layWindow 155 = .ok (.iaload, 1) := by decide +kernel
theorem d_Mo_layWindow_156 : decode cd_Mo_layWindow 156 = .ok (.iadd, 1) := by decide +kernel
theorem d_Mo_layWindow_157 : decode cd_Mo_layWindow 157 = .ok (.invokevirtual 313, 3) := by decide +kernel
theorem d_Mo_layWindow_160 : decode cd_Mo_layWindow 160 = .ok (.istore 9, 2) := by decide +kernel
theorem d_Mo_layWindow_162 : decode cd_Mo_layWindow 162 = .ok (.aload_n 0, 1) := by decide +kernel
theorem d_Mo_layWindow_163 : decode cd_Mo_layWindow 163 = .ok (.aload_n 0, 1) := by decide +kernel
theorem d_Mo_layWindow_164 : decode cd_Mo_layWindow 164 = .ok (.getfield 106, 3) := by decide +kernel
theorem d_Mo_layWindow_167 : decode cd_Mo_layWindow 167 = .ok (.iload 4, 2) := by decide +kernel
theorem d_Mo_layWindow_169 : decode cd_Mo_layWindow 169 = .ok (.iaload, 1) := by decide +kernel
theorem d_Mo_layWindow_170 : decode cd_Mo_layWindow 170 = .ok (.aload_n 0, 1) := by decide +kernel
theorem d_Mo_layWindow_171 : decode cd_Mo_layWindow 171 = .ok (.getfield 106, 3) := by decide +kernel
theorem d_Mo_layWindow_174 : decode cd_Mo_layWindow 174 = .ok (.iload 4, 2) := by decide +kernel
theorem d_Mo_layWindow_176 : decode cd_Mo_layWindow 176 = .ok (.iconst 1, 1) := by decide +kernel
theorem d_Mo_layWindow_177 : decode cd_Mo_layWindow 177 = .ok (.iadd, 1) := by decide +kernel
theorem d_Mo_layWindow_178 : decode cd_Mo_layWindow 178 = .ok (.iaload, 1) := by decide +kernel
theorem d_Mo_layWindow_179 : decode cd_Mo_layWindow 179 = .ok (.iload 9, 2) := by decide +kernel
theorem d_Mo_layWindow_181 : decode cd_Mo_layWindow 181 = .ok (.invokevirtual 322, 3) := by decide +kernel
theorem d_Mo_layWindow_184 : decode cd_Mo_layWindow 184 = .ok (.istore 8, 2) := by decide +kernel
theorem d_Mo_layWindow_186 : decode cd_Mo_layWindow 186 = .ok (.goto 79, 3) := by decide +kernel
theorem d_Mo_layWindow_189 : decode cd_Mo_layWindow 189 = .ok (.iload 6, 2) := by decide +kernel
theorem d_Mo_layWindow_191 : decode cd_Mo_layWindow 191 = .ok (.ifCond .eq 74, 3) := by decide +kernel
theorem d_Mo_layWindow_194 : decode cd_Mo_layWindow 194 = .ok (.aload_n 0, 1) := by decide +kernel
theorem d_Mo_layWindow_195 : decode cd_Mo_layWindow 195 = .ok (.getfield 103, 3) := by decide +kernel
theorem d_Mo_layWindow_198 : decode cd_Mo_layWindow 198 = .ok (.iload 4, 2) := by decide +kernel
theorem d_Mo_layWindow_200 : decode cd_Mo_layWindow 200 = .ok (.iaload, 1) := by decide +kernel
theorem d_Mo_layWindow_201 : decode cd_Mo_layWindow 201 = .ok (.iconst 3, 1) := by decide +kernel
theorem d_Mo_layWindow_202 : decode cd_Mo_layWindow 202 = .ok (.if_icmp .ne 63, 3) := by decide +kernel
theorem d_Mo_layWindow_205 : decode cd_Mo_layWindow 205 = .ok (.aload_n 0, 1) := by decide +kernel
theorem d_Mo_layWindow_206 : decode cd_Mo_layWindow 206 = .ok (.getfield 103, 3) := by decide +kernel
theorem d_Mo_layWindow_209 : decode cd_Mo_layWindow 209 = .ok (.iload 4, 2) := by decide +kernel
theorem d_Mo_layWindow_211 : decode cd_Mo_layWindow 211 = .ok (.iconst 1, 1) := by decide +kernel
theorem d_Mo_layWindow_212 : decode cd_Mo_layWindow 212 = .ok (.iadd, 1) := by decide +kernel
theorem d_Mo_layWindow_213 : decode cd_Mo_layWindow 213 = .ok (.iaload, 1) := by decide +kernel
theorem d_Mo_layWindow_214 : decode cd_Mo_layWindow 214 = .ok (.iconst 1, 1) := by decide +kernel
theorem d_Mo_layWindow_215 : decode cd_Mo_layWindow 215 = .ok (.if_icmp .ne 50, 3) := by decide +kernel
theorem d_Mo_layWindow_218 : decode cd_Mo_layWindow 218 = .ok (.aload_n 0, 1) := by decide +kernel
theorem d_Mo_layWindow_219 : decode cd_Mo_layWindow 219 = .ok (.getfield 106, 3) := by decide +kernel
theorem d_Mo_layWindow_222 : decode cd_Mo_layWindow 222 = .ok (.iload 4, 2) := by decide +kernel
theorem d_Mo_layWindow_224 : decode cd_Mo_layWindow 224 = .ok (.iaload, 1) := by decide +kernel
theorem d_Mo_layWindow_225 : decode cd_Mo_layWindow 225 = .ok (.iconst 4, 1) := by decide +kernel
theorem d_Mo_layWindow_226 : decode cd_Mo_layWindow 226 = .ok (.if_icmp .ne 39, 3) := by decide +kernel
theorem d_Mo_layWindow_229 : decode cd_Mo_layWindow 229 = .ok (.aload_n 0, 1) := by decide +kernel
theorem d_Mo_layWindow_230 : decode cd_Mo_layWindow 230 = .ok (.getfield 106, 3) := by decide +kernel
theorem d_Mo_layWindow_233 : decode cd_Mo_layWindow 233 = .ok (.iload 4, 2) := by decide +kernel
theorem d_Mo_layWindow_235 : decode cd_Mo_layWindow 235 = .ok (.iconst 1, 1) := by decide +kernel
theorem d_Mo_layWindow_236 : decode cd_Mo_layWindow 236 = .ok (.iadd, 1) := by decide +kernel
theorem d_Mo_layWindow_237 : decode cd_Mo_layWindow 237 = .ok (.iaload, 1) := by decide +kernel
theorem d_Mo_layWindow_238 : decode cd_Mo_layWindow 238 = .ok (.iconst 1, 1) := by decide +kernel
theorem d_Mo_layWindow_239 : decode cd_Mo_layWindow 239 = .ok (.if_icmp .ne 26, 3) := by decide +kernel
theorem d_Mo_layWindow_242 : decode cd_Mo_layWindow 242 = .ok (.aload_n 0, 1) := by decide +kernel
theorem d_Mo_layWindow_243 : decode cd_Mo_layWindow 243 = .ok (.aload_n 0, 1) := by decide +kernel
theorem d_Mo_layWindow_244 : decode cd_Mo_layWindow 244 = .ok (.getfield 109, 3) := by decide +kernel
theorem d_Mo_layWindow_247 : decode cd_Mo_layWindow 247 = .ok (.iload 4, 2) := by decide +kernel
theorem d_Mo_layWindow_249 : decode cd_Mo_layWindow 249 = .ok (.iaload, 1) := by decide +kernel
theorem d_Mo_layWindow_250 : decode cd_Mo_layWindow 250 = .ok (.iload 7, 2) := by decide +kernel
theorem d_Mo_layWindow_252 : decode cd_Mo_layWindow 252 = .ok (.invokevirtual 313, 3) := by decide +kernel
theorem d_Mo_layWindow_255 : decode cd_Mo_layWindow 255 = .ok (.istore 9, 2) := by decide +kernel
theorem d_Mo_layWindow_257 : decode cd_Mo_layWindow 257 = .ok (.sipush 247, 3) := by decide +kernel
theorem d_Mo_layWindow_260 : decode cd_Mo_layWindow 260 = .ok (.iload 9, 2) := by decide +kernel
theorem d_Mo_layWindow_262 : decode cd_Mo_layWindow 262 = .ok (.iadd, 1) := by decide +kernel
theorem d_Mo_layWindow_263 : decode cd_Mo_layWindow 263 = .ok (.istore 8, 2) := by decide +kernel
theorem d_Mo_layWindow_265 : decode cd_Mo_layWindow 265 = .ok (.iload 8, 2) := by decide +kernel
theorem d_Mo_layWindow_267 : decode cd_Mo_layWindow 267 = .ok (.ifCond .ge 31, 3) := by decide +kernel
theorem d_Mo_layWindow_270 : decode cd_Mo_layWindow 270 = .ok (.aload_n 0, 1) := by decide +kernel
theorem d_Mo_layWindow_271 : decode cd_Mo_layWindow 271 = .ok (.iload 4, 2) := by decide +kernel
theorem d_Mo_layWindow_273 : decode cd_Mo_layWindow 273 = .ok (.iload 5, 2) := by decide +kernel
theorem d_Mo_layWindow_275 : decode cd_Mo_layWindow 275 = .ok (.iload 7, 2) := by decide +kernel
theorem d_Mo_layWindow_277 : decode cd_Mo_layWindow 277 = .ok (.invokevirtual 325, 3) := by decide +kernel
theorem d_Mo_layWindow_280 : decode cd_Mo_layWindow 280 = .ok (.iload 5, 2) := by decide +kernel
theorem d_Mo_layWindow_282 : decode cd_Mo_layWindow 282 = .ok (.aload_n 0, 1) := by decide +kernel
theorem d_Mo_layWindow_283 : decode cd_Mo_layWindow 283 = .ok (.getfield 106, 3) := by decide +kernel
theorem d_Mo_layWindow_286 : decode cd_Mo_layWindow 286 = .ok (.iload 4, 2) := by decide +kernel
theorem d_Mo_layWindow_288 : decode cd_Mo_layWindow 288 = .ok (.iaload, 1) := by decide +kernel
theorem d_Mo_layWindow_289 : decode cd_Mo_layWindow 289 = .ok (.iadd, 1) := by decide +kernel
theorem d_Mo_layWindow_290 : decode cd_Mo_layWindow 290 = .ok (.istore 5, 2) := by decide +kernel
theorem d_Mo_layWindow_292 : decode cd_Mo_layWindow 292 = .ok (.iinc 4 1, 3) := by decide +kernel
theorem d_Mo_layWindow_295 : decode cd_Mo_layWindow 295 = .ok (.goto 141, 3) := by decide +kernel
theorem d_Mo_layWindow_298 : decode cd_Mo_layWindow 298 = .ok (.aload_n 0, 1) := by decide +kernel
theorem d_Mo_layWindow_299 : decode cd_Mo_layWindow 299 = .ok (.iconst 1, 1) := by decide +kernel
theorem d_Mo_layWindow_300 : decode cd_Mo_layWindow 300 = .ok (.iload 8, 2) := by decide +kernel
theorem d_Mo_layWindow_302 : decode cd_Mo_layWindow 302 = .ok (.invokevirtual 301, 3) := by decide +kernel
theorem d_Mo_layWindow_305 : decode cd_Mo_layWindow 305 = .ok (.aload_n 0, 1) := by decide +kernel
theorem d_Mo_layWindow_306 : decode cd_Mo_layWindow 306 = .ok (.getfield 103, 3) := by decide +kernel
theorem d_Mo_layWindow_309 : decode cd_Mo_layWindow 309 = .ok (.iload 4, 2) := by decide +kernel
theorem d_Mo_layWindow_311 : decode cd_Mo_layWindow 311 = .ok (.iaload, 1) := by decide +kernel
theorem d_Mo_layWindow_312 : decode cd_Mo_layWindow 312 = .ok (.iconst 1, 1) := by decide +kernel
theorem d_Mo_layWindow_313 : decode cd_Mo_layWindow 313 = .ok (.if_icmp .ne 7, 3) := by decide +kernel
theorem d_Mo_layWindow_316 : decode cd_Mo_layWindow 316 = .ok (.iconst 1, 1) := by decide +kernel
theorem d_Mo_layWindow_317 : decode cd_Mo_layWindow 317 = .ok (.goto 4, 3) := by decide +kernel
theorem d_Mo_layWindow_320 : decode cd_Mo_layWindow 320 = .ok (.iconst 0, 1) := by decide +kernel
theorem d_Mo_layWindow_321 : decode cd_Mo_layWindow 321 = .ok (.istore 10, 2) := by decide +kernel
theorem d_Mo_layWindow_323 : decode cd_Mo_layWindow 323 = .ok (.aload_n 0, 1) := by decide +kernel
theorem d_Mo_layWindow_324 : decode cd_Mo_layWindow 324 = .ok (.iload 10, 2) := by decide +kernel
theorem d_Mo_layWindow_326 : decode cd_Mo_layWindow 326 = .ok (.ifCond .eq 8, 3) := by decide +kernel
theorem d_Mo_layWindow_329 : decode cd_Mo_layWindow 329 = .ok (.iload 5, 2) := by decide +kernel
theorem d_Mo_layWindow_331 : decode cd_Mo_layWindow 331 = .ok (.goto 13, 3) := by decide +kernel
theorem d_Mo_layWindow_334 : decode cd_Mo_layWindow 334 = .ok (.iload 5, 2) := by decide +kernel
theorem d_Mo_layWindow_336 : decode cd_Mo_layWindow 336 = .ok (.aload_n 0, 1) := by decide +kernel
theorem d_Mo_layWindow_337 : decode cd_Mo_layWindow 337 = .ok (.getfield 106, 3) := by decide +kernel
theorem d_Mo_layWindow_340 : decode cd_Mo_layWindow 340 = .ok (.iload 4, 2) := by decide +kernel
theorem d_Mo_layWindow_342 : decode cd_Mo_layWindow 342 = .ok (.iaload, 1) := by decide +kernel
theorem d_Mo_layWindow_343 : decode cd_Mo_layWindow 343 = .ok (.iadd, 1) := by decide +kernel
theorem d_Mo_layWindow_344 : decode cd_Mo_layWindow 344 = .ok (.iload 10, 2) := by decide +kernel
theorem d_Mo_layWindow_346 : decode cd_Mo_layWindow 346 = .ok (.ifCond .eq 13, 3) := by decide +kernel
theorem d_Mo_layWindow_349 : decode cd_Mo_layWindow 349 = .ok (.aload_n 0, 1) := by decide +kernel
theorem d_Mo_layWindow_350 : decode cd_Mo_layWindow 350 = .ok (.getfield 106, 3) := by decide +kernel
theorem d_Mo_layWindow_353 : decode cd_Mo_layWindow 353 = .ok (.iload 4, 2) := by decide +kernel
theorem d_Mo_layWindow_355 : decode cd_Mo_layWindow 355 = .ok (.iaload, 1) := by decide +kernel
theorem d_Mo_layWindow_356 : decode cd_Mo_layWindow 356 = .ok (.goto 4, 3) := by decide +kernel
theorem d_Mo_layWindow_359 : decode cd_Mo_layWindow 359 = .ok (.iconst 1, 1) := by decide +kernel
theorem d_Mo_layWindow_360 : decode cd_Mo_layWindow 360 = .ok (.invokevirtual 310, 3) := by decide +kernel
theorem d_Mo_layWindow_363 : decode cd_Mo_layWindow 363 = .ok (.aload_n 0, 1) := by decide +kernel
theorem d_Mo_layWindow_364 : decode cd_Mo_layWindow 364 = .ok (.aload_n 0, 1) := by decide +kernel
theorem d_Mo_layWindow_365 : decode cd_Mo_layWindow 365 = .ok (.getfield 109, 3) := by decide +kernel
theorem d_Mo_layWindow_368 : decode cd_Mo_layWindow 368 = .ok (.iload 10, 2) := by decide +kernel
theorem d_Mo_layWindow_370 : decode cd_Mo_layWindow 370 = .ok (.ifCond .eq 10, 3) := by decide +kernel
theorem d_Mo_layWindow_373 : decode cd_Mo_layWindow 373 = .ok (.iload 4, 2) := by decide +kernel
theorem d_Mo_layWindow_375 : decode cd_Mo_layWindow 375 = .ok (.iconst 1, 1) := by decide +kernel
theorem d_Mo_layWindow_376 : decode cd_Mo_layWindow 376 = .ok (.iadd, 1) := by decide +kernel
theorem d_Mo_layWindow_377 : decode cd_Mo_layWindow 377 = .ok (.goto 5, 3) := by decide +kernel
theorem d_Mo_layWindow_380 : decode cd_Mo_layWindow 380 = .ok (.iload 4, 2) := by decide +kernel
theorem d_Mo_layWindow_382 : decode cd_Mo_layWindow 382 = .ok (.iaload, 1) := by decide +kernel
theorem d_Mo_layWindow_383 : decode cd_Mo_layWindow 383 = .ok (.iload 9, 2) := by decide +kernel
theorem d_Mo_layWindow_385 : decode cd_Mo_layWindow 385 = .ok (.iload 10, 2) := by decide +kernel
theorem d_Mo_layWindow_387 : decode cd_Mo_layWindow 387 = .ok (.ifCond .eq 16, 3) := by decide +kernel
theorem d_Mo_layWindow_390 : decode cd_Mo_layWindow 390 = .ok (.iload 7, 2) := by decide +kernel
theorem d_Mo_layWindow_392 : decode cd_Mo_layWindow 392 = .ok (.aload_n 0, 1) := by decide +kernel
theorem d_Mo_layWindow_393 : decode cd_Mo_layWindow 393 = .ok (.getfield 106, 3) := by decide +kernel
theorem d_Mo_layWindow_396 : decode cd_Mo_layWindow 396 = .ok (.iload 4, 2) := by decide +kernel
theorem d_Mo_layWindow_398 : decode cd_Mo_layWindow 398 = .ok (.iaload, 1) := by decide +kernel
theorem d_Mo_layWindow_399 : decode cd_Mo_layWindow 399 = .ok (.iadd, 1) := by decide +kernel
theorem d_Mo_layWindow_400 : decode cd_Mo_layWindow 400 = .ok (.goto 5, 3) := by decide +kernel
theorem d_Mo_layWindow_403 : decode cd_Mo_layWindow 403 = .ok (.iload 7, 2) := by decide +kernel
theorem d_Mo_layWindow_405 : decode cd_Mo_layWindow 405 = .ok (.invokevirtual 316, 3) := by decide +kernel
theorem d_Mo_layWindow_408 : decode cd_Mo_layWindow 408 = .ok (.iload 5, 2) := by decide +kernel
theorem d_Mo_layWindow_410 : decode cd_Mo_layWindow 410 = .ok (.aload_n 0, 1) := by decide +kernel
theorem d_Mo_layWindow_411 : decode cd_Mo_layWindow 411 = .ok (.getfield 106, 3) := by decide +kernel
theorem d_Mo_layWindow_414 : decode cd_Mo_layWindow 414 = .ok (.iload 4, 2) := by decide +kernel
theorem d_Mo_layWindow_416 : decode cd_Mo_layWindow 416 = .ok (.iaload, 1) := by decide +kernel
theorem d_Mo_layWindow_417 : decode cd_Mo_layWindow 417 = .ok (.iadd, 1) := by decide +kernel
theorem d_Mo_layWindow_418 : decode cd_Mo_layWindow 418 = .ok (.aload_n 0, 1) := by decide +kernel
theorem d_Mo_layWindow_419 : decode cd_Mo_layWindow 419 = .ok (.getfield 106, 3) := by decide +kernel
theorem d_Mo_layWindow_422 : decode cd_Mo_layWindow 422 = .ok (.iload 4, 2) := by decide +kernel
theorem d_Mo_layWindow_424 : decode cd_Mo_layWindow 424 = .ok (.iconst 1, 1) := by decide +kernel
theorem d_Mo_layWindow_425 : decode cd_Mo_layWindow 425 = .ok (.iadd, 1) := by decide +kernel
theorem d_Mo_layWindow_426 : decode cd_Mo_layWindow 426 = .ok (.iaload, 1) := by decide +kernel
theorem d_Mo_layWindow_427 : decode cd_Mo_layWindow 427 = .ok (.iadd, 1) := by decide +kernel
theorem d_Mo_layWindow_428 : decode cd_Mo_layWindow 428 = .ok (.istore 5, 2) := by decide +kernel
theorem d_Mo_layWindow_430 : decode cd_Mo_layWindow 430 = .ok (.iload 4, 2) := by decide +kernel
theorem d_Mo_layWindow_432 : decode cd_Mo_layWindow 432 = .ok (.iconst 2, 1) := by decide +kernel
theorem d_Mo_layWindow_433 : decode cd_Mo_layWindow 433 = .ok (.iadd, 1) := by decide +kernel
theorem d_Mo_layWindow_434 : decode cd_Mo_layWindow 434 = .ok (.istore 4, 2) := by decide +kernel
theorem d_Mo_layWindow_436 : decode cd_Mo_layWindow 436 = .ok (.goto (-396), 3) := by decide +kernel
theorem d_Mo_layWindow_439 : decode cd_Mo_layWindow 439 = .ok (.iload 4, 2) := by decide +kernel
theorem d_Mo_layWindow_441 : decode cd_Mo_layWindow 441 = .ok (.ireturn, 1) := by decide +kernel
theorem d_Mo_checkOf_0 : decode cd_Mo_checkOf 0 = .ok (.lconst 1, 1) := by decide +kernel
theorem d_Mo_checkOf_1 : decode cd_Mo_checkOf 1 = .ok (.lstore 4, 2) := by decide +kernel
theorem d_Mo_checkOf_3 : decode cd_Mo_checkOf 3 = .ok (.lconst 0, 1) := by decide +kernel
theorem d_Mo_checkOf_4 : decode cd_Mo_checkOf 4 = .ok (.lstore 6, 2) := by decide +kernel
theorem d_Mo_checkOf_6 : decode cd_Mo_checkOf 6 = .ok (.iconst 0, 1) := by decide +kernel
theorem d_Mo_checkOf_7 : decode cd_Mo_checkOf 7 = .ok (.istore 8, 2) := by decide +kernel
theorem d_Mo_checkOf_9 : decode cd_Mo_checkOf 9 = .ok (.iload 8, 2) := by decide +kernel
theorem d_Mo_checkOf_11 : decode cd_Mo_checkOf 11 = .ok (.iload_n 3, 1) := by decide +kernel
theorem d_Mo_checkOf_12 : decode cd_Mo_checkOf 12 = .ok (.if_icmp .ge 59, 3) := by decide +kernel
theorem d_Mo_checkOf_15 : decode cd_Mo_checkOf 15 = .ok (.lload 4, 2) := by decide +kernel
theorem d_Mo_checkOf_17 : decode cd_Mo_checkOf 17 = .ok (.iload_n 1, 1) := by decide +kernel
theorem d_Mo_checkOf_18 : decode cd_Mo_checkOf 18 = .ok (.ifCond .eq 19, 3) := by decide +kernel
theorem d_Mo_checkOf_21 : decode cd_Mo_checkOf 21 = .ok (.aload_n 0, 1) := by decide +kernel
theorem d_Mo_checkOf_22 : decode cd_Mo_checkOf 22 = .ok (.getfield 77, 3) := by decide +kernel
theorem d_Mo_checkOf_25 : decode cd_Mo_checkOf 25 = .ok (.sipush 300, 3) := by decide +kernel
theorem d_Mo_checkOf_28 : decode cd_Mo_checkOf 28 = .ok (.iload_n 2, 1) := by decide +kernel
theorem d_Mo_checkOf_29 : decode cd_Mo_checkOf 29 = .ok (.iadd, 1) := by decide +kernel
theorem d_Mo_checkOf_30 : decode cd_Mo_checkOf 30 = .ok (.iload 8, 2) := by decide +kernel
theorem d_Mo_checkOf_32 : decode cd_Mo_checkOf 32 = .ok (.iadd, 1) := by decide +kernel
theorem d_Mo_checkOf_33 : decode cd_Mo_checkOf 33 = .ok (.iaload, 1) := by decide +kernel
theorem d_Mo_checkOf_34 : decode cd_Mo_checkOf 34 = .ok (.goto 12, 3) := by decide +kernel
theorem d_Mo_checkOf_37 : decode cd_Mo_checkOf 37 = .ok (.aload_n 0, 1) := by decide +kernel
theorem d_Mo_checkOf_38 : decode cd_Mo_checkOf 38 = .ok (.getfield 142, 3) := by decide +kernel
theorem d_Mo_checkOf_41 : decode cd_Mo_checkOf 41 = .ok (.iload_n 2, 1) := by decide +kernel
theorem d_Mo_checkOf_42 : decode cd_Mo_checkOf 42 = .ok (.iload 8, 2) := by decide +kernel
theorem d_Mo_checkOf_44 : decode cd_Mo_checkOf 44 = .ok (.iadd, 1) := by decide +kernel
theorem d_Mo_checkOf_45 : decode cd_Mo_checkOf 45 = .ok (.iaload, 1) := by decide +kernel
theorem d_Mo_checkOf_46 : decode cd_Mo_checkOf 46 = .ok (.i2l, 1) := by decide +kernel
theorem d_Mo_checkOf_47 : decode cd_Mo_checkOf 47 = .ok (.ladd, 1) := by decide +kernel
theorem d_Mo_checkOf_48 : decode cd_Mo_checkOf 48 = .ok (.ldc2_w 234, 3) := by decide +kernel
theorem d_Mo_checkOf_51 : decode cd_Mo_checkOf 51 = .ok (.lrem, 1) := by decide +kernel
theorem d_Mo_checkOf_52 : decode cd_Mo_checkOf 52 = .ok (.lstore 4, 2) := by decide +kernel
theorem d_Mo_checkOf_54 : decode cd_Mo_checkOf 54 = .ok (.lload 6, 2) := by decide +kernel
theorem d_Mo_checkOf_56 : decode cd_Mo_checkOf 56 = .ok (.lload 4, 2) := by decide +kernel
theorem d_Mo_checkOf_58 : decode cd_Mo_checkOf 58 = .ok (.ladd, 1) := by decide +kernel
theorem d_Mo_checkOf_59 : decode cd_Mo_checkOf 59 = .ok (.ldc2_w 234, 3) := by decide +kernel
theorem d_Mo_checkOf_62 : decode cd_Mo_checkOf 62 = .ok (.lrem, 1) := by decide +kernel
theorem d_Mo_checkOf_63 : decode cd_Mo_checkOf 63 = .ok (.lstore 6, 2) := by decide +kernel
theorem d_Mo_checkOf_65 : decode cd_Mo_checkOf 65 = .ok (.iinc 8 1, 3) := by decide +kernel
theorem d_Mo_checkOf_68 : decode cd_Mo_checkOf 68 = .ok (.goto (-59), 3) := by decide +kernel
theorem d_Mo_checkOf_71 : decode cd_Mo_checkOf 71 = .ok (.ldc2_w 231, 3) := by decide +kernel
theorem d_Mo_checkOf_74 : decode cd_Mo_checkOf 74 = .ok (.lload 6, 2) := by decide +kernel
theorem d_Mo_checkOf_76 : decode cd_Mo_checkOf 76 = .ok (.lmul, 1) := by decide +kernel
theorem d_Mo_checkOf_77 : decode cd_Mo_checkOf 77 = .ok (.lload 4, 2) := by decide +kernel
theorem d_Mo_checkOf_79 : decode cd_Mo_checkOf 79 = .ok (.ladd, 1) := by decide +kernel
theorem d_Mo_checkOf_80 : decode cd_Mo_checkOf 80 = .ok (.lreturn, 1) := by decide +kernel
theorem d_Mo_writeWindow_0 : decode cd_Mo_writeWindow 0 = .ok (.aload_n 0, 1) := by decide +kernel
theorem d_Mo_writeWindow_1 : decode cd_Mo_writeWindow 1 = .ok (.aload_n 0, 1) := by decide +kernel
theorem d_Mo_writeWindow_2 : decode cd_Mo_writeWindow 2 = .ok (.getfield 249, 3) := by decide +kernel
theorem d_Mo_writeWindow_5 : decode cd_Mo_writeWindow 5 = .ok (.ifCond .le 7, 3) := by decide +kernel
theorem d_Mo_writeWindow_8 : decode cd_Mo_writeWindow 8 = .ok (.iconst 1, 1) := by decide +kernel
theorem d_Mo_writeWindow_9 : decode cd_Mo_writeWindow 9 = .ok (.goto 4, 3) := by decide +kernel
theorem d_Mo_writeWindow_12 : decode cd_Mo_writeWindow 12 = .ok (.iconst 0, 1) := by decide +kernel
theorem d_Mo_writeWindow_13 : decode cd_Mo_writeWindow 13 = .ok (.iload_n 3, 1) := by decide +kernel
theorem d_Mo_writeWindow_14 : decode cd_Mo_writeWindow 14 = .ok (.ifCond .eq 7, 3) := by decide +kernel
theorem d_Mo_writeWindow_17 : decode cd_Mo_writeWindow 17 = .ok (.iconst 4, 1) := by decide +kernel
theorem d_Mo_writeWindow_18 : decode cd_Mo_writeWindow 18 = .ok (.goto 4, 3) := by decide +kernel
theorem d_Mo_writeWindow_21 : decode cd_Mo_writeWindow 21 = .ok (.iconst 0, 1) := by decide +kernel
theorem d_Mo_writeWindow_22 : decode cd_Mo_writeWindow 22 = .ok (.iadd, 1) := by decide +kernel
theorem d_Mo_writeWindow_23 : decode cd_Mo_writeWindow 23 = .ok (.invokevirtual 298, 3) := by decide +kernel
theorem d_Mo_writeWindow_26 : decode cd_Mo_writeWindow 26 = .ok (.aload_n 0, 1) := by decide +kernel
theorem d_Mo_writeWindow_27 : decode cd_Mo_writeWindow 27 = .ok (.getfield 249, 3) := by decide +kernel
theorem d_Mo_writeWindow_30 : decode cd_Mo_writeWindow 30 = .ok (.ifCond .le 16, 3) := by decide +kernel
theorem d_Mo_writeWindow_33 : decode cd_Mo_writeWindow 33 = .ok (.aload_n 0, 1) := by decide +kernel
theorem d_Mo_writeWindow_34 : decode cd_Mo_writeWindow 34 = .ok (.aload_n 0, 1) := by decide +kernel
theorem d_Mo_writeWindow_35 : decode cd_Mo_writeWindow 35 = .ok (.getfield 249, 3) := by decide +kernel
theorem d_Mo_writeWindow_38 : decode cd_Mo_writeWindow 38 = .ok (.invokevirtual 328, 3) := by decide +kernel
theorem d_Mo_writeWindow_41 : decode cd_Mo_writeWindow 41 = .ok (.aload_n 0, 1) := by decide +kernel
theorem d_Mo_writeWindow_42 : decode cd_Mo_writeWindow 42 = .ok (.iconst 0, 1) := by decide +kernel
theorem d_Mo_writeWindow_43 : decode cd_Mo_writeWindow 43 = .ok (.invokevirtual 328, 3) := by decide +kernel
theorem d_Mo_writeWindow_46 : decode cd_Mo_writeWindow 46 = .ok (.iload_n 1, 1) := by decide +kernel
theorem d_Mo_writeWindow_47 : decode cd_Mo_writeWindow 47 = .ok (.invokestatic 295, 3) := by decide +kernel
theorem d_Mo_writeWindow_50 : decode cd_Mo_writeWindow 50 = .ok (.iconst 1, 1) := by decide +kernel
theorem d_Mo_writeWindow_51 : decode cd_Mo_writeWindow 51 = .ok (.iadd, 1) := by decide +kernel
theorem d_Mo_writeWindow_52 : decode cd_Mo_writeWindow 52 = .ok (.iload_n 3, 1) := by decide +kernel
theorem d_Mo_writeWindow_53 : decode cd_Mo_writeWindow 53 = .ok (.ifCond .eq 7, 3) := by decide +kernel
theorem d_Mo_writeWindow_56 : decode cd_Mo_writeWindow 56 = .ok (.iconst 4, 1) := by decide +kernel
theorem d_Mo_writeWindow_57 : decode cd_Mo_writeWindow 57 = .ok (.goto 4, 3) := by decide +kernel
theorem d_Mo_writeWindow_60 : decode cd_Mo_writeWindow 60 = .ok (.iconst 0, 1) := by decide +kernel
theorem d_Mo_writeWindow_61 : decode cd_Mo_writeWindow 61 = .ok (.iadd, 1) := by decide +kernel
theorem d_Mo_writeWindow_62 : decode cd_Mo_writeWindow 62 = .ok (.istore 4, 2) := by decide +kernel
theorem d_Mo_writeWindow_64 : decode cd_Mo_writeWindow 64 = .ok (.iconst 0, 1) := by decide +kernel
theorem d_Mo_writeWindow_65 : decode cd_Mo_writeWindow 65 = .ok (.istore 5, 2) := by decide +kernel
theorem d_Mo_writeWindow_67 : decode cd_Mo_writeWindow 67 = .ok (.iload 5, 2) := by decide +kernel
theorem d_Mo_writeWindow_69 : decode cd_Mo_writeWindow 69 = .ok (.iconst 3, 1) := by decide +kernel
theorem d_Mo_writeWindow_70 : decode cd_Mo_writeWindow 70 = .ok (.if_icmp .ge 32, 3) := by decide +kernel
theorem d_Mo_writeWindow_73 : decode cd_Mo_writeWindow 73 = .ok (.iload 4, 2) := by decide +kernel
theorem d_Mo_writeWindow_75 : decode cd_Mo_writeWindow 75 = .ok (.aload_n 0, 1) := by decide +kernel
theorem d_Mo_writeWindow_76 : decode cd_Mo_writeWindow 76 = .ok (.getfield 124, 3) := by decide +kernel
theorem d_Mo_writeWindow_79 : decode cd_Mo_writeWindow 79 = .ok (.iload 5, 2) := by decide +kernel
theorem d_Mo_writeWindow_81 : decode cd_Mo_writeWindow 81 = .ok (.iaload, 1) := by decide +kernel
theorem d_Mo_writeWindow_82 : decode cd_Mo_writeWindow 82 = .ok (.invokestatic 295, 3) := by decide +kernel
theorem d_Mo_writeWindow_85 : decode cd_Mo_writeWindow 85 = .ok (.iadd, 1) := by decide +kernel
theorem d_Mo_writeWindow_86 : decode cd_Mo_writeWindow 86 = .ok (.aload_n 0, 1) := by decide +kernel
theorem d_Mo_writeWindow_87 : decode cd_Mo_writeWindow 87 = .ok (.getfield 124, 3) := by decide +kernel
theorem d_Mo_writeWindow_90 : decode cd_Mo_writeWindow 90 = .ok (.iload 5, 2) := by decide +kernel
theorem d_Mo_writeWindow_92 : decode cd_Mo_writeWindow 92 = .ok (.iaload, 1) := by decide +kernel
theorem d_Mo_writeWindow_93 : decode cd_Mo_writeWindow 93 = .ok (.iadd, 1) := by decide +kernel
theorem d_Mo_writeWindow_94 : decode cd_Mo_writeWindow 94 = .ok (.istore 4, 2) := by decide +kernel
theorem d_Mo_writeWindow_96 : decode cd_Mo_writeWindow 96 = .ok (.iinc 5 1, 3) := by decide +kernel
theorem d_Mo_writeWindow_99 : decode cd_Mo_writeWindow 99 = .ok (.goto (-32), 3) := by decide +kernel
theorem d_Mo_writeWindow_102 : decode cd_Mo_writeWindow 102 = .ok (.aload_n 0, 1) := by decide +kernel
theorem d_Mo_writeWindow_103 : decode cd_Mo_writeWindow 103 = .ok (.iload 4, 2) := by decide +kernel
theorem d_Mo_writeWindow_105 : decode cd_Mo_writeWindow 105 = .ok (.invokevirtual 328, 3) := by decide +kernel
theorem d_Mo_writeWindow_108 : decode cd_Mo_writeWindow 108 = .ok (.aload_n 0, 1) := by decide +kernel
theorem d_Mo_writeWindow_109 : decode cd_Mo_writeWindow 109 = .ok (.iload_n 1, 1) := by decide +kernel
theorem d_Mo_writeWindow_110 : decode cd_Mo_writeWindow 110 = .ok (.invokevirtual 328, 3) := by decide +kernel
theorem d_Mo_writeWindow_113 : decode cd_Mo_writeWindow 113 = .ok (.aload_n 0, 1) := by decide +kernel
theorem d_Mo_writeWindow_114 : decode cd_Mo_writeWindow 114 = .ok (.iconst 0, 1) := by decide +kernel
theorem d_Mo_writeWindow_115 : decode cd_Mo_writeWindow 115 = .ok (.invokevirtual 298, 3) := by decide +kernel
theorem d_Mo_writeWindow_118 : decode cd_Mo_writeWindow 118 = .ok (.iconst 0, 1) := by decide +kernel
theorem d_Mo_writeWindow_119 : decode cd_Mo_writeWindow 119 = .ok (.istore 5, 2) := by decide +kernel
theorem d_Mo_writeWindow_121 : decode cd_Mo_writeWindow 121 = .ok (.iload 5, 2) := by decide +kernel
theorem d_Mo_writeWindow_123 : decode cd_Mo_writeWindow 123 = .ok (.iconst 3, 1) := by decide +kernel
theorem d_Mo_writeWindow_124 : decode cd_Mo_writeWindow 124 = .ok (.if_icmp .ge 20, 3) := by decide +kernel
theorem d_Mo_writeWindow_127 : decode cd_Mo_writeWindow 127 = .ok (.aload_n 0, 1) := by decide +kernel
theorem d_Mo_writeWindow_128 : decode cd_Mo_writeWindow 128 = .ok (.aload_n 0, 1) := by decide +kernel
theorem d_Mo_writeWindow_129 : decode cd_Mo_writeWindow 129 = .ok (.getfield 124, 3) := by decide +kernel
theorem d_Mo_writeWindow_132 : decode cd_Mo_writeWindow 132 = .ok (.iload 5, 2) := by decide +kernel
theorem d_Mo_writeWindow_134 : decode cd_Mo_writeWindow 134 = .ok (.iaload, 1) := by decide +kernel
theorem d_Mo_writeWindow_135 : decode cd_Mo_writeWindow 135 = .ok (.invokevirtual 328, 3) := by decide +kernel
theorem d_Mo_writeWindow_138 : decode cd_Mo_writeWindow 138 = .ok (.iinc 5 1, 3) := by decide +kernel
theorem d_Mo_writeWindow_141 : decode cd_Mo_writeWindow 141 = .ok (.goto (-20), 3) := by decide +kernel
theorem d_Mo_writeWindow_144 : decode cd_Mo_writeWindow 144 = .ok (.aload_n 0, 1) := by decide +kernel
theorem d_Mo_writeWindow_145 : decode cd_Mo_writeWindow 145 = .ok (.iconst 1, 1) := by decide +kernel
theorem d_Mo_writeWindow_146 : decode cd_Mo_writeWindow 146 = .ok (.iload_n 2, 1) := by decide +kernel
theorem d_Mo_writeWindow_147 : decode cd_Mo_writeWindow 147 = .ok (.iload_n 1, 1) := by decide +kernel
theorem d_Mo_writeWindow_148 : decode cd_Mo_writeWindow 148 = .ok (.invokevirtual 331, 3) := by decide +kernel
theorem d_Mo_writeWindow_151 : decode cd_Mo_writeWindow 151 = .ok (.lstore 5, 2) := by decide +kernel
theorem d_Mo_writeWindow_153 : decode cd_Mo_writeWindow 153 = .ok (.bipush 24, 2) := by decide +kernel
theorem d_Mo_writeWindow_155 : decode cd_Mo_writeWindow 155 = .ok (.istore 7, 2) := by decide +kernel
theorem d_Mo_writeWindow_157 : decode cd_Mo_writeWindow 157 = .ok (.iload 7, 2) := by decide +kernel
theorem d_Mo_writeWindow_159 : decode cd_Mo_writeWindow 159 = .ok (.ifCond .lt 27, 3) := by decide +kernel
theorem d_Mo_writeWindow_162 : decode cd_Mo_writeWindow 162 = .ok (.iload_n 3, 1) := by decide +kernel
theorem d_Mo_writeWindow_163 : decode cd_Mo_writeWindow 163 = .ok (.ifCond .eq 23, 3) := by decide +kernel
theorem d_Mo_writeWindow_166 : decode cd_Mo_writeWindow 166 = .ok (.aload_n 0, 1) := by decide +kernel
theorem d_Mo_writeWindow_167 : decode cd_Mo_writeWindow 167 = .ok (.lload 5, 2) := by decide +kernel
theorem d_Mo_writeWindow_169 : decode cd_Mo_writeWindow 169 = .ok (.iload 7, 2) := by decide +kernel
theorem d_Mo_writeWindow_171 : decode cd_Mo_writeWindow 171 = .ok (.lshr, 1) := by decide +kernel
theorem d_Mo_writeWindow_172 : decode cd_Mo_writeWindow 172 = .ok (.ldc2_w 164, 3) := by decide +kernel
theorem d_Mo_writeWindow_175 : decode cd_Mo_writeWindow 175 = .ok (.land, 1) := by decide +kernel
theorem d_Mo_writeWindow_176 : decode cd_Mo_writeWindow 176 = .ok (.l2i, 1) := by decide +kernel
theorem d_Mo_writeWindow_177 : decode cd_Mo_writeWindow 177 = .ok (.invokevirtual 298, 3) := by decide +kernel
theorem d_Mo_writeWindow_180 : decode cd_Mo_writeWindow 180 = .ok (.iinc 7 (-8), 3) := by decide +kernel
theorem d_Mo_writeWindow_183 : decode cd_Mo_writeWindow 183 = .ok (.goto (-26), 3) := by decide +kernel
theorem d_Mo_writeWindow_186 : decode cd_Mo_writeWindow 186 = .ok (.iconst 0, 1) := by decide +kernel
theorem d_Mo_writeWindow_187 : decode cd_Mo_writeWindow 187 = .ok (.istore 7, 2) := by decide +kernel
theorem d_Mo_writeWindow_189 : decode cd_Mo_writeWindow 189 = .ok (.iload 7, 2) := by decide +kernel
theorem d_Mo_writeWindow_191 : decode cd_Mo_writeWindow 191 = .ok (.iconst 3, 1) := by decide +kernel
theorem d_Mo_writeWindow_192 : decode cd_Mo_writeWindow 192 = .ok (.if_icmp .ge 48, 3) := by decide +kernel
theorem d_Mo_writeWindow_195 : decode cd_Mo_writeWindow 195 = .ok (.iconst 0, 1) := by decide +kernel
theorem d_Mo_writeWindow_196 : decode cd_Mo_writeWindow 196 = .ok (.istore 8, 2) := by decide +kernel
theorem d_Mo_writeWindow_198 : decode cd_Mo_writeWindow 198 = .ok (.iload 8, 2) := by decide +kernel
theorem d_Mo_writeWindow_200 : decode cd_Mo_writeWindow 200 = .ok (.aload_n 0, 1) := by decide +kernel
theorem d_Mo_writeWindow_201 : decode cd_Mo_writeWindow 201 = .ok (.getfield 124, 3) := by decide +kernel
theorem d_Mo_writeWindow_204 : decode cd_Mo_writeWindow 204 = .ok (.iload 7, 2) := by decide +kernel
theorem d_Mo_writeWindow_206 : decode cd_Mo_writeWindow 206 = .ok (.iaload, 1) := by decide +kernel
theorem d_Mo_writeWindow_207 : decode cd_Mo_writeWindow 207 = .ok (.if_icmp .ge 27, 3) := by decide +kernel
theorem d_Mo_writeWindow_210 : decode cd_Mo_writeWindow 210 = .ok (.aload_n 0, 1) := by decide +kernel
theorem d_Mo_writeWindow_211 : decode cd_Mo_writeWindow 211 = .ok (.aload_n 0, 1) := by decide +kernel
theorem d_Mo_writeWindow_212 : decode cd_Mo_writeWindow 212 = .ok (.getfield 127, 3) := by decide +kernel
theorem d_Mo_writeWindow_215 : decode cd_Mo_writeWindow 215 = .ok (.sipush 1000, 3) := by decide +kernel
theorem d_Mo_writeWindow_218 : decode cd_Mo_writeWindow 218 = .ok (.iload 7, 2) := by decide +kernel
theorem d_Mo_writeWindow_220 : decode cd_Mo_writeWindow 220 = .ok (.imul, 1) := by decide +kernel
theorem d_Mo_writeWindow_221 : decode cd_Mo_writeWindow 221 = .ok (.iload 8, 2) := by decide +kernel
theorem d_Mo_writeWindow_223 : decode cd_Mo_writeWindow 223 = .ok (.iadd, 1) := by decide +kernel
theorem d_Mo_writeWindow_224 : decode cd_Mo_writeWindow 224 = .ok (.iaload, 1) := by decide +kernel
theorem d_Mo_writeWindow_225 : decode cd_Mo_writeWindow 225 = .ok (.invokevirtual 298, 3) := by decide +kernel
theorem d_Mo_writeWindow_228 : decode cd_Mo_writeWindow 228 = .ok (.iinc 8 1, 3) := by decide +kernel
theorem d_Mo_writeWindow_231 : decode cd_Mo_writeWindow 231 = .ok (.goto (-33), 3) := by decide +kernel
theorem d_Mo_writeWindow_234 : decode cd_Mo_writeWindow 234 = .ok (.iinc 7 1, 3) := by decide +kernel
theorem d_Mo_writeWindow_237 : decode cd_Mo_writeWindow 237 = .ok (.goto (-48), 3) := by decide +kernel
theorem d_Mo_writeWindow_240 : decode cd_Mo_writeWindow 240 = .ok (.return_, 1) := by decide +kernel
theorem d_Mo_writeHead_0 : decode cd_Mo_writeHead 0 = .ok (.aload_n 0, 1) := by decide +kernel
theorem d_Mo_writeHead_1 : decode cd_Mo_writeHead 1 = .ok (.iconst 0, 1) := by decide +kernel
theorem d_Mo_writeHead_2 : decode cd_Mo_writeHead 2 = .ok (.putfield 292, 3) := by decide +kernel
theorem d_Mo_writeHead_5 : decode cd_Mo_writeHead 5 = .ok (.aload_n 0, 1) := by decide +kernel
theorem d_Mo_writeHead_6 : decode cd_Mo_writeHead 6 = .ok (.sipush 214, 3) := by decide +kernel
theorem d_Mo_writeHead_9 : decode cd_Mo_writeHead 9 = .ok (.invokevirtual 298, 3) := by decide +kernel
theorem d_Mo_writeHead_12 : decode cd_Mo_writeHead 12 = .ok (.aload_n 0, 1) := by decide +kernel
theorem d_Mo_writeHead_13 : decode cd_Mo_writeHead 13 = .ok (.sipush 195, 3) := by decide +kernel
theorem d_Mo_writeHead_16 : decode cd_Mo_writeHead 16 = .ok (.invokevirtual 298, 3) := by decide +kernel
theorem d_Mo_writeHead_19 : decode cd_Mo_writeHead 19 = .ok (.aload_n 0, 1) := by decide +kernel
theorem d_Mo_writeHead_20 : decode cd_Mo_writeHead 20 = .ok (.sipush 196, 3) := by decide +kernel
theorem d_Mo_writeHead_23 : decode cd_Mo_writeHead 23 = .ok (.invokevirtual 298, 3) := by decide +kernel
theorem d_Mo_writeHead_26 : decode cd_Mo_writeHead 26 = .ok (.aload_n 0, 1) := by decide +kernel
theorem d_Mo_writeHead_27 : decode cd_Mo_writeHead 27 = .ok (.iconst 0, 1) := by decide +kernel
theorem d_Mo_writeHead_28 : decode cd_Mo_writeHead 28 = .ok (.invokevirtual 298, 3) := by decide +kernel
theorem d_Mo_writeHead_31 : decode cd_Mo_writeHead 31 = .ok (.aload_n 0, 1) := by decide +kernel
theorem d_Mo_writeHead_32 : decode cd_Mo_writeHead 32 = .ok (.iconst 0, 1) := by decide +kernel
theorem d_Mo_writeHead_33 : decode cd_Mo_writeHead 33 = .ok (.invokevirtual 298, 3) := by decide +kernel
theorem d_Mo_writeHead_36 : decode cd_Mo_writeHead 36 = .ok (.return_, 1) := by decide +kernel
theorem d_Mo_encode_0 : decode cd_Mo_encode 0 = .ok (.aload_n 0, 1) := by decide +kernel
theorem d_Mo_encode_1 : decode cd_Mo_encode 1 = .ok (.getfield 100, 3) := by decide +kernel
theorem d_Mo_encode_4 : decode cd_Mo_encode 4 = .ok (.ifCond .ge 5, 3) := by decide +kernel
theorem d_Mo_encode_7 : decode cd_Mo_encode 7 = .ok (.iconst (-1), 1) := by decide +kernel
theorem d_Mo_encode_8 : decode cd_Mo_encode 8 = .ok (.ireturn, 1) := by decide +kernel
theorem d_Mo_encode_9 : decode cd_Mo_encode 9 = .ok (.aload_n 0, 1) := by decide +kernel
theorem d_Mo_encode_10 : decode cd_Mo_encode 10 = .ok (.invokevirtual 335, 3) := by decide +kernel
theorem d_Mo_encode_13 : decode cd_Mo_encode 13 = .ok (.iconst 0, 1) := by decide +kernel
theorem d_Mo_encode_14 : decode cd_Mo_encode 14 = .ok (.istore_n 2, 1) := by decide +kernel
theorem d_Mo_encode_15 : decode cd_Mo_encode 15 = .ok (.iconst 0, 1) := by decide +kernel
theorem d_Mo_encode_16 : decode cd_Mo_encode 16 = .ok (.istore_n 3, 1) := by decide +kernel
theorem d_Mo_encode_17 : decode cd_Mo_encode 17 = .ok (.iload_n 3, 1) := by decide +kernel
theorem d_Mo_encode_18 : decode cd_Mo_encode 18 = .ok (.aload_n 0, 1) := by decide +kernel
theorem d_Mo_encode_19 : decode cd_Mo_encode 19 = .ok (.getfield 81, 3) := by decide +kernel
theorem d_Mo_encode_22 : decode cd_Mo_encode 22 = .ok (.iconst 1, 1) := by decide +kernel
theorem d_Mo_encode_23 : decode cd_Mo_encode 23 = .ok (.iaload, 1) := by decide +kernel
theorem d_Mo_encode_24 : decode cd_Mo_encode 24 = .ok (.if_icmp .ge 56, 3) := by decide +kernel
theorem d_Mo_encode_27 : decode cd_Mo_encode 27 = .ok (.aload_n 0, 1) := by decide +kernel
theorem d_Mo_encode_28 : decode cd_Mo_encode 28 = .ok (.iload_n 2, 1) := by decide +kernel
theorem d_Mo_encode_29 : decode cd_Mo_encode 29 = .ok (.iload_n 3, 1) := by decide +kernel
theorem d_Mo_encode_30 : decode cd_Mo_encode 30 = .ok (.invokevirtual 338, 3) := by decide +kernel
theorem d_Mo_encode_33 : decode cd_Mo_encode 33 = .ok (.istore_n 2, 1) := by decide +kernel
theorem d_Mo_encode_34 : decode cd_Mo_encode 34 = .ok (.aload_n 0, 1) := by decide +kernel
theorem d_Mo_encode_35 : decode cd_Mo_encode 35 = .ok (.iload_n 3, 1) := by decide +kernel
theorem d_Mo_encode_36 : decode cd_Mo_encode 36 = .ok (.aload_n 0, 1) := by decide +kernel
theorem d_Mo_encode_37 : decode cd_Mo_encode 37 = .ok (.getfield 246, 3) := by decide +kernel
theorem d_Mo_encode_40 : decode cd_Mo_encode 40 = .ok (.iadd, 1) := by decide +kernel
theorem d_Mo_encode_41 : decode cd_Mo_encode 41 = .ok (.aload_n 0, 1) := by decide +kernel
theorem d_Mo_encode_42 : decode cd_Mo_encode 42 = .ok (.getfield 81, 3) := by decide +kernel
theorem d_Mo_encode_45 : decode cd_Mo_encode 45 = .ok (.iconst 1, 1) := by decide +kernel
theorem d_Mo_encode_46 : decode cd_Mo_encode 46 = .ok (.iaload, 1) := by decide +kernel
theorem d_Mo_encode_47 : decode cd_Mo_encode 47 = .ok (.if_icmp .ge 10, 3) := by decide +kernel
theorem d_Mo_encode_50 : decode cd_Mo_encode 50 = .ok (.aload_n 0, 1) := by decide +kernel
theorem d_Mo_encode_51 : decode cd_Mo_encode 51 = .ok (.getfield 246, 3) := by decide +kernel
theorem d_Mo_encode_54 : decode cd_Mo_encode 54 = .ok (.goto 11, 3) := by decide +kernel
theorem d_Mo_encode_57 : decode cd_Mo_encode 57 = .ok (.aload_n 0, 1) := by decide +kernel
theorem d_Mo_encode_58 : decode cd_Mo_encode 58 = .ok (.getfield 81, 3) := by decide +kernel
theorem d_Mo_encode_61 : decode cd_Mo_encode 61 = .ok (.iconst 1, 1) := by decide +kernel
theorem d_Mo_encode_62 : decode cd_Mo_encode 62 = .ok (.iaload, 1) := by decide +kernel
theorem d_Mo_encode_63 : decode cd_Mo_encode 63 = .ok (.iload_n 3, 1) := by decide +kernel
theorem d_Mo_encode_64 : decode cd_Mo_encode 64 = .ok (.isub, 1) := by decide +kernel
theorem d_Mo_encode_65 : decode cd_Mo_encode 65 = .ok (.iload_n 3, 1) := by decide +kernel
theorem d_Mo_encode_66 : decode cd_Mo_encode 66 = .ok (.iload_n 1, 1) := by decide +kernel
theorem d_Mo_encode_67 : decode cd_Mo_encode 67 = .ok (.invokevirtual 341, 3) := by decide +kernel
theorem d_Mo_encode_70 : decode cd_Mo_encode 70 = .ok (.iload_n 3, 1) := by decide +kernel
theorem d_Mo_encode_71 : decode cd_Mo_encode 71 = .ok (.aload_n 0, 1) := by decide +kernel
theorem d_Mo_encode_72 : decode cd_Mo_encode 72 = .ok (.getfield 246, 3) := by decide +kernel
theorem d_Mo_encode_75 : decode cd_Mo_encode 75 = .ok (.iadd, 1) := by decide +kernel
theorem d_Mo_encode_76 : decode cd_Mo_encode 76 = .ok (.istore_n 3, 1) := by decide +kernel
theorem d_Mo_encode_77 : decode cd_Mo_encode 77 = .ok (.goto (-60), 3) := by decide +kernel
theorem d_Mo_encode_80 : decode cd_Mo_encode 80 = .ok (.aload_n 0, 1) := by decide +kernel
theorem d_Mo_encode_81 : decode cd_Mo_encode 81 = .ok (.getfield 292, 3) := by decide +kernel
theorem d_Mo_encode_84 : decode cd_Mo_encode 84 = .ok (.sipush 700, 3) := by decide +kernel
theorem d_Mo_encode_87 : decode cd_Mo_encode 87 = .ok (.if_icmp .le 6, 3) := by decide +kernel
theorem d_Mo_encode_90 : decode cd_Mo_encode 90 = .ok (.bipush (-4), 2) := by decide +kernel
theorem d_Mo_encode_92 : decode cd_Mo_encode 92 = .ok (.ireturn, 1) := by decide +kernel
theorem d_Mo_encode_93 : decode cd_Mo_encode 93 = .ok (.iconst 0, 1) := by decide +kernel
theorem d_Mo_encode_94 : decode cd_Mo_encode 94 = .ok (.istore_n 3, 1) := by decide +kernel
theorem d_Mo_encode_95 : decode cd_Mo_encode 95 = .ok (.iload_n 3, 1) := by decide +kernel
theorem d_Mo_encode_96 : decode cd_Mo_encode 96 = .ok (.aload_n 0, 1) := by decide +kernel
theorem d_Mo_encode_97 : decode cd_Mo_encode 97 = .ok (.getfield 292, 3) := by decide +kernel
theorem d_Mo_encode_100 : decode cd_Mo_encode 100 = .ok (.if_icmp .ge 25, 3) := by decide +kernel
theorem d_Mo_encode_103 : decode cd_Mo_encode 103 = .ok (.aload_n 0, 1) := by decide +kernel
theorem d_Mo_encode_104 : decode cd_Mo_encode 104 = .ok (.getfield 77, 3) := by decide +kernel
theorem d_Mo_encode_107 : decode cd_Mo_encode 107 = .ok (.sipush 600, 3) := by decide +kernel
theorem d_Mo_encode_110 : decode cd_Mo_encode 110 = .ok (.iload_n 3, 1) := by decide +kernel
theorem d_Mo_encode_111 : decode cd_Mo_encode 111 = .ok (.iadd, 1) := by decide +kernel
theorem d_Mo_encode_112 : decode cd_Mo_encode 112 = .ok (.aload_n 0, 1) := by decide +kernel
theorem d_Mo_encode_113 : decode cd_Mo_encode 113 = .ok (.getfield 121, 3) := by decide +kernel
theorem d_Mo_encode_116 : decode cd_Mo_encode 116 = .ok (.iload_n 3, 1) := by decide +kernel
theorem d_Mo_encode_117 : decode cd_Mo_encode 117 = .ok (.iaload, 1) := by decide +kernel
theorem d_Mo_encode_118 : decode cd_Mo_encode 118 = .ok (.iastore, 1) := by decide +kernel
theorem d_Mo_encode_119 : decode cd_Mo_encode 119 = .ok (.iinc 3 1, 3) := by decide +kernel
theorem d_Mo_encode_122 : decode cd_Mo_encode 122 = .ok (.goto (-27), 3) := by decide +kernel
theorem d_Mo_encode_125 : decode cd_Mo_encode 125 = .ok (.aload_n 0, 1) := by decide +kernel
theorem d_Mo_encode_126 : decode cd_Mo_encode 126 = .ok (.getfield 81, 3) := by decide +kernel
theorem d_Mo_encode_129 : decode cd_Mo_encode 129 = .ok (.iconst 2, 1) := by decide +kernel
theorem d_Mo_encode_130 : decode cd_Mo_encode 130 = .ok (.aload_n 0, 1) := by decide +kernel
theorem d_Mo_encode_131 : decode cd_Mo_encode 131 = .ok (.getfield 292, 3) := by decide +kernel
theorem d_Mo_encode_134 : decode cd_Mo_encode 134 = .ok (.iastore, 1) := by decide +kernel
theorem d_Mo_encode_135 : decode cd_Mo_encode 135 = .ok (.aload_n 0, 1) := by decide +kernel
theorem d_Mo_encode_136 : decode cd_Mo_encode 136 = .ok (.getfield 292, 3) := by decide +kernel
theorem d_Mo_encode_139 : decode cd_Mo_encode 139 = .ok (.ireturn, 1) := by decide +kernel
theorem d_Mo_refuse_0 : decode cd_Mo_refuse 0 = .ok (.aload_n 0, 1) := by decide +kernel
theorem d_Mo_refuse_1 : decode cd_Mo_refuse 1 = .ok (.aload_n 0, 1) := by decide +kernel
theorem d_Mo_refuse_2 : decode cd_Mo_refuse 2 = .ok (.getfield 345, 3) := by decide +kernel
theorem d_Mo_refuse_5 : decode cd_Mo_refuse 5 = .ok (.ifCond .ne 7, 3) := by decide +kernel
theorem d_Mo_refuse_8 : decode cd_Mo_refuse 8 = .ok (.iload_n 1, 1) := by decide +kernel
theorem d_Mo_refuse_9 : decode cd_Mo_refuse 9 = .ok (.goto 7, 3) := by decide +kernel
theorem d_Mo_refuse_12 : decode cd_Mo_refuse 12 = .ok (.aload_n 0, 1) := by decide +kernel
theorem d_Mo_refuse_13 : decode cd_Mo_refuse 13 = .ok (.getfield 345, 3) := by decide +kernel
theorem d_Mo_refuse_16 : decode cd_Mo_refuse 16 = .ok (.putfield 345, 3) := by decide +kernel
theorem d_Mo_refuse_19 : decode cd_Mo_refuse 19 = .ok (.return_, 1) := by decide +kernel
theorem d_Mo_readByte_0 : decode cd_Mo_readByte 0 = .ok (.aload_n 0, 1) := by decide +kernel
theorem d_Mo_readByte_1 : decode cd_Mo_readByte 1 = .ok (.getfield 345, 3) := by decide +kernel
theorem d_Mo_readByte_4 : decode cd_Mo_readByte 4 = .ok (.ifCond .ne 14, 3) := by decide +kernel
theorem d_Mo_readByte_7 : decode cd_Mo_readByte 7 = .ok (.aload_n 0, 1) := by decide +kernel
theorem d_Mo_readByte_8 : decode cd_Mo_readByte 8 = .ok (.getfield 348, 3) := by decide +kernel
theorem d_Mo_readByte_11 : decode cd_Mo_readByte 11 = .ok (.aload_n 0, 1) := by decide +kernel
theorem d_Mo_readByte_12 : decode cd_Mo_readByte 12 = .ok (.getfield 351, 3) := by decide +kernel
theorem d_Mo_readByte_15 : decode cd_Mo_readByte 15 = .ok (.if_icmp .lt 11, 3) := by decide +kernel
theorem d_Mo_readByte_18 : decode cd_Mo_readByte 18 = .ok (.aload_n 0, 1) := by decide +kernel
theorem d_Mo_readByte_19 : decode cd_Mo_readByte 19 = .ok (.bipush (-2), 2) := by decide +kernel
theorem d_Mo_readByte_21 : decode cd_Mo_readByte 21 = .ok (.invokevirtual 354, 3) := by decide +kernel
theorem d_Mo_readByte_24 : decode cd_Mo_readByte 24 = .ok (.iconst 0, 1) := by decide +kernel
theorem d_Mo_readByte_25 : decode cd_Mo_readByte 25 = .ok (.ireturn, 1) := by decide +kernel
theorem d_Mo_readByte_26 : decode cd_Mo_readByte 26 = .ok (.aload_n 0, 1) := by decide +kernel
theorem d_Mo_readByte_27 : decode cd_Mo_readByte 27 = .ok (.dup, 1) := by decide +kernel
theorem d_Mo_readByte_28 : decode cd_Mo_readByte 28 = .ok (.getfield 348, 3) := by decide +kernel
theorem d_Mo_readByte_31 : decode cd_Mo_readByte 31 = .ok (.iconst 1, 1) := by decide +kernel
theorem d_Mo_readByte_32 : decode cd_Mo_readByte 32 = .ok (.iadd, 1) := by decide +kernel
theorem d_Mo_readByte_33 : decode cd_Mo_readByte 33 = .ok (.putfield 348, 3) := by decide +kernel
theorem d_Mo_readByte_36 : decode cd_Mo_readByte 36 = .ok (.aload_n 0, 1) := by decide +kernel
theorem d_Mo_readByte_37 : decode cd_Mo_readByte 37 = .ok (.getfield 77, 3) := by decide +kernel
theorem d_Mo_readByte_40 : decode cd_Mo_readByte 40 = .ok (.sipush 599, 3) := by decide +kernel
theorem d_Mo_readByte_43 : decode cd_Mo_readByte 43 = .ok (.aload_n 0, 1) := by decide +kernel
theorem d_Mo_readByte_44 : decode cd_Mo_readByte 44 = .ok (.getfield 348, 3) := by decide +kernel
theorem d_Mo_readByte_47 : decode cd_Mo_readByte 47 = .ok (.iadd, 1) := by decide +kernel
theorem d_Mo_readByte_48 : decode cd_Mo_readByte 48 = .ok (.iaload, 1) := by decide +kernel
theorem d_Mo_readByte_49 : decode cd_Mo_readByte 49 = .ok (.ireturn, 1) := by decide +kernel
theorem d_Mo_readNumber_0 : decode cd_Mo_readNumber 0 = .ok (.iconst 0, 1) := by decide +kernel
theorem d_Mo_readNumber_1 : decode cd_Mo_readNumber 1 = .ok (.istore_n 1, 1) := by decide +kernel
theorem d_Mo_readNumber_2 : decode cd_Mo_readNumber 2 = .ok (.iconst 0, 1) := by decide +kernel
theorem d_Mo_readNumber_3 : decode cd_Mo_readNumber 3 = .ok (.istore_n 2, 1) := by decide +kernel
theorem d_Mo_readNumber_4 : decode cd_Mo_readNumber 4 = .ok (.iconst 1, 1) := by decide +kernel
theorem d_Mo_readNumber_5 : decode cd_Mo_readNumber 5 = .ok (.istore_n 3, 1) := by decide +kernel
theorem d_Mo_readNumber_6 : decode cd_Mo_readNumber 6 = .ok (.iload_n 3, 1) := by decide +kernel
theorem d_Mo_readNumber_7 : decode cd_Mo_readNumber 7 = .ok (.ifCond .eq 62, 3) := by decide +kernel
theorem d_Mo_readNumber_10 : decode cd_Mo_readNumber 10 = .ok (.aload_n 0, 1) := by decide +kernel
theorem d_Mo_readNumber_11 : decode cd_Mo_readNumber 11 = .ok (.getfield 345, 3) := by decide +kernel
theorem d_Mo_readNumber_14 : decode cd_Mo_readNumber 14 = .ok (.ifCond .ne 55, 3) := by decide +kernel
theorem d_Mo_readNumber_17 : decode cd_Mo_readNumber 17 = .ok (.aload_n 0, 1) := by decide +kernel
theorem d_Mo_readNumber_18 : decode cd_Mo_readNumber 18 = .ok (.invokevirtual 357, 3) := by decide +kernel
theorem d_Mo_readNumber_21 : decode cd_Mo_readNumber 21 = .ok (.istore 4, 2) := by decide +kernel
theorem d_Mo_readNumber_23 : decode cd_Mo_readNumber 23 = .ok (.sipush 128, 3) := by decide +kernel
theorem d_Mo_readNumber_26 : decode cd_Mo_readNumber 26 = .ok (.iload_n 1, 1) := by decide +kernel
theorem d_Mo_readNumber_27 : decode cd_Mo_readNumber 27 = .ok (.imul, 1) := by decide +kernel
theorem d_Mo_readNumber_28 : decode cd_Mo_readNumber 28 = .ok (.iload 4, 2) := by decide +kernel
theorem d_Mo_readNumber_30 : decode cd_Mo_readNumber 30 = .ok (.bipush 127, 2) := by decide +kernel
theorem d_Mo_readNumber_32 : decode cd_Mo_readNumber 32 = .ok (.iand, 1) := by decide +kernel
theorem d_Mo_readNumber_33 : decode cd_Mo_readNumber 33 = .ok (.iadd, 1) := by decide +kernel
theorem d_Mo_readNumber_34 : decode cd_Mo_readNumber 34 = .ok (.istore_n 1, 1) := by decide +kernel
theorem d_Mo_readNumber_35 : decode cd_Mo_readNumber 35 = .ok (.iinc 2 1, 3) := by decide +kernel
theorem d_Mo_readNumber_38 : decode cd_Mo_readNumber 38 = .ok (.iload 4, 2) := by decide +kernel
theorem d_Mo_readNumber_40 : decode cd_Mo_readNumber 40 = .ok (.bipush 127, 2) := by decide +kernel
theorem d_Mo_readNumber_42 : decode cd_Mo_readNumber 42 = .ok (.if_icmp .le 7, 3) := by decide +kernel
theorem d_Mo_readNumber_45 : decode cd_Mo_readNumber 45 = .ok (.iconst 1, 1) := by decide +kernel
theorem d_Mo_readNumber_46 : decode cd_Mo_readNumber 46 = .ok (.goto 4, 3) := by decide +kernel
theorem d_Mo_readNumber_49 : decode cd_Mo_readNumber 49 = .ok (.iconst 0, 1) := by decide +kernel
theorem d_Mo_readNumber_50 : decode cd_Mo_readNumber 50 = .ok (.istore_n 3, 1) := by decide +kernel
theorem d_Mo_readNumber_51 : decode cd_Mo_readNumber 51 = .ok (.iload_n 3, 1) := by decide +kernel
theorem d_Mo_readNumber_52 : decode cd_Mo_readNumber 52 = .ok (.ifCond .eq 14, 3) := by decide +kernel
theorem d_Mo_readNumber_55 : decode cd_Mo_readNumber 55 = .ok (.iload_n 2, 1) := by decide +kernel
theorem d_Mo_readNumber_56 : decode cd_Mo_readNumber 56 = .ok (.iconst 4, 1) := by decide +kernel
theorem d_Mo_readNumber_57 : decode cd_Mo_readNumber 57 = .ok (.if_icmp .ne 9, 3) := by decide +kernel
theorem d_Mo_readNumber_60 : decode cd_Mo_readNumber 60 = .ok (.aload_n 0, 1) := by decide +kernel
theorem d_Mo_readNumber_61 : decode cd_Mo_readNumber 61 = .ok (.bipush (-2), 2) := by decide +kernel
theorem d_Mo_readNumber_63 : decode cd_Mo_readNumber 63 = .ok (.invokevirtual 354, 3) := by decide +kernel
theorem d_Mo_readNumber_66 : decode cd_Mo_readNumber 66 = .ok (.goto (-60), 3) := by decide +kernel
theorem d_Mo_readNumber_69 : decode cd_Mo_readNumber 69 = .ok (.iload_n 1, 1) := by decide +kernel
theorem d_Mo_readNumber_70 : decode cd_Mo_readNumber 70 = .ok (.ireturn, 1) := by decide +kernel
theorem d_Mo_readPart_0 : decode cd_Mo_readPart 0 = .ok (.aload_n 0, 1) := by decide +kernel
theorem d_Mo_readPart_1 : decode cd_Mo_readPart 1 = .ok (.getfield 145, 3) := by decide +kernel
theorem d_Mo_readPart_4 : decode cd_Mo_readPart 4 = .ok (.iload_n 1, 1) := by decide +kernel
theorem d_Mo_readPart_5 : decode cd_Mo_readPart 5 = .ok (.iaload, 1) := by decide +kernel
theorem d_Mo_readPart_6 : decode cd_Mo_readPart 6 = .ok (.aload_n 0, 1) := by decide +kernel
theorem d_Mo_readPart_7 : decode cd_Mo_readPart 7 = .ok (.getfield 148, 3) := by decide +kernel
theorem d_Mo_readPart_10 : decode cd_Mo_readPart 10 = .ok (.iload_n 1, 1) := by decide +kernel
theorem d_Mo_readPart_11 : decode cd_Mo_readPart 11 = .ok (.iaload, 1) := by decide +kernel
theorem d_Mo_readPart_12 : decode cd_Mo_readPart 12 = .ok (.if_icmp .lt 11, 3) := by decide +kernel
theorem d_Mo_readPart_15 : decode cd_Mo_readPart 15 = .ok (.aload_n 0, 1) := by decide +kernel
theorem d_Mo_readPart_16 : decode cd_Mo_readPart 16 = .ok (.bipush (-2), 2) := by decide +kernel
theorem d_Mo_readPart_18 : decode cd_Mo_readPart 18 = .ok (.invokevirtual 354, 3) := by decide +kernel
theorem d_Mo_readPart_21 : decode cd_Mo_readPart 21 = .ok (.iconst 0, 1) := by decide +kernel
theorem d_Mo_readPart_22 : decode cd_Mo_readPart 22 = .ok (.ireturn, 1) := by decide +kernel
theorem d_Mo_readPart_23 : decode cd_Mo_readPart 23 = .ok (.aload_n 0, 1) := by decide +kernel
theorem d_Mo_readPart_24 : decode cd_Mo_readPart 24 = .ok (.getfield 145, 3) := by decide +kernel
theorem d_Mo_readPart_27 : decode cd_Mo_readPart 27 = .ok (.iload_n 1, 1) := by decide +kernel
theorem d_Mo_readPart_28 : decode cd_Mo_readPart 28 = .ok (.dup2, 1) := by decide +kernel
theorem d_Mo_readPart_29 : decode cd_Mo_readPart 29 = .ok (.iaload, 1) := by decide +kernel
theorem d_Mo_readPart_30 : decode cd_Mo_readPart 30 = .ok (.iconst 1, 1) := by decide +kernel
theorem d_Mo_readPart_31 : decode cd_Mo_readPart 31 = .ok (.iadd, 1) := by decide +kernel
theorem d_Mo_readPart_32 : decode cd_Mo_readPart 32 = .ok (.iastore, 1) := by decide +kernel
theorem d_Mo_readPart_33 : decode cd_Mo_readPart 33 = .ok (.aload_n 0, 1) := by decide +kernel
theorem d_Mo_readPart_34 : decode cd_Mo_readPart 34 = .ok (.getfield 77, 3) := by decide +kernel
theorem d_Mo_readPart_37 : decode cd_Mo_readPart 37 = .ok (.sipush 599, 3) := by decide +kernel
theorem d_Mo_readPart_40 : decode cd_Mo_readPart 40 = .ok (.aload_n 0, 1) := by decide +kernel
theorem d_Mo_readPart_41 : decode cd_Mo_readPart 41 = .ok (.getfield 145, 3) := by decide +kernel
theorem d_Mo_readPart_44 : decode cd_Mo_readPart 44 = .ok (.iload_n 1, 1) := by decide +kernel
theorem d_Mo_readPart_45 : decode cd_Mo_readPart 45 = .ok (.iaload, 1) := by decide +kernel
theorem d_Mo_readPart_46 : decode cd_Mo_readPart 46 = .ok (.iadd, 1) := by decide +kernel
theorem d_Mo_readPart_47 : decode cd_Mo_readPart 47 = .ok (.iaload, 1) := by decide +kernel
theorem d_Mo_readPart_48 : decode cd_Mo_readPart 48 = .ok (.ireturn, 1) := by decide +kernel
theorem d_Mo_readPartNumber_0 : decode cd_Mo_readPartNumber 0 = .ok (.iconst 0, 1) := by decide +kernel
theorem d_Mo_readPartNumber_1 : decode cd_Mo_readPartNumber 1 = .ok (.istore_n 2, 1) := by decide +kernel
theorem d_Mo_readPartNumber_2 : decode cd_Mo_readPartNumber 2 = .ok (.iconst 0, 1) := by decide +kernel
theorem d_Mo_readPartNumber_3 : decode cd_Mo_readPartNumber 3 = .ok (.istore_n 3, 1) := by decide +kernel
theorem d_Mo_readPartNumber_4 : decode cd_Mo_readPartNumber 4 = .ok (.iconst 1, 1) := by decide +kernel
theorem d_Mo_readPartNumber_5 : decode cd_Mo_readPartNumber 5 = .ok (.istore 4, 2) := by decide +kernel
theorem d_Mo_readPartNumber_7 : decode cd_Mo_readPartNumber 7 = .ok (.iload 4, 2) := by decide +kernel
theorem d_Mo_readPartNumber_9 : decode cd_Mo_readPartNumber 9 = .ok (.ifCond .eq 65, 3) := by decide +kernel
theorem d_Mo_readPartNumber_12 : decode cd_Mo_readPartNumber 12 = .ok (.aload_n 0, 1) := by decide +kernel
theorem d_Mo_readPartNumber_13 : decode cd_Mo_readPartNumber 13 = .ok (.getfield 345, 3) := by decide +kernel
theorem d_Mo_readPartNumber_16 : decode cd_Mo_readPartNumber 16 = .ok (.ifCond .ne 58, 3) := by decide +kernel
theorem d_Mo_readPartNumber_19 : decode cd_Mo_readPartNumber 19 = .ok (.aload_n 0, 1) := by decide +kernel
theorem d_Mo_readPartNumber_20 : decode cd_Mo_readPartNumber 20 = .ok (.iload_n 1, 1) := by decide +kernel
theorem d_Mo_readPartNumber_21 : decode cd_Mo_readPartNumber 21 = .ok (.invokevirtual 361, 3) := by decide +kernel
theorem d_Mo_readPartNumber_24 : decode cd_Mo_readPartNumber 24 = .ok (.istore 5, 2) := by decide +kernel
theorem d_Mo_readPartNumber_26 : decode cd_Mo_readPartNumber 26 = .ok (.sipush 128, 3) := by decide +kernel
theorem d_Mo_readPartNumber_29 : decode cd_Mo_readPartNumber 29 = .ok (.iload_n 2, 1) := by decide +kernel
theorem d_Mo_readPartNumber_30 : decode cd_Mo_readPartNumber 30 = .ok (.imul, 1) := by decide +kernel
theorem d_Mo_readPartNumber_31 : decode cd_Mo_readPartNumber 31 = .ok (.iload 5, 2) := by decide +kernel
theorem d_Mo_readPartNumber_33 : decode cd_Mo_readPartNumber 33 = .ok (.bipush 127, 2) := by decide +kernel
theorem d_Mo_readPartNumber_35 : decode cd_Mo_readPartNumber 35 = .ok (.iand, 1) := by decide +kernel
theorem d_Mo_readPartNumber_36 : decode cd_Mo_readPartNumber 36 = .ok (.iadd, 1) := by decide +kernel
theorem d_Mo_readPartNumber_37 : decode cd_Mo_readPartNumber 37 = .ok (.istore_n 2, 1) := by decide +kernel
theorem d_Mo_readPartNumber_38 : decode cd_Mo_readPartNumber 38 = .ok (.iinc 3 1, 3) := by decide +kernel
theorem d_Mo_readPartNumber_41 : decode cd_Mo_readPartNumber 41 = .ok (.iload 5, 2) := by decide +kernel
theorem d_Mo_readPartNumber_43 : decode cd_Mo_readPartNumber 43 = .ok (.bipush 127, 2) := by decide +kernel
theorem d_Mo_readPartNumber_45 : decode cd_Mo_readPartNumber 45 = .ok (.if_icmp .le 7, 3) := by decide +kernel
theorem d_Mo_readPartNumber_48 : decode cd_Mo_readPartNumber 48 = .ok (.iconst 1, 1) := by decide +kernel
theorem d_Mo_readPartNumber_49 : decode cd_Mo_readPartNumber 49 = .ok (.goto 4, 3) := by decide +kernel
theorem d_Mo_readPartNumber_52 : decode cd_Mo_readPartNumber 52 = .ok (.iconst 0, 1) := by decide +kernel
theorem d_Mo_readPartNumber_53 : decode cd_Mo_readPartNumber 53 = .ok (.istore 4, 2) := by decide +kernel
theorem d_Mo_readPartNumber_55 : decode cd_Mo_readPartNumber 55 = .ok (.iload 4, 2) := by decide +kernel
theorem d_Mo_readPartNumber_57 : decode cd_Mo_readPartNumber 57 = .ok (.ifCond .eq 14, 3) := by decide +kernel
theorem d_Mo_readPartNumber_60 : decode cd_Mo_readPartNumber 60 = .ok (.iload_n 3, 1) := by decide +kernel
theorem d_Mo_readPartNumber_61 : decode cd_Mo_readPartNumber 61 = .ok (.iconst 4, 1) := by decide +kernel
theorem d_Mo_readPartNumber_62 : decode cd_Mo_readPartNumber 62 = .ok (.if_icmp .ne 9, 3) := by decide +kernel
theorem d_Mo_readPartNumber_65 : decode cd_Mo_readPartNumber 65 = .ok (.aload_n 0, 1) := by decide +kernel
theorem d_Mo_readPartNumber_66 : decode cd_Mo_readPartNumber 66 = .ok (.bipush (-2), 2) := by decide +kernel
theorem d_Mo_readPartNumber_68 : decode cd_Mo_readPartNumber 68 = .ok (.invokevirtual 354, 3) := by decide +kernel
theorem d_Mo_readPartNumber_71 : decode cd_Mo_readPartNumber 71 = .ok (.goto (-64), 3) := by decide +kernel
theorem d_Mo_readPartNumber_74 : decode cd_Mo_readPartNumber 74 = .ok (.iload_n 2, 1) := by decide +kernel
theorem d_Mo_readPartNumber_75 : decode cd_Mo_readPartNumber 75 = .ok (.ireturn, 1) := by decide +kernel
theorem d_Mo_layTable_0 : decode cd_Mo_layTable 0 = .ok (.iconst 0, 1) := by decide +kernel
theorem d_Mo_layTable_1 : decode cd_Mo_layTable 1 = .ok (.istore_n 1, 1) := by decide +kernel
theorem d_Mo_layTable_2 : decode cd_Mo_layTable 2 = .ok (.iload_n 1, 1) := by decide +kernel
theorem d_Mo_layTable_3 : decode cd_Mo_layTable 3 = .ok (.sipush 1536, 3) := by decide +kernel
theorem d_Mo_layTable_6 : decode cd_Mo_layTable 6 = .ok (.if_icmp .ge 16, 3) := by decide +kernel
theorem d_Mo_layTable_9 : decode cd_Mo_layTable 9 = .ok (.aload_n 0, 1) := by decide +kernel
theorem d_Mo_layTable_10 : decode cd_Mo_layTable 10 = .ok (.getfield 139, 3) := by decide +kernel
theorem d_Mo_layTable_13 : decode cd_Mo_layTable 13 = .ok (.iload_n 1, 1) := by decide +kernel
theorem d_Mo_layTable_14 : decode cd_Mo_layTable 14 = .ok (.iconst 0, 1) := by decide +kernel
theorem d_Mo_layTable_15 : decode cd_Mo_layTable 15 = .ok (.iastore, 1) := by decide +kernel
theorem d_Mo_layTable_16 : decode cd_Mo_layTable 16 = .ok (.iinc 1 1, 3) := by decide +kernel
theorem d_Mo_layTable_19 : decode cd_Mo_layTable 19 = .ok (.goto (-17), 3) := by decide +kernel
theorem d_Mo_layTable_22 : decode cd_Mo_layTable 22 = .ok (.iconst 0, 1) := by decide +kernel
theorem d_Mo_layTable_23 : decode cd_Mo_layTable 23 = .ok (.istore_n 1, 1) := by decide +kernel
theorem d_Mo_layTable_24 : decode cd_Mo_layTable 24 = .ok (.iload_n 1, 1) := by decide +kernel
theorem d_Mo_layTable_25 : decode cd_Mo_layTable 25 = .ok (.sipush 256, 3) := by decide +kernel
theorem d_Mo_layTable_28 : decode cd_Mo_layTable 28 = .ok (.if_icmp .ge 345, 3) := by decide +kernel
theorem d_Mo_layTable_31 : decode cd_Mo_layTable 31 = .ok (.aload_n 0, 1) := by decide +kernel
theorem d_Mo_layTable_32 : decode cd_Mo_layTable 32 = .ok (.getfield 139, 3) := by decide +kernel
theorem d_Mo_layTable_35 : decode cd_Mo_layTable 35 = .ok (.iload_n 1, 1) := by decide +kernel
theorem d_Mo_layTable_36 : decode cd_Mo_layTable 36 = .ok (.iload_n 1, 1) := by decide +kernel
theorem d_Mo_layTable_37 : decode cd_Mo_layTable 37 = .ok (.ifCond .ne 7, 3) := by decide +kernel
theorem d_Mo_layTable_40 : decode cd_Mo_layTable 40 = .ok (.iconst 2, 1) := by decide +kernel
theorem d_Mo_layTable_41 : decode cd_Mo_layTable 41 = .ok (.goto 28, 3) := by decide +kernel
theorem d_Mo_layTable_44 : decode cd_Mo_layTable 44 = .ok (.iload_n 1, 1) := by decide +kernel
theorem d_Mo_layTable_45 : decode cd_Mo_layTable 45 = .ok (.bipush 19, 2) := by decide +kernel
theorem d_Mo_layTable_47 : decode cd_Mo_layTable 47 = .ok (.if_icmp .lt 17, 3) := by decide +kernel
theorem d_Mo_layTable_50 : decode cd_Mo_layTable 50 = .ok (.iload_n 1, 1) := by decide +kernel
theorem d_Mo_layTable_51 : decode cd_Mo_layTable 51 = .ok (.sipush 162, 3) := by decide +kernel
theorem d_Mo_layTable_54 : decode cd_Mo_layTable 54 = .ok (.if_icmp .le 14, 3) := by decide +kernel
theorem d_Mo_layTable_57 : decode cd_Mo_layTable 57 = .ok (.iload_n 1, 1) := by decide +kernel
theorem d_Mo_layTable_58 : decode cd_Mo_layTable 58 = .ok (.sipush 247, 3) := by decide +kernel
theorem d_Mo_layTable_61 : decode cd_Mo_layTable 61 = .ok (.if_icmp .ge 7, 3) := by decide +kernel
theorem d_Mo_layTable_64 : decode cd_Mo_layTable 64 = .ok (.iconst 1, 1) := by decide +kernel
theorem d_Mo_layTable_65 : decode cd_Mo_layTable 65 = .ok (.goto 4, 3) := by decide +kernel
theorem d_Mo_layTable_68 : decode cd_Mo_layTable 68 = .ok (.iconst 3, 1) := by decide +kernel
theorem d_Mo_layTable_69 : decode cd_Mo_layTable 69 = .ok (.iastore, 1) := by decide +kernel
theorem d_Mo_layTable_70 : decode cd_Mo_layTable 70 = .ok (.aload_n 0, 1) := by decide +kernel
theorem d_Mo_layTable_71 : decode cd_Mo_layTable 71 = .ok (.getfield 139, 3) := by decide +kernel
theorem d_Mo_layTable_74 : decode cd_Mo_layTable 74 = .ok (.sipush 256, 3) := by decide +kernel
theorem d_Mo_layTable_77 : decode cd_Mo_layTable 77 = .ok (.iload_n 1, 1) := by decide +kernel
theorem d_Mo_layTable_78 : decode cd_Mo_layTable 78 = .ok (.iadd, 1) := by decide +kernel
theorem d_Mo_layTable_79 : decode cd_Mo_layTable 79 = .ok (.iload_n 1, 1) := by decide +kernel
theorem d_Mo_layTable_80 : decode cd_Mo_layTable 80 = .ok (.sipush 163, 3) := by decide +kernel
theorem d_Mo_layTable_83 : decode cd_Mo_layTable 83 = .ok (.if_icmp .ge 7, 3) := by decide +kernel
theorem d_Mo_layTable_86 : decode cd_Mo_layTable 86 = .ok (.iconst 0, 1) := by decide +kernel
theorem d_Mo_layTable_87 : decode cd_Mo_layTable 87 = .ok (.goto 15, 3) := by decide +kernel
theorem d_Mo_layTable_90 : decode cd_Mo_layTable 90 = .ok (.iload_n 1, 1) := by decide +kernel
theorem d_Mo_layTable_91 : decode cd_Mo_layTable 91 = .ok (.sipush 247, 3) := by decide +kernel
theorem d_Mo_layTable_94 : decode cd_Mo_layTable 94 = .ok (.if_icmp .ge 7, 3) := by decide +kernel
theorem d_Mo_layTable_97 : decode cd_Mo_layTable 97 = .ok (.iconst 3, 1) := by decide +kernel
theorem d_Mo_layTable_98 : decode cd_Mo_layTable 98 = .ok (.goto 4, 3) := by decide +kernel
theorem d_Mo_layTable_101 : decode cd_Mo_layTable 101 = .ok (.iconst 1, 1) := by decide +kernel
theorem d_Mo_layTable_102 : decode cd_Mo_layTable 102 = .ok (.iastore, 1) := by decide +kernel
theorem d_Mo_layTable_103 : decode cd_Mo_layTable 103 = .ok (.iload_n 1, 1) := by decide +kernel
theorem d_Mo_layTable_104 : decode cd_Mo_layTable 104 = .ok (.sipush 163, 3) := by decide +kernel
theorem d_Mo_layTable_107 : decode cd_Mo_layTable 107 = .ok (.isub, 1) := by decide +kernel
theorem d_Mo_layTable_108 : decode cd_Mo_layTable 108 = .ok (.bipush 12, 2) := by decide +kernel
theorem d_Mo_layTable_110 : decode cd_Mo_layTable 110 = .ok (.irem, 1) := by decide +kernel
theorem d_Mo_layTable_111 : decode cd_Mo_layTable 111 = .ok (.istore_n 2, 1) := by decide +kernel
theorem d_Mo_layTable_112 : decode cd_Mo_layTable 112 = .ok (.aload_n 0, 1) := by decide +kernel
theorem d_Mo_layTable_113 : decode cd_Mo_layTable 113 = .ok (.getfield 139, 3) := by decide +kernel
theorem d_Mo_layTable_116 : decode cd_Mo_layTable 116 = .ok (.sipush 512, 3) := by decide +kernel
theorem d_Mo_layTable_119 : decode cd_Mo_layTable 119 = .ok (.iload_n 1, 1) := by decide +kernel
theorem d_Mo_layTable_120 : decode cd_Mo_layTable 120 = .ok (.iadd, 1) := by decide +kernel
theorem d_Mo_layTable_121 : decode cd_Mo_layTable 121 = .ok (.iload_n 1, 1) := by decide +kernel
theorem d_Mo_layTable_122 : decode cd_Mo_layTable 122 = .ok (.ifCond .ne 7, 3) := by decide +kernel
theorem d_Mo_layTable_125 : decode cd_Mo_layTable 125 = .ok (.iconst 0, 1) := by decide +kernel
theorem d_Mo_layTable_126 : decode cd_Mo_layTable 126 = .ok (.goto 83, 3) := by decide +kernel
theorem d_Mo_layTable_129 : decode cd_Mo_layTable 129 = .ok (.iload_n 1, 1) := by decide +kernel
theorem d_Mo_layTable_130 : decode cd_Mo_layTable 130 = .ok (.bipush 19, 2) := by decide +kernel
theorem d_Mo_layTable_132 : decode cd_Mo_layTable 132 = .ok (.if_icmp .ge 9, 3) := by decide +kernel
theorem d_Mo_layTable_135 : decode cd_Mo_layTable 135 = .ok (.iload_n 1, 1) := by decide +kernel
theorem d_Mo_layTable_136 : decode cd_Mo_layTable 136 = .ok (.iconst 1, 1) := by decide +kernel
theorem d_Mo_layTable_137 : decode cd_Mo_layTable 137 = .ok (.isub, 1) := by decide +kernel
theorem d_Mo_layTable_138 : decode cd_Mo_layTable 138 = .ok (.goto 71, 3) := by decide +kernel
theorem d_Mo_layTable_141 : decode cd_Mo_layTable 141 = .ok (.iload_n 1, 1) := by decide +kernel
theorem d_Mo_layTable_142 : decode cd_Mo_layTable 142 = .ok (.sipush 163, 3) := by decide +kernel
theorem d_Mo_layTable_145 : decode cd_Mo_layTable 145 = .ok (.if_icmp .ge 29, 3) := by decide +kernel
theorem d_Mo_layTable_148 : decode cd_Mo_layTable 148 = .ok (.iload_n 1, 1) := by decide +kernel
theorem d_Mo_layTable_149 : decode cd_Mo_layTable 149 = .ok (.bipush 19, 2) := by decide +kernel
theorem d_Mo_layTable_151 : decode cd_Mo_layTable 151 = .ok (.isub, 1) := by decide +kernel
theorem d_Mo_layTable_152 : decode cd_Mo_layTable 152 = .ok (.bipush 16, 2) := by decide +kernel
theorem d_Mo_layTable_154 : decode cd_Mo_layTable 154 = .ok (.irem, 1) := by decide +kernel
theorem d_Mo_layTable_155 : decode cd_Mo_layTable 155 = .ok (.ifCond .ne 7, 3) := by decide +kernel
theorem d_Mo_layTable_158 : decode cd_Mo_layTable 158 = .ok (.iconst 0, 1) := by decide +kernel
theorem d_Mo_layTable_159 : decode cd_Mo_layTable 159 = .ok (.goto 50, 3) := by decide +kernel
theorem d_Mo_layTable_162 : decode cd_Mo_layTable 162 = .ok (.iload_n 1, 1) := by decide +kernel
theorem d_Mo_layTable_163 : decode cd_Mo_layTable 163 = .ok (.bipush 19, 2) := by decide +kernel
theorem d_Mo_layTable_165 : decode cd_Mo_layTable 165 = .ok (.isub, 1) := by decide +kernel
theorem d_Mo_layTable_166 : decode cd_Mo_layTable 166 = .ok (.bipush 16, 2) := by decide +kernel
theorem d_Mo_layTable_168 : decode cd_Mo_layTable 168 = .ok (.irem, 1) := by decide +kernel
theorem d_Mo_layTable_169 : decode cd_Mo_layTable 169 = .ok (.iconst 3, 1) := by decide +kernel
theorem d_Mo_layTable_170 : decode cd_Mo_layTable 170 = .ok (.iadd, 1) := by decide +kernel
theorem d_Mo_layTable_171 : decode cd_Mo_layTable 171 = .ok (.goto 38, 3) := by decide +kernel
theorem d_Mo_layTable_174 : decode cd_Mo_layTable 174 = .ok (.iload_n 1, 1) := by decide +kernel
theorem d_Mo_layTable_175 : decode cd_Mo_layTable 175 = .ok (.sipush 235, 3) := by decide +kernel
theorem d_Mo_layTable_178 : decode cd_Mo_layTable 178 = .ok (.if_icmp .ge 11, 3) := by decide +kernel
theorem d_Mo_layTable_181 : decode cd_Mo_layTable 181 = .ok (.iload_n 2, 1) := by decide +kernel
theorem d_Mo_layTable_182 : decode cd_Mo_layTable 182 = .ok (.iconst 3, 1) := by decide +kernel
theorem d_Mo_layTable_183 : decode cd_Mo_layTable 183 = .ok (.idiv, 1) := by decide +kernel
theorem d_Mo_layTable_184 : decode cd_Mo_layTable 184 = .ok (.iconst 1, 1) := by decide +kernel
theorem d_Mo_layTable_185 : decode cd_Mo_layTable 185 = .ok (.iadd, 1) := by decide +kernel
theorem d_Mo_layTable_186 : decode cd_Mo_layTable 186 = .ok (.goto 23, 3) := by decide +kernel
theorem d_Mo_layTable_189 : decode cd_Mo_layTable 189 = .ok (.iload_n 1, 1) := by decide +kernel
theorem d_Mo_layTable_190 : decode cd_Mo_layTable 190 = .ok (.sipush 247, 3) := by decide +kernel
theorem d_Mo_layTable_193 : decode cd_Mo_layTable 193 = .ok (.if_icmp .ge 15, 3) := by decide +kernel
theorem d_Mo_layTable_196 : decode cd_Mo_layTable 196 = .ok (.iload_n 1, 1) := by decide +kernel
theorem d_Mo_layTable_197 : decode cd_Mo_layTable 197 = .ok (.sipush 235, 3) := by decide +kernel
theorem d_Mo_layTable_200 : decode cd_Mo_layTable 200 = .ok (.isub, 1) := by decide +kernel
theorem d_Mo_layTable_201 : decode cd_Mo_layTable 201 = .ok (.iconst 4, 1) := by decide +kernel
theorem d_Mo_layTable_202 : decode cd_Mo_layTable 202 = .ok (.irem, 1) := by decide +kernel
theorem d_Mo_layTable_203 : decode cd_Mo_layTable 203 = .ok (.iconst 1, 1) := by decide +kernel
theorem d_Mo_layTable_204 : decode cd_Mo_layTable 204 = .ok (.iadd, 1) := by decide +kernel
theorem d_Mo_layTable_205 : decode cd_Mo_layTable 205 = .ok (.goto 4, 3) := by decide +kernel
theorem d_Mo_layTable_208 : decode cd_Mo_layTable 208 = .ok (.iconst 4, 1) := by decide +kernel
theorem d_Mo_layTable_209 : decode cd_Mo_layTable 209 = .ok (.iastore, 1) := by decide +kernel
theorem d_Mo_layTable_210 : decode cd_Mo_layTable 210 = .ok (.aload_n 0, 1) := by decide +kernel
theorem d_Mo_layTable_211 : decode cd_Mo_layTable 211 = .ok (.getfield 139, 3) := by decide +kernel
theorem d_Mo_layTable_214 : decode cd_Mo_layTable 214 = .ok (.sipush 768, 3) := by decide +kernel
theorem d_Mo_layTable_217 : decode cd_Mo_layTable 217 = .ok (.iload_n 1, 1) := by decide +kernel
theorem d_Mo_layTable_218 : decode cd_Mo_layTable 218 = .ok (.iadd, 1) := by decide +kernel
theorem d_Mo_layTable_219 : decode cd_Mo_layTable 219 = .ok (.iload_n 1, 1) := by decide +kernel
theorem d_Mo_layTable_220 : decode cd_Mo_layTable 220 = .ok (.sipush 163, 3) := by decide +kernel
theorem d_Mo_layTable_223 : decode cd_Mo_layTable 223 = .ok (.if_icmp .ge 7, 3) := by decide +kernel
theorem d_Mo_layTable_226 : decode cd_Mo_layTable 226 = .ok (.iconst 0, 1) := by decide +kernel
theorem d_Mo_layTable_227 : decode cd_Mo_layTable 227 = .ok (.goto 30, 3) := by decide +kernel
theorem d_Mo_layTable_230 : decode cd_Mo_layTable 230 = .ok (.iload_n 1, 1) := by decide +kernel
theorem d_Mo_layTable_231 : decode cd_Mo_layTable 231 = .ok (.sipush 235, 3) := by decide +kernel
theorem d_Mo_layTable_234 : decode cd_Mo_layTable 234 = .ok (.if_icmp .ge 11, 3) := by decide +kernel
theorem d_Mo_layTable_237 : decode cd_Mo_layTable 237 = .ok (.iload_n 2, 1) := by decide +kernel
theorem d_Mo_layTable_238 : decode cd_Mo_layTable 238 = .ok (.iconst 3, 1) := by decide +kernel
theorem d_Mo_layTable_239 : decode cd_Mo_layTable 239 = .ok (.irem, 1) := by decide +kernel
theorem d_Mo_layTable_240 : decode cd_Mo_layTable 240 = .ok (.iconst 4, 1) := by decide +kernel
theorem d_Mo_layTable_241 : decode cd_Mo_layTable 241 = .ok (.iadd, 1) := by decide +kernel
theorem d_Mo_layTable_242 : decode cd_Mo_layTable 242 = .ok (.goto 15, 3) := by decide +kernel
theorem d_Mo_layTable_245 : decode cd_Mo_layTable 245 = .ok (.iload_n 1, 1) := by decide +kernel
theorem d_Mo_layTable_246 : decode cd_Mo_layTable 246 = .ok (.sipush 247, 3) := by decide +kernel
theorem d_Mo_layTable_249 : decode cd_Mo_layTable 249 = .ok (.if_icmp .ge 7, 3) := by decide +kernel
theorem d_Mo_layTable_252 : decode cd_Mo_layTable 252 = .ok (.iconst 4, 1) := by decide +kernel
theorem d_Mo_layTable_253 : decode cd_Mo_layTable 253 = .ok (.goto 4, 3) := by decide +kernel
theorem d_Mo_layTable_256 : decode cd_Mo_layTable 256 = .ok (.iconst 1, 1) := by decide +kernel
theorem d_Mo_layTable_257 : decode cd_Mo_layTable 257 = .ok (.iastore, 1) := by decide +kernel
theorem d_Mo_layTable_258 : decode cd_Mo_layTable 258 = .ok (.aload_n 0, 1) := by decide +kernel
theorem d_Mo_layTable_259 : decode cd_Mo_layTable 259 = .ok (.getfield 139, 3) := by decide +kernel
theorem d_Mo_layTable_262 : decode cd_Mo_layTable 262 = .ok (.sipush 1024, 3) := by decide +kernel
theorem d_Mo_layTable_265 : decode cd_Mo_layTable 265 = .ok (.iload_n 1, 1) := by decide +kernel
theorem d_Mo_layTable_266 : decode cd_Mo_layTable 266 = .ok (.iadd, 1) := by decide +kernel
theorem d_Mo_layTable_267 : decode cd_Mo_layTable 267 = .ok (.iload_n 1, 1) := by decide +kernel
theorem d_Mo_layTable_268 : decode cd_Mo_layTable 268 = .ok (.bipush 19, 2) := by decide +kernel
theorem d_Mo_layTable_270 : decode cd_Mo_layTable 270 = .ok (.if_icmp .ge 7, 3) := by decide +kernel
theorem d_Mo_layTable_273 : decode cd_Mo_layTable 273 = .ok (.iconst 0, 1) := by decide +kernel
theorem d_Mo_layTable_274 : decode cd_Mo_layTable 274 = .ok (.goto 36, 3) := by decide +kernel
theorem d_Mo_layTable_277 : decode cd_Mo_layTable 277 = .ok (.iload_n 1, 1) := by decide +kernel
theorem d_Mo_layTable_278 : decode cd_Mo_layTable 278 = .ok (.sipush 163, 3) := by decide +kernel
theorem d_Mo_layTable_281 : decode cd_Mo_layTable 281 = .ok (.if_icmp .ge 13, 3) := by decide +kernel
theorem d_Mo_layTable_284 : decode cd_Mo_layTable 284 = .ok (.iload_n 1, 1) := by decide +kernel
theorem d_Mo_layTable_285 : decode cd_Mo_layTable 285 = .ok (.bipush 19, 2) := by decide +kernel
theorem d_Mo_layTable_287 : decode cd_Mo_layTable 287 = .ok (.isub, 1) := by decide +kernel
theorem d_Mo_layTable_288 : decode cd_Mo_layTable 288 = .ok (.bipush 16, 2) := by decide +kernel
theorem d_Mo_layTable_290 : decode cd_Mo_layTable 290 = .ok (.idiv, 1) := by decide +kernel
theorem d_Mo_layTable_291 : decode cd_Mo_layTable 291 = .ok (.goto 19, 3) := by decide +kernel
theorem d_Mo_layTable_294 : decode cd_Mo_layTable 294 = .ok (.iload_n 1, 1) := by decide +kernel
theorem d_Mo_layTable_295 : decode cd_Mo_layTable 295 = .ok (.sipush 247, 3) := by decide +kernel
theorem d_Mo_layTable_298 : decode cd_Mo_layTable 298 = .ok (.if_icmp .ge 7, 3) := by decide +kernel
theorem d_Mo_layTable_301 : decode cd_Mo_layTable 301 = .ok (.iconst 0, 1) := by decide +kernel
theorem d_Mo_layTable_302 : decode cd_Mo_layTable 302 = .ok (.goto 8, 3) := by decide +kernel
theorem d_Mo_layTable_305 : decode cd_Mo_layTable 305 = .ok (.iload_n 1, 1) := by decide +kernel
theorem d_Mo_layTable_306 : decode cd_Mo_layTable 306 = .ok (.sipush 247, 3) := by decide +kernel
theorem d_Mo_layTable_309 : decode cd_Mo_layTable 309 = .ok (.isub, 1) := by decide +kernel
theorem d_Mo_layTable_310 : decode cd_Mo_layTable 310 = .ok (.iastore, 1) := by decide +kernel
theorem d_Mo_layTable_311 : decode cd_Mo_layTable 311 = .ok (.aload_n 0, 1) := by decide +kernel
theorem d_Mo_layTable_312 : decode cd_Mo_layTable 312 = .ok (.getfield 139, 3) := by decide +kernel
theorem d_Mo_layTable_315 : decode cd_Mo_layTable 315 = .ok (.sipush 1280, 3) := by decide +kernel
theorem d_Mo_layTable_318 : decode cd_Mo_layTable 318 = .ok (.iload_n 1, 1) := by decide +kernel
theorem d_Mo_layTable_319 : decode cd_Mo_layTable 319 = .ok (.iadd, 1) := by decide +kernel
theorem d_Mo_layTable_320 : decode cd_Mo_layTable 320 = .ok (.iload_n 1, 1) := by decide +kernel
theorem d_Mo_layTable_321 : decode cd_Mo_layTable 321 = .ok (.sipush 163, 3) := by decide +kernel
theorem d_Mo_layTable_324 : decode cd_Mo_layTable 324 = .ok (.if_icmp .lt 10, 3) := by decide +kernel
theorem d_Mo_layTable_327 : decode cd_Mo_layTable 327 = .ok (.iload_n 1, 1) := by decide +kernel
theorem d_Mo_layTable_328 : decode cd_Mo_layTable 328 = .ok (.sipush 246, 3) := by decide +kernel
theorem d_Mo_layTable_331 : decode cd_Mo_layTable 331 = .ok (.if_icmp .le 7, 3) := by decide +kernel
theorem d_Mo_layTable_334 : decode cd_Mo_layTable 334 = .ok (.iconst 0, 1) := by decide +kernel
theorem d_Mo_layTable_335 : decode cd_Mo_layTable 335 = .ok (.goto 31, 3) := by decide +kernel
theorem d_Mo_layTable_338 : decode cd_Mo_layTable 338 = .ok (.iload_n 1, 1) := by decide +kernel
theorem d_Mo_layTable_339 : decode cd_Mo_layTable 339 = .ok (.sipush 235, 3) := by decide +kernel
theorem d_Mo_layTable_342 : decode cd_Mo_layTable 342 = .ok (.if_icmp .ge 14, 3) := by decide +kernel
theorem d_Mo_layTable_345 : decode cd_Mo_layTable 345 = .ok (.iload_n 1, 1) := by decide +kernel
theorem d_Mo_layTable_346 : decode cd_Mo_layTable 346 = .ok (.sipush 163, 3) := by decide +kernel
theorem d_Mo_layTable_349 : decode cd_Mo_layTable 349 = .ok (.isub, 1) := by decide +kernel
theorem d_Mo_layTable_350 : decode cd_Mo_layTable 350 = .ok (.bipush 12, 2) := by decide +kernel
theorem d_Mo_layTable_352 : decode cd_Mo_layTable 352 = .ok (.idiv, 1) := by decide +kernel
theorem d_Mo_layTable_353 : decode cd_Mo_layTable 353 = .ok (.goto 13, 3) := by decide +kernel
theorem d_Mo_layTable_356 : decode cd_Mo_layTable 356 = .ok (.bipush 6, 2) := by decide +kernel
theorem d_Mo_layTable_358 : decode cd_Mo_layTable 358 = .ok (.iload_n 1, 1) := by decide +kernel
theorem d_Mo_layTable_359 : decode cd_Mo_layTable 359 = .ok (.sipush 235, 3) := by decide +kernel
theorem d_Mo_layTable_362 : decode cd_Mo_layTable 362 = .ok (.isub, 1) := by decide +kernel
theorem d_Mo_layTable_363 : decode cd_Mo_layTable 363 = .ok (.iconst 4, 1) := by decide +kernel
theorem d_Mo_layTable_364 : decode cd_Mo_layTable 364 = .ok (.idiv, 1) := by decide +kernel
theorem d_Mo_layTable_365 : decode cd_Mo_layTable 365 = .ok (.iadd, 1) := by decide +kernel
theorem d_Mo_layTable_366 : decode cd_Mo_layTable 366 = .ok (.iastore, 1) := by decide +kernel
theorem d_Mo_layTable_367 : decode cd_Mo_layTable 367 = .ok (.iinc 1 1, 3) := by decide +kernel
theorem d_Mo_layTable_370 : decode cd_Mo_layTable 370 = .ok (.goto (-346), 3) := by decide +kernel
theorem d_Mo_layTable_373 : decode cd_Mo_layTable 373 = .ok (.aload_n 0, 1) := by decide +kernel
theorem d_Mo_layTable_374 : decode cd_Mo_layTable 374 = .ok (.sipush 1536, 3) := by decide +kernel
theorem d_Mo_layTable_377 : decode cd_Mo_layTable 377 = .ok (.putfield 364, 3) := by decide +kernel
theorem d_Mo_layTable_380 : decode cd_Mo_layTable 380 = .ok (.return_, 1) := by decide +kernel
theorem d_Mo_useTable_0 : decode cd_Mo_useTable 0 = .ok (.iconst 0, 1) := by decide +kernel
theorem d_Mo_useTable_1 : decode cd_Mo_useTable 1 = .ok (.istore_n 2, 1) := by decide +kernel
theorem d_Mo_useTable_2 : decode cd_Mo_useTable 2 = .ok (.iload_n 2, 1) := by decide +kernel
theorem d_Mo_useTable_3 : decode cd_Mo_useTable 3 = .ok (.sipush 1536, 3) := by decide +kernel
theorem d_Mo_useTable_6 : decode cd_Mo_useTable 6 = .ok (.if_icmp .ge 34, 3) := by decide +kernel
theorem d_Mo_useTable_9 : decode cd_Mo_useTable 9 = .ok (.aload_n 0, 1) := by decide +kernel
theorem d_Mo_useTable_10 : decode cd_Mo_useTable 10 = .ok (.getfield 136, 3) := by decide +kernel
theorem d_Mo_useTable_13 : decode cd_Mo_useTable 13 = .ok (.iload_n 2, 1) := by decide +kernel
theorem d_Mo_useTable_14 : decode cd_Mo_useTable 14 = .ok (.iload_n 1, 1) := by decide +kernel
theorem d_Mo_useTable_15 : decode cd_Mo_useTable 15 = .ok (.ifCond .eq 12, 3) := by decide +kernel
theorem d_Mo_useTable_18 : decode cd_Mo_useTable 18 = .ok (.aload_n 0, 1) := by decide +kernel
theorem d_Mo_useTable_19 : decode cd_Mo_useTable 19 = .ok (.getfield 142, 3) := by decide +kernel
theorem d_Mo_useTable_22 : decode cd_Mo_useTable 22 = .ok (.iload_n 2, 1) := by decide +kernel
theorem d_Mo_useTable_23 : decode cd_Mo_useTable 23 = .ok (.iaload, 1) := by decide +kernel
theorem d_Mo_useTable_24 : decode cd_Mo_useTable 24 = .ok (.goto 9, 3) := by decide +kernel
theorem d_Mo_useTable_27 : decode cd_Mo_useTable 27 = .ok (.aload_n 0, 1) := by decide +kernel
theorem d_Mo_useTable_28 : decode cd_Mo_useTable 28 = .ok (.getfield 139, 3) := by decide +kernel
theorem d_Mo_useTable_31 : decode cd_Mo_useTable 31 = .ok (.iload_n 2, 1) := by decide +kernel
theorem d_Mo_useTable_32 : decode cd_Mo_useTable 32 = .ok (.iaload, 1) := by decide +kernel
theorem d_Mo_useTable_33 : decode cd_Mo_useTable 33 = .ok (.iastore, 1) := by decide +kernel
theorem d_Mo_useTable_34 : decode cd_Mo_useTable 34 = .ok (.iinc 2 1, 3) := by decide +kernel
theorem d_Mo_useTable_37 : decode cd_Mo_useTable 37 = .ok (.goto (-35), 3) := by decide +kernel
theorem d_Mo_useTable_40 : decode cd_Mo_useTable 40 = .ok (.return_, 1) := by decide +kernel
theorem d_Mo_readHead_0 : decode cd_Mo_readHead 0 = .ok (.iconst 0, 1) := by decide +kernel
theorem d_Mo_readHead_1 : decode cd_Mo_readHead 1 = .ok (.istore_n 1, 1) := by decide +kernel
theorem d_Mo_readHead_2 : decode cd_Mo_readHead 2 = .ok (.iload_n 1, 1) := by decide +kernel
theorem d_Mo_readHead_3 : decode cd_Mo_readHead 3 = .ok (.iconst 4, 1) := by decide +kernel
theorem d_Mo_readHead_4 : decode cd_Mo_readHead 4 = .ok (.if_icmp .ge 57, 3) := by decide +kernel
theorem d_Mo_readHead_7 : decode cd_Mo_readHead 7 = .ok (.aload_n 0, 1) := by decide +kernel
theorem d_Mo_readHead_8 : decode cd_Mo_readHead 8 = .ok (.invokevirtual 357, 3) := by decide +kernel
theorem d_Mo_readHead_11 : decode cd_Mo_readHead 11 = .ok (.istore_n 2, 1) := by decide +kernel
theorem d_Mo_readHead_12 : decode cd_Mo_readHead 12 = .ok (.iload_n 2, 1) := by decide +kernel
theorem d_Mo_readHead_13 : decode cd_Mo_readHead 13 = .ok (.iload_n 1, 1) := by decide +kernel
theorem d_Mo_readHead_14 : decode cd_Mo_readHead 14 = .ok (.ifCond .ne 9, 3) := by decide +kernel
theorem d_Mo_readHead_17 : decode cd_Mo_readHead 17 = .ok (.sipush 214, 3) := by decide +kernel
theorem d_Mo_readHead_20 : decode cd_Mo_readHead 20 = .ok (.goto 26, 3) := by decide +kernel
theorem d_Mo_readHead_23 : decode cd_Mo_readHead 23 = .ok (.iload_n 1, 1) := by decide +kernel
theorem d_Mo_readHead_24 : decode cd_Mo_readHead 24 = .ok (.iconst 1, 1) := by decide +kernel
theorem d_Mo_readHead_25 : decode cd_Mo_readHead 25 = .ok (.if_icmp .ne 9, 3) := by decide +kernel
theorem d_Mo_readHead_28 : decode cd_Mo_readHead 28 = .ok (.sipush 195, 3) := by decide +kernel
theorem d_Mo_readHead_31 : decode cd_Mo_readHead 31 = .ok (.goto 15, 3) := by decide +kernel
theorem d_Mo_readHead_34 : decode cd_Mo_readHead 34 = .ok (.iload_n 1, 1) := by decide +kernel
theorem d_Mo_readHead_35 : decode cd_Mo_readHead 35 = .ok (.iconst 2, 1) := by decide +kernel
theorem d_Mo_readHead_36 : decode cd_Mo_readHead 36 = .ok (.if_icmp .ne 9, 3) := by decide +kernel
theorem d_Mo_readHead_39 : decode cd_Mo_readHead 39 = .ok (.sipush 196, 3) := by decide +kernel
theorem d_Mo_readHead_42 : decode cd_Mo_readHead 42 = .ok (.goto 4, 3) := by decide +kernel
theorem d_Mo_readHead_45 : decode cd_Mo_readHead 45 = .ok (.iconst 0, 1) := by decide +kernel
theorem d_Mo_readHead_46 : decode cd_Mo_readHead 46 = .ok (.if_icmp .eq 9, 3) := by decide +kernel
theorem d_Mo_readHead_49 : decode cd_Mo_readHead 49 = .ok (.aload_n 0, 1) := by decide +kernel
theorem d_Mo_readHead_50 : decode cd_Mo_readHead 50 = .ok (.bipush (-2), 2) := by decide +kernel
theorem d_Mo_readHead_52 : decode cd_Mo_readHead 52 = .ok (.invokevirtual 354, 3) := by decide +kernel
theorem d_Mo_readHead_55 : decode cd_Mo_readHead 55 = .ok (.iinc 1 1, 3) := by decide +kernel
theorem d_Mo_readHead_58 : decode cd_Mo_readHead 58 = .ok (.goto (-56), 3) := by decide +kernel
theorem d_Mo_readHead_61 : decode cd_Mo_readHead 61 = .ok (.return_, 1) := by decide +kernel
theorem d_Mo_modes_0 : decode cd_Mo_modes 0 = .ok (.iconst 2, 1) := by decide +kernel
theorem d_Mo_modes_1 : decode cd_Mo_modes 1 = .ok (.aload_n 0, 1) := by decide +kernel
theorem d_Mo_modes_2 : decode cd_Mo_modes 2 = .ok (.getfield 278, 3) := by decide +kernel
theorem d_Mo_modes_5 : decode cd_Mo_modes 5 = .ok (.iadd, 1) := by decide +kernel
theorem d_Mo_modes_6 : decode cd_Mo_modes 6 = .ok (.aload_n 0, 1) := by decide +kernel
theorem d_Mo_modes_7 : decode cd_Mo_modes 7 = .ok (.getfield 281, 3) := by decide +kernel
theorem d_Mo_modes_10 : decode cd_Mo_modes 10 = .ok (.iadd, 1) := by decide +kernel
theorem d_Mo_modes_11 : decode cd_Mo_modes 11 = .ok (.ireturn, 1) := by decide +kernel
theorem d_Mo_readAddress_0 : decode cd_Mo_readAddress 0 = .ok (.iload_n 1, 1) := by decide +kernel
theorem d_Mo_readAddress_1 : decode cd_Mo_readAddress 1 = .ok (.aload_n 0, 1) := by decide +kernel
theorem d_Mo_readAddress_2 : decode cd_Mo_readAddress 2 = .ok (.invokevirtual 367, 3) := by decide +kernel
theorem d_Mo_readAddress_5 : decode cd_Mo_readAddress 5 = .ok (.if_icmp .lt 11, 3) := by decide +kernel
theorem d_Mo_readAddress_8 : decode cd_Mo_readAddress 8 = .ok (.aload_n 0, 1) := by decide +kernel
theorem d_Mo_readAddress_9 : decode cd_Mo_readAddress 9 = .ok (.bipush (-2), 2) := by decide +kernel
theorem d_Mo_readAddress_11 : decode cd_Mo_readAddress 11 = .ok (.invokevirtual 354, 3) := by decide +kernel
theorem d_Mo_readAddress_14 : decode cd_Mo_readAddress 14 = .ok (.iconst 0, 1) := by decide +kernel
theorem d_Mo_readAddress_15 : decode cd_Mo_readAddress 15 = .ok (.ireturn, 1) := by decide +kernel
theorem d_Mo_readAddress_16 : decode cd_Mo_readAddress 16 = .ok (.iload_n 1, 1) := by decide +kernel
theorem d_Mo_readAddress_17 : decode cd_Mo_readAddress 17 = .ok (.iconst 2, 1) := by decide +kernel
theorem d_Mo_readAddress_18 : decode cd_Mo_readAddress 18 = .ok (.aload_n 0, 1) := by decide +kernel
theorem d_Mo_readAddress_19 : decode cd_Mo_readAddress 19 = .ok (.getfield 278, 3) := by decide +kernel
theorem d_Mo_readAddress_22 : decode cd_Mo_readAddress 22 = .ok (.iadd, 1) := by decide +kernel
theorem d_Mo_readAddress_23 : decode cd_Mo_readAddress 23 = .ok (.if_icmp .lt 27, 3) := by decide +kernel
theorem d_Mo_readAddress_26 : decode cd_Mo_readAddress 26 = .ok (.aload_n 0, 1) := by decide +kernel
theorem d_Mo_readAddress_27 : decode cd_Mo_readAddress 27 = .ok (.getfield 133, 3) := by decide +kernel
theorem d_Mo_readAddress_30 : decode cd_Mo_readAddress 30 = .ok (.sipush 256, 3) := by decide +kernel
theorem d_Mo_readAddress_33 : decode cd_Mo_readAddress 33 = .ok (.iload_n 1, 1) := by decide +kernel
theorem d_Mo_readAddress_34 : decode cd_Mo_readAddress 34 = .ok (.iconst 2, 1) := by decide +kernel
theorem d_Mo_readAddress_35 : decode cd_Mo_readAddress 35 = .ok (.isub, 1) := by decide +kernel
theorem d_Mo_readAddress_36 : decode cd_Mo_readAddress 36 = .ok (.aload_n 0, 1) := by decide +kernel
theorem d_Mo_readAddress_37 : decode cd_Mo_readAddress 37 = .ok (.getfield 278, 3) := by decide +kernel
theorem d_Mo_readAddress_40 : decode cd_Mo_readAddress 40 = .ok (.isub, 1) := by decide +kernel
theorem d_Mo_readAddress_41 : decode cd_Mo_readAddress 41 = .ok (.imul, 1) := by decide +kernel
theorem d_Mo_readAddress_42 : decode cd_Mo_readAddress 42 = .ok (.aload_n 0, 1) := by decide +kernel
theorem d_Mo_readAddress_43 : decode cd_Mo_readAddress 43 = .ok (.iconst 2, 1) := by decide +kernel
theorem d_Mo_readAddress_44 : decode cd_Mo_readAddress 44 = .ok (.invokevirtual 361, 3) := by decide +kernel
theorem d_Mo_readAddress_47 : decode cd_Mo_readAddress 47 = .ok (.iadd, 1) := by decide +kernel
theorem d_Mo_readAddress_48 : decode cd_Mo_readAddress 48 = .ok (.iaload, 1) := by decide +kernel
theorem d_Mo_readAddress_49 : decode cd_Mo_readAddress 49 = .ok (.ireturn, 1) := by decide +kernel
theorem d_Mo_readAddress_50 : decode cd_Mo_readAddress 50 = .ok (.aload_n 0, 1) := by decide +kernel
theorem d_Mo_readAddress_51 : decode cd_Mo_readAddress 51 = .ok (.iconst 2, 1) := by decide +kernel
theorem d_Mo_readAddress_52 : decode cd_Mo_readAddress 52 = .ok (.invokevirtual 370, 3) := by decide +kernel
theorem d_Mo_readAddress_55 : decode cd_Mo_readAddress 55 = .ok (.istore_n 3, 1) := by decide +kernel
theorem d_Mo_readAddress_56 : decode cd_Mo_readAddress 56 = .ok (.iload_n 1, 1) := by decide +kernel
theorem d_Mo_readAddress_57 : decode cd_Mo_readAddress 57 = .ok (.ifCond .ne 7, 3) := by decide +kernel
theorem d_Mo_readAddress_60 : decode cd_Mo_readAddress 60 = .ok (.iload_n 3, 1) := by decide +kernel
theorem d_Mo_readAddress_61 : decode cd_Mo_readAddress 61 = .ok (.goto 24, 3) := by decide +kernel
theorem d_Mo_readAddress_64 : decode cd_Mo_readAddress 64 = .ok (.iload_n 1, 1) := by decide +kernel
theorem d_Mo_readAddress_65 : decode cd_Mo_readAddress 65 = .ok (.iconst 1, 1) := by decide +kernel
theorem d_Mo_readAddress_66 : decode cd_Mo_readAddress 66 = .ok (.if_icmp .ne 9, 3) := by decide +kernel
theorem d_Mo_readAddress_69 : decode cd_Mo_readAddress 69 = .ok (.iload_n 2, 1) := by decide +kernel
theorem d_Mo_readAddress_70 : decode cd_Mo_readAddress 70 = .ok (.iload_n 3, 1) := by decide +kernel
theorem d_Mo_readAddress_71 : decode cd_Mo_readAddress 71 = .ok (.isub, 1) := by decide +kernel
theorem d_Mo_readAddress_72 : decode cd_Mo_readAddress 72 = .ok (.goto 13, 3) := by decide +kernel
theorem d_Mo_readAddress_75 : decode cd_Mo_readAddress 75 = .ok (.aload_n 0, 1) := by decide +kernel
theorem d_Mo_readAddress_76 : decode cd_Mo_readAddress 76 = .ok (.getfield 130, 3) := by decide +kernel
theorem d_Mo_readAddress_79 : decode cd_Mo_readAddress 79 = .ok (.iload_n 1, 1) := by decide +kernel
theorem d_Mo_readAddress_80 : decode cd_Mo_readAddress 80 = .ok (.iconst 2, 1) := by decide +kernel
theorem d_Mo_readAddress_81 : decode cd_Mo_readAddress 81 = .ok (.isub, 1) := by decide +kernel
theorem d_Mo_readAddress_82 : decode cd_Mo_readAddress 82 = .ok (.iaload, 1) := by decide +kernel
theorem d_Mo_readAddress_83 : decode cd_Mo_readAddress 83 = .ok (.iload_n 3, 1) := by decide +kernel
theorem d_Mo_readAddress_84 : decode cd_Mo_readAddress 84 = .ok (.iadd, 1) := by decide +kernel
theorem d_Mo_readAddress_85 : decode cd_Mo_readAddress 85 = .ok (.ireturn, 1) := by decide +kernel
theorem d_Mo_sourceByte_0 : decode cd_Mo_sourceByte 0 = .ok (.iload_n 1, 1) := by decide +kernel
theorem d_Mo_sourceByte_1 : decode cd_Mo_sourceByte 1 = .ok (.aload_n 0, 1) := by decide +kernel
theorem d_Mo_sourceByte_2 : decode cd_Mo_sourceByte 2 = .ok (.getfield 373, 3) := by decide +kernel
theorem d_Mo_sourceByte_5 : decode cd_Mo_sourceByte 5 = .ok (.if_icmp .lt 20, 3) := by decide +kernel
theorem d_Mo_sourceByte_8 : decode cd_Mo_sourceByte 8 = .ok (.aload_n 0, 1) := by decide +kernel
theorem d_Mo_sourceByte_9 : decode cd_Mo_sourceByte 9 = .ok (.getfield 142, 3) := by decide +kernel
theorem d_Mo_sourceByte_12 : decode cd_Mo_sourceByte 12 = .ok (.aload_n 0, 1) := by decide +kernel
theorem d_Mo_sourceByte_13 : decode cd_Mo_sourceByte 13 = .ok (.getfield 376, 3) := by decide +kernel
theorem d_Mo_sourceByte_16 : decode cd_Mo_sourceByte 16 = .ok (.iload_n 1, 1) := by decide +kernel
theorem d_Mo_sourceByte_17 : decode cd_Mo_sourceByte 17 = .ok (.iadd, 1) := by decide +kernel
theorem d_Mo_sourceByte_18 : decode cd_Mo_sourceByte 18 = .ok (.aload_n 0, 1) := by decide +kernel
theorem d_Mo_sourceByte_19 : decode cd_Mo_sourceByte 19 = .ok (.getfield 373, 3) := by decide +kernel
theorem d_Mo_sourceByte_22 : decode cd_Mo_sourceByte 22 = .ok (.isub, 1) := by decide +kernel
theorem d_Mo_sourceByte_23 : decode cd_Mo_sourceByte 23 = .ok (.iaload, 1) := by decide +kernel
theorem d_Mo_sourceByte_24 : decode cd_Mo_sourceByte 24 = .ok (.ireturn, 1) := by decide +kernel
theorem d_Mo_sourceByte_25 : decode cd_Mo_sourceByte 25 = .ok (.aload_n 0, 1) := by decide +kernel
theorem d_Mo_sourceByte_26 : decode cd_Mo_sourceByte 26 = .ok (.getfield 379, 3) := by decide +kernel
theorem d_Mo_sourceByte_29 : decode cd_Mo_sourceByte 29 = .ok (.ifCond .eq 17, 3) := by decide +kernel
theorem d_Mo_sourceByte_32 : decode cd_Mo_sourceByte 32 = .ok (.aload_n 0, 1) := by decide +kernel
theorem d_Mo_sourceByte_33 : decode cd_Mo_sourceByte 33 = .ok (.getfield 142, 3) := by decide +kernel
theorem d_Mo_sourceByte_36 : decode cd_Mo_sourceByte 36 = .ok (.aload_n 0, 1) := by decide +kernel
theorem d_Mo_sourceByte_37 : decode cd_Mo_sourceByte 37 = .ok (.getfield 383, 3) := by decide +kernel
theorem d_Mo_sourceByte_40 : decode cd_Mo_sourceByte 40 = .ok (.iload_n 1, 1) := by decide +kernel
theorem d_Mo_sourceByte_41 : decode cd_Mo_sourceByte 41 = .ok (.iadd, 1) := by decide +kernel
theorem d_Mo_sourceByte_42 : decode cd_Mo_sourceByte 42 = .ok (.iaload, 1) := by decide +kernel
theorem d_Mo_sourceByte_43 : decode cd_Mo_sourceByte 43 = .ok (.goto 14, 3) := by decide +kernel
theorem d_Mo_sourceByte_46 : decode cd_Mo_sourceByte 46 = .ok (.aload_n 0, 1) := by decide +kernel
theorem d_Mo_sourceByte_47 : decode cd_Mo_sourceByte 47 = .ok (.getfield 139, 3) := by decide +kernel
theorem d_Mo_sourceByte_50 : decode cd_Mo_sourceByte 50 = .ok (.aload_n 0, 1) := by decide +kernel
theorem d_Mo_sourceByte_51 : decode cd_Mo_sourceByte 51 = .ok (.getfield 383, 3) := by decide +kernel
theorem d_Mo_sourceByte_54 : decode cd_Mo_sourceByte 54 = .ok (.iload_n 1, 1) := by decide +kernel
theorem d_Mo_sourceByte_55 : decode cd_Mo_sourceByte 55 = .ok (.iadd, 1) := by decide +kernel
theorem d_Mo_sourceByte_56 : decode cd_Mo_sourceByte 56 = .ok (.iaload, 1) := by decide +kernel
theorem d_Mo_sourceByte_57 : decode cd_Mo_sourceByte 57 = .ok (.ireturn, 1) := by decide +kernel
theorem d_Mo_make_0 : decode cd_Mo_make 0 = .ok (.aload_n 0, 1) := by decide +kernel
theorem d_Mo_make_1 : decode cd_Mo_make 1 = .ok (.getfield 373, 3) := by decide +kernel
theorem d_Mo_make_4 : decode cd_Mo_make 4 = .ok (.aload_n 0, 1) := by decide +kernel
theorem d_Mo_make_5 : decode cd_Mo_make 5 = .ok (.getfield 386, 3) := by decide +kernel
theorem d_Mo_make_8 : decode cd_Mo_make 8 = .ok (.iadd, 1) := by decide +kernel
theorem d_Mo_make_9 : decode cd_Mo_make 9 = .ok (.aload_n 0, 1) := by decide +kernel
theorem d_Mo_make_10 : decode cd_Mo_make 10 = .ok (.getfield 376, 3) := by decide +kernel
theorem d_Mo_make_13 : decode cd_Mo_make 13 = .ok (.isub, 1) := by decide +kernel
theorem d_Mo_make_14 : decode cd_Mo_make 14 = .ok (.istore 4, 2) := by decide +kernel
theorem d_Mo_make_16 : decode cd_Mo_make 16 = .ok (.aload_n 0, 1) := by decide +kernel
theorem d_Mo_make_17 : decode cd_Mo_make 17 = .ok (.getfield 386, 3) := by decide +kernel
theorem d_Mo_make_20 : decode cd_Mo_make 20 = .ok (.iload_n 2, 1) := by decide +kernel
theorem d_Mo_make_21 : decode cd_Mo_make 21 = .ok (.iadd, 1) := by decide +kernel
theorem d_Mo_make_22 : decode cd_Mo_make 22 = .ok (.aload_n 0, 1) := by decide +kernel
theorem d_Mo_make_23 : decode cd_Mo_make 23 = .ok (.getfield 376, 3) := by decide +kernel
theorem d_Mo_make_26 : decode cd_Mo_make 26 = .ok (.aload_n 0, 1) := by decide +kernel
theorem d_Mo_make_27 : decode cd_Mo_make 27 = .ok (.getfield 389, 3) := by decide +kernel
theorem d_Mo_make_30 : decode cd_Mo_make 30 = .ok (.iadd, 1) := by decide +kernel
theorem d_Mo_make_31 : decode cd_Mo_make 31 = .ok (.if_icmp .le 9, 3) := by decide +kernel
theorem d_Mo_make_34 : decode cd_Mo_make 34 = .ok (.aload_n 0, 1) := by decide +kernel
theorem d_Mo_make_35 : decode cd_Mo_make 35 = .ok (.bipush (-2), 2) := by decide +kernel
theorem d_Mo_make_37 : decode cd_Mo_make 37 = .ok (.invokevirtual 354, 3) := by decide +kernel
theorem d_Mo_make_40 : decode cd_Mo_make 40 = .ok (.iload_n 1, 1) := by decide +kernel
theorem d_Mo_make_41 : decode cd_Mo_make 41 = .ok (.iconst 2, 1) := by decide +kernel
theorem d_Mo_make_42 : decode cd_Mo_make 42 = .ok (.if_icmp .ne 11, 3) := by decide +kernel
theorem d_Mo_make_45 : decode cd_Mo_make 45 = .ok (.aload_n 0, 1) := by decide +kernel
theorem d_Mo_make_46 : decode cd_Mo_make 46 = .ok (.iconst 0, 1) := by decide +kernel
theorem d_Mo_make_47 : decode cd_Mo_make 47 = .ok (.invokevirtual 361, 3) := by decide +kernel
theorem d_Mo_make_50 : decode cd_Mo_make 50 = .ok (.goto 4, 3) := by decide +kernel
theorem d_Mo_make_53 : decode cd_Mo_make 53 = .ok (.iconst 0, 1) := by decide +kernel
theorem d_Mo_make_54 : decode cd_Mo_make 54 = .ok (.istore 5, 2) := by decide +kernel
theorem d_Mo_make_56 : decode cd_Mo_make 56 = .ok (.iload_n 1, 1) := by decide +kernel
theorem d_Mo_make_57 : decode cd_Mo_make 57 = .ok (.iconst 3, 1) := by decide +kernel
theorem d_Mo_make_58 : decode cd_Mo_make 58 = .ok (.if_icmp .ne 13, 3) := by decide +kernel
theorem d_Mo_make_61 : decode cd_Mo_make 61 = .ok (.aload_n 0, 1) := by decide +kernel
theorem d_Mo_make_62 : decode cd_Mo_make 62 = .ok (.iload_n 3, 1) := by decide +kernel
theorem d_Mo_make_63 : decode cd_Mo_make 63 = .ok (.iload 4, 2) := by decide +kernel
theorem d_Mo_make_65 : decode cd_Mo_make 65 = .ok (.invokevirtual 392, 3) := by decide +kernel
theorem d_Mo_make_68 : decode cd_Mo_make 68 = .ok (.goto 4, 3) := by decide +kernel
theorem d_Mo_make_71 : decode cd_Mo_make 71 = .ok (.iconst 0, 1) := by decide +kernel
theorem d_Mo_make_72 : decode cd_Mo_make 72 = .ok (.istore 6, 2) := by decide +kernel
theorem d_Mo_make_74 : decode cd_Mo_make 74 = .ok (.iload_n 1, 1) := by decide +kernel
theorem d_Mo_make_75 : decode cd_Mo_make 75 = .ok (.iconst 3, 1) := by decide +kernel
theorem d_Mo_make_76 : decode cd_Mo_make 76 = .ok (.if_icmp .ne 21, 3) := by decide +kernel
theorem d_Mo_make_79 : decode cd_Mo_make 79 = .ok (.iload 6, 2) := by decide +kernel
theorem d_Mo_make_81 : decode cd_Mo_make 81 = .ok (.ifCond .lt 10, 3) := by decide +kernel
theorem d_Mo_make_84 : decode cd_Mo_make 84 = .ok (.iload 6, 2) := by decide +kernel
theorem d_Mo_make_86 : decode cd_Mo_make 86 = .ok (.iload 4, 2) := by decide +kernel
theorem d_Mo_make_88 : decode cd_Mo_make 88 = .ok (.if_icmp .lt 9, 3) := by decide +kernel
theorem d_Mo_make_91 : decode cd_Mo_make 91 = .ok (.aload_n 0, 1) := by decide +kernel
theorem d_Mo_make_92 : decode cd_Mo_make 92 = .ok (.bipush (-2), 2) := by decide +kernel
theorem d_Mo_make_94 : decode cd_Mo_make 94 = .ok (.invokevirtual 354, 3) := by decide +kernel
theorem d_Mo_make_97 : decode cd_Mo_make 97 = .ok (.iload_n 1, 1) := by decide +kernel
theorem d_Mo_make_98 : decode cd_Mo_make 98 = .ok (.iconst 3, 1) := by decide +kernel
theorem d_Mo_make_99 : decode cd_Mo_make 99 = .ok (.if_icmp .ne 16, 3) := by decide +kernel
theorem d_Mo_make_102 : decode cd_Mo_make 102 = .ok (.aload_n 0, 1) := by decide +kernel
theorem d_Mo_make_103 : decode cd_Mo_make 103 = .ok (.getfield 345, 3) := by decide +kernel
theorem d_Mo_make_106 : decode cd_Mo_make 106 = .ok (.ifCond .ne 9, 3) := by decide +kernel
theorem d_Mo_make_109 : decode cd_Mo_make 109 = .ok (.aload_n 0, 1) := by decide +kernel
theorem d_Mo_make_110 : decode cd_Mo_make 110 = .ok (.iload 6, 2) := by decide +kernel
theorem d_Mo_make_112 : decode cd_Mo_make 112 = .ok (.invokevirtual 307, 3) := by decide +kernel
theorem d_Mo_make_115 : decode cd_Mo_make 115 = .ok (.iconst 0, 1) := by decide +kernel
theorem d_Mo_make_116 : decode cd_Mo_make 116 = .ok (.istore 7, 2) := by decide +kernel
theorem d_Mo_make_118 : decode cd_Mo_make 118 = .ok (.iload 7, 2) := by decide +kernel
theorem d_Mo_make_120 : decode cd_Mo_make 120 = .ok (.iload_n 2, 1) := by decide +kernel
theorem d_Mo_make_121 : decode cd_Mo_make 121 = .ok (.if_icmp .ge 67, 3) := by decide +kernel
theorem d_Mo_make_124 : decode cd_Mo_make 124 = .ok (.aload_n 0, 1) := by decide +kernel
theorem d_Mo_make_125 : decode cd_Mo_make 125 = .ok (.getfield 345, 3) := by decide +kernel
theorem d_Mo_make_128 : decode cd_Mo_make 128 = .ok (.ifCond .ne 60, 3) := by decide +kernel
theorem d_Mo_make_131 : decode cd_Mo_make 131 = .ok (.aload_n 0, 1) := by decide +kernel
theorem d_Mo_make_132 : decode cd_Mo_make 132 = .ok (.getfield 142, 3) := by decide +kernel
theorem d_Mo_make_135 : decode cd_Mo_make 135 = .ok (.aload_n 0, 1) := by decide +kernel
theorem d_Mo_make_136 : decode cd_Mo_make 136 = .ok (.getfield 386, 3) := by decide +kernel
theorem d_Mo_make_139 : decode cd_Mo_make 139 = .ok (.iload_n 1, 1) := by decide +kernel
theorem d_Mo_make_140 : decode cd_Mo_make 140 = .ok (.iconst 1, 1) := by decide +kernel
theorem d_Mo_make_141 : decode cd_Mo_make 141 = .ok (.if_icmp .ne 11, 3) := by decide +kernel
theorem d_Mo_make_144 : decode cd_Mo_make 144 = .ok (.aload_n 0, 1) := by decide +kernel
theorem d_Mo_make_145 : decode cd_Mo_make 145 = .ok (.iconst 0, 1) := by decide +kernel
theorem d_Mo_make_146 : decode cd_Mo_make 146 = .ok (.invokevirtual 361, 3) := by decide +kernel
theorem d_Mo_make_149 : decode cd_Mo_make 149 = .ok (.goto 22, 3) := by decide +kernel
theorem d_Mo_make_152 : decode cd_Mo_make 152 = .ok (.iload_n 1, 1) := by decide +kernel
theorem d_Mo_make_153 : decode cd_Mo_make 153 = .ok (.iconst 2, 1) := by decide +kernel
theorem d_Mo_make_154 : decode cd_Mo_make 154 = .ok (.if_icmp .ne 8, 3) := by decide +kernel
theorem d_Mo_make_157 : decode cd_Mo_make 157 = .ok (.iload 5, 2) := by decide +kernel
theorem d_Mo_make_159 : decode cd_Mo_make 159 = .ok (.goto 12, 3) := by decide +kernel
theorem d_Mo_make_162 : decode cd_Mo_make 162 = .ok (.aload_n 0, 1) := by decide +kernel
theorem d_Mo_make_163 : decode cd_Mo_make 163 = .ok (.iload 6, 2) := by decide +kernel
theorem d_Mo_make_165 : decode cd_Mo_make 165 = .ok (.iload 7, 2) := by decide +kernel
theorem d_Mo_make_167 : decode cd_Mo_make 167 = .ok (.iadd, 1) := by decide +kernel
theorem d_Mo_make_168 : decode cd_Mo_make 168 = .ok (.invokevirtual 395, 3) := by decide +kernel
theorem d_Mo_make_171 : decode cd_Mo_make 171 = .ok (.iastore, 1) := by decide +kernel
theorem d_Mo_make_172 : decode cd_Mo_make 172 = .ok (.aload_n 0, 1) := by decide +kernel
theorem d_Mo_make_173 : decode cd_Mo_make 173 = .ok (.dup, 1) := by decide +kernel
theorem d_Mo_make_174 : decode cd_Mo_make 174 = .ok (.getfield 386, 3) := by decide +kernel
theorem d_Mo_make_177 : decode cd_Mo_make 177 = .ok (.iconst 1, 1) := by decide +kernel
theorem d_Mo_make_178 : decode cd_Mo_make 178 = .ok (.iadd, 1) := by decide +kernel
theorem d_Mo_make_179 : decode cd_Mo_make 179 = .ok (.putfield 386, 3) := by decide +kernel
theorem d_Mo_make_182 : decode cd_Mo_make 182 = .ok (.iinc 7 1, 3) := by decide +kernel
theorem d_Mo_make_185 : decode cd_Mo_make 185 = .ok (.goto (-67), 3) := by decide +kernel
theorem d_Mo_make_188 : decode cd_Mo_make 188 = .ok (.return_, 1) := by decide +kernel
theorem d_Mo_makeWindow_0 : decode cd_Mo_makeWindow 0 = .ok (.aload_n 0, 1) := by decide +kernel
theorem d_Mo_makeWindow_1 : decode cd_Mo_makeWindow 1 = .ok (.getfield 145, 3) := by decide +kernel
theorem d_Mo_makeWindow_4 : decode cd_Mo_makeWindow 4 = .ok (.iconst 1, 1) := by decide +kernel
theorem d_Mo_makeWindow_5 : decode cd_Mo_makeWindow 5 = .ok (.iaload, 1) := by decide +kernel
theorem d_Mo_makeWindow_6 : decode cd_Mo_makeWindow 6 = .ok (.aload_n 0, 1) := by decide +kernel
theorem d_Mo_makeWindow_7 : decode cd_Mo_makeWindow 7 = .ok (.getfield 148, 3) := by decide +kernel
theorem d_Mo_makeWindow_10 : decode cd_Mo_makeWindow 10 = .ok (.iconst 1, 1) := by decide +kernel
theorem d_Mo_makeWindow_11 : decode cd_Mo_makeWindow 11 = .ok (.iaload, 1) := by decide +kernel
theorem d_Mo_makeWindow_12 : decode cd_Mo_makeWindow 12 = .ok (.if_icmp .ge 114, 3) := by decide +kernel
theorem d_Mo_makeWindow_15 : decode cd_Mo_makeWindow 15 = .ok (.aload_n 0, 1) := by decide +kernel
theorem d_Mo_makeWindow_16 : decode cd_Mo_makeWindow 16 = .ok (.getfield 345, 3) := by decide +kernel
theorem d_Mo_makeWindow_19 : decode cd_Mo_makeWindow 19 = .ok (.ifCond .ne 107, 3) := by decide +kernel
theorem d_Mo_makeWindow_22 : decode cd_Mo_makeWindow 22 = .ok (.aload_n 0, 1) := by decide +kernel
theorem d_Mo_makeWindow_23 : decode cd_Mo_makeWindow 23 = .ok (.iconst 1, 1) := by decide +kernel
theorem d_Mo_makeWindow_24 : decode cd_Mo_makeWindow 24 = .ok (.invokevirtual 361, 3) := by decide +kernel
theorem d_Mo_makeWindow_27 : decode cd_Mo_makeWindow 27 = .ok (.istore_n 1, 1) := by decide +kernel
theorem d_Mo_makeWindow_28 : decode cd_Mo_makeWindow 28 = .ok (.iconst 0, 1) := by decide +kernel
theorem d_Mo_makeWindow_29 : decode cd_Mo_makeWindow 29 = .ok (.istore_n 2, 1) := by decide +kernel
theorem d_Mo_makeWindow_30 : decode cd_Mo_makeWindow 30 = .ok (.iload_n 2, 1) := by decide +kernel
theorem d_Mo_makeWindow_31 : decode cd_Mo_makeWindow 31 = .ok (.sipush 512, 3) := by decide +kernel
theorem d_Mo_makeWindow_34 : decode cd_Mo_makeWindow 34 = .ok (.if_icmp .ge 89, 3) := by decide +kernel
theorem d_Mo_makeWindow_37 : decode cd_Mo_makeWindow 37 = .ok (.aload_n 0, 1) := by decide +kernel
theorem d_Mo_makeWindow_38 : decode cd_Mo_makeWindow 38 = .ok (.getfield 345, 3) := by decide +kernel
theorem d_Mo_makeWindow_41 : decode cd_Mo_makeWindow 41 = .ok (.ifCond .ne 82, 3) := by decide +kernel
theorem d_Mo_makeWindow_44 : decode cd_Mo_makeWindow 44 = .ok (.aload_n 0, 1) := by decide +kernel
theorem d_Mo_makeWindow_45 : decode cd_Mo_makeWindow 45 = .ok (.getfield 136, 3) := by decide +kernel
theorem d_Mo_makeWindow_48 : decode cd_Mo_makeWindow 48 = .ok (.iload_n 2, 1) := by decide +kernel
theorem d_Mo_makeWindow_49 : decode cd_Mo_makeWindow 49 = .ok (.iload_n 1, 1) := by decide +kernel
theorem d_Mo_makeWindow_50 : decode cd_Mo_makeWindow 50 = .ok (.iadd, 1) := by decide +kernel
theorem d_Mo_makeWindow_51 : decode cd_Mo_makeWindow 51 = .ok (.iaload, 1) := by decide +kernel
theorem d_Mo_makeWindow_52 : decode cd_Mo_makeWindow 52 = .ok (.istore_n 3, 1) := by decide +kernel
theorem d_Mo_makeWindow_53 : decode cd_Mo_makeWindow 53 = .ok (.iload_n 3, 1) := by decide +kernel
theorem d_Mo_makeWindow_54 : decode cd_Mo_makeWindow 54 = .ok (.ifCond .le 60, 3) := by decide +kernel
theorem d_Mo_makeWindow_57 : decode cd_Mo_makeWindow 57 = .ok (.aload_n 0, 1) := by decide +kernel
theorem d_Mo_makeWindow_58 : decode cd_Mo_makeWindow 58 = .ok (.getfield 136, 3) := by decide +kernel
theorem d_Mo_makeWindow_61 : decode cd_Mo_makeWindow 61 = .ok (.sipush 512, 3) := by decide +kernel
theorem d_Mo_makeWindow_64 : decode cd_Mo_makeWindow 64 = .ok (.iload_n 2, 1) := by decide +kernel
theorem d_Mo_makeWindow_65 : decode cd_Mo_makeWindow 65 = .ok (.iadd, 1) := by decide +kernel
theorem d_Mo_makeWindow_66 : decode cd_Mo_makeWindow 66 = .ok (.iload_n 1, 1) := by decide +kernel
theorem d_Mo_makeWindow_67 : decode cd_Mo_makeWindow 67 = .ok (.iadd, 1) := by decide +kernel
theorem d_Mo_makeWindow_68 : decode cd_Mo_makeWindow 68 = .ok (.iaload, 1) := by decide +kernel
theorem d_Mo_makeWindow_69 : decode cd_Mo_makeWindow 69 = .ok (.istore 4, 2) := by decide +kernel
theorem d_Mo_makeWindow_71 : decode cd_Mo_makeWindow 71 = .ok (.iload 4, 2) := by decide +kernel
theorem d_Mo_makeWindow_73 : decode cd_Mo_makeWindow 73 = .ok (.ifCond .ne 11, 3) := by decide +kernel
theorem d_Mo_makeWindow_76 : decode cd_Mo_makeWindow 76 = .ok (.aload_n 0, 1) := by decide +kernel
theorem d_Mo_makeWindow_77 : decode cd_Mo_makeWindow 77 = .ok (.iconst 1, 1) := by decide +kernel
theorem d_Mo_makeWindow_78 : decode cd_Mo_makeWindow 78 = .ok (.invokevirtual 370, 3) := by decide +kernel
theorem d_Mo_makeWindow_81 : decode cd_Mo_makeWindow 81 = .ok (.goto 5, 3) := by decide +kernel
theorem d_Mo_makeWindow_84 : decode cd_Mo_makeWindow 84 = .ok (.iload 4, 2) := by decide +kernel
theorem d_Mo_makeWindow_86 : decode cd_Mo_makeWindow 86 = .ok (.istore 4, 2) := by decide +kernel
theorem d_Mo_makeWindow_88 : decode cd_Mo_makeWindow 88 = .ok (.aload_n 0, 1) := by decide +kernel
theorem d_Mo_makeWindow_89 : decode cd_Mo_makeWindow 89 = .ok (.getfield 345, 3) := by decide +kernel
theorem d_Mo_makeWindow_92 : decode cd_Mo_makeWindow 92 = .ok (.ifCond .ne 22, 3) := by decide +kernel
theorem d_Mo_makeWindow_95 : decode cd_Mo_makeWindow 95 = .ok (.aload_n 0, 1) := by decide +kernel
theorem d_Mo_makeWindow_96 : decode cd_Mo_makeWindow 96 = .ok (.iload_n 3, 1) := by decide +kernel
theorem d_Mo_makeWindow_97 : decode cd_Mo_makeWindow 97 = .ok (.iload 4, 2) := by decide +kernel
theorem d_Mo_makeWindow_99 : decode cd_Mo_makeWindow 99 = .ok (.aload_n 0, 1) := by decide +kernel
theorem d_Mo_makeWindow_100 : decode cd_Mo_makeWindow 100 = .ok (.getfield 136, 3) := by decide +kernel
theorem d_Mo_makeWindow_103 : decode cd_Mo_makeWindow 103 = .ok (.sipush 1024, 3) := by decide +kernel
theorem d_Mo_makeWindow_106 : decode cd_Mo_makeWindow 106 = .ok (.iload_n 2, 1) := by decide +kernel
theorem d_Mo_makeWindow_107 : decode cd_Mo_makeWindow 107 = .ok (.iadd, 1) := by decide +kernel
theorem d_Mo_makeWindow_108 : decode cd_Mo_makeWindow 108 = .ok (.iload_n 1, 1) := by decide +kernel
theorem d_Mo_makeWindow_109 : decode cd_Mo_makeWindow 109 = .ok (.iadd, 1) := by decide +kernel
theorem d_Mo_makeWindow_110 : decode cd_Mo_makeWindow 110 = .ok (.iaload, 1) := by decide +kernel
theorem d_Mo_makeWindow_111 : decode cd_Mo_makeWindow 111 = .ok (.invokevirtual 398, 3) := by decide +kernel
theorem d_Mo_makeWindow_114 : decode cd_Mo_makeWindow 114 = .ok (.iinc 2 256, 6) := by decide +kernel
theorem d_Mo_makeWindow_120 : decode cd_Mo_makeWindow 120 = .ok (.goto (-90), 3) := by decide +kernel
theorem d_Mo_makeWindow_123 : decode cd_Mo_makeWindow 123 = .ok (.goto (-123), 3) := by decide +kernel
theorem d_Mo_makeWindow_126 : decode cd_Mo_makeWindow 126 = .ok (.aload_n 0, 1) := by decide +kernel
theorem d_Mo_makeWindow_127 : decode cd_Mo_makeWindow 127 = .ok (.getfield 386, 3) := by decide +kernel
theorem d_Mo_makeWindow_130 : decode cd_Mo_makeWindow 130 = .ok (.aload_n 0, 1) := by decide +kernel
theorem d_Mo_makeWindow_131 : decode cd_Mo_makeWindow 131 = .ok (.getfield 376, 3) := by decide +kernel
theorem d_Mo_makeWindow_134 : decode cd_Mo_makeWindow 134 = .ok (.aload_n 0, 1) := by decide +kernel
theorem d_Mo_makeWindow_135 : decode cd_Mo_makeWindow 135 = .ok (.getfield 389, 3) := by decide +kernel
theorem d_Mo_makeWindow_138 : decode cd_Mo_makeWindow 138 = .ok (.iadd, 1) := by decide +kernel
theorem d_Mo_makeWindow_139 : decode cd_Mo_makeWindow 139 = .ok (.if_icmp .ne 33, 3) := by decide +kernel
theorem d_Mo_makeWindow_142 : decode cd_Mo_makeWindow 142 = .ok (.aload_n 0, 1) := by decide +kernel
theorem d_Mo_makeWindow_143 : decode cd_Mo_makeWindow 143 = .ok (.getfield 145, 3) := by decide +kernel
theorem d_Mo_makeWindow_146 : decode cd_Mo_makeWindow 146 = .ok (.iconst 0, 1) := by decide +kernel
theorem d_Mo_makeWindow_147 : decode cd_Mo_makeWindow 147 = .ok (.iaload, 1) := by decide +kernel
theorem d_Mo_makeWindow_148 : decode cd_Mo_makeWindow 148 = .ok (.aload_n 0, 1) := by decide +kernel
theorem d_Mo_makeWindow_149 : decode cd_Mo_makeWindow 149 = .ok (.getfield 148, 3) := by decide +kernel
theorem d_Mo_makeWindow_152 : decode cd_Mo_makeWindow 152 = .ok (.iconst 0, 1) := by decide +kernel
theorem d_Mo_makeWindow_153 : decode cd_Mo_makeWindow 153 = .ok (.iaload, 1) := by decide +kernel
theorem d_Mo_makeWindow_154 : decode cd_Mo_makeWindow 154 = .ok (.if_icmp .ne 18, 3) := by decide +kernel
theorem d_Mo_makeWindow_157 : decode cd_Mo_makeWindow 157 = .ok (.aload_n 0, 1) := by decide +kernel
theorem d_Mo_makeWindow_158 : decode cd_Mo_makeWindow 158 = .ok (.getfield 145, 3) := by decide +kernel
theorem d_Mo_makeWindow_161 : decode cd_Mo_makeWindow 161 = .ok (.iconst 2, 1) := by decide +kernel
theorem d_Mo_makeWindow_162 : decode cd_Mo_makeWindow 162 = .ok (.iaload, 1) := by decide +kernel
theorem d_Mo_makeWindow_163 : decode cd_Mo_makeWindow 163 = .ok (.aload_n 0, 1) := by decide +kernel
theorem d_Mo_makeWindow_164 : decode cd_Mo_makeWindow 164 = .ok (.getfield 148, 3) := by decide +kernel
theorem d_Mo_makeWindow_167 : decode cd_Mo_makeWindow 167 = .ok (.iconst 2, 1) := by decide +kernel
theorem d_Mo_makeWindow_168 : decode cd_Mo_makeWindow 168 = .ok (.iaload, 1) := by decide +kernel
theorem d_Mo_makeWindow_169 : decode cd_Mo_makeWindow 169 = .ok (.if_icmp .eq 9, 3) := by decide +kernel
theorem d_Mo_makeWindow_172 : decode cd_Mo_makeWindow 172 = .ok (.aload_n 0, 1) := by decide +kernel
theorem d_Mo_makeWindow_173 : decode cd_Mo_makeWindow 173 = .ok (.bipush (-2), 2) := by decide +kernel
theorem d_Mo_makeWindow_175 : decode cd_Mo_makeWindow 175 = .ok (.invokevirtual 354, 3) := by decide +kernel
theorem d_Mo_makeWindow_178 : decode cd_Mo_makeWindow 178 = .ok (.return_, 1) := by decide +kernel
theorem d_Mo_readSource_0 : decode cd_Mo_readSource 0 = .ok (.aload_n 0, 1) := by decide +kernel
theorem d_Mo_readSource_1 : decode cd_Mo_readSource 1 = .ok (.iload_n 1, 1) := by decide +kernel
theorem d_Mo_readSource_2 : decode cd_Mo_readSource 2 = .ok (.iconst 2, 1) := by decide +kernel
theorem d_Mo_readSource_3 : decode cd_Mo_readSource 3 = .ok (.iand, 1) := by decide +kernel
theorem d_Mo_readSource_4 : decode cd_Mo_readSource 4 = .ok (.ifCond .le 7, 3) := by decide +kernel
theorem d_Mo_readSource_7 : decode cd_Mo_readSource 7 = .ok (.iconst 1, 1) := by decide +kernel
theorem d_Mo_readSource_8 : decode cd_Mo_readSource 8 = .ok (.goto 4, 3) := by decide +kernel
theorem d_Mo_readSource_11 : decode cd_Mo_readSource 11 = .ok (.iconst 0, 1) := by decide +kernel
theorem d_Mo_readSource_12 : decode cd_Mo_readSource 12 = .ok (.putfield 379, 3) := by decide +kernel
theorem d_Mo_readSource_15 : decode cd_Mo_readSource 15 = .ok (.aload_n 0, 1) := by decide +kernel
theorem d_Mo_readSource_16 : decode cd_Mo_readSource 16 = .ok (.iconst 0, 1) := by decide +kernel
theorem d_Mo_readSource_17 : decode cd_Mo_readSource 17 = .ok (.putfield 383, 3) := by decide +kernel
theorem d_Mo_readSource_20 : decode cd_Mo_readSource 20 = .ok (.aload_n 0, 1) := by decide +kernel
theorem d_Mo_readSource_21 : decode cd_Mo_readSource 21 = .ok (.iconst 0, 1) := by decide +kernel
theorem d_Mo_readSource_22 : decode cd_Mo_readSource 22 = .ok (.putfield 373, 3) := by decide +kernel
theorem d_Mo_readSource_25 : decode cd_Mo_readSource 25 = .ok (.iload_n 1, 1) := by decide +kernel
theorem d_Mo_readSource_26 : decode cd_Mo_readSource 26 = .ok (.iconst 3, 1) := by decide +kernel
theorem d_Mo_readSource_27 : decode cd_Mo_readSource 27 = .ok (.iand, 1) := by decide +kernel
theorem d_Mo_readSource_28 : decode cd_Mo_readSource 28 = .ok (.ifCond .le 55, 3) := by decide +kernel
theorem d_Mo_readSource_31 : decode cd_Mo_readSource 31 = .ok (.aload_n 0, 1) := by decide +kernel
theorem d_Mo_readSource_32 : decode cd_Mo_readSource 32 = .ok (.aload_n 0, 1) := by decide +kernel
theorem d_Mo_readSource_33 : decode cd_Mo_readSource 33 = .ok (.invokevirtual 401, 3) := by decide +kernel
theorem d_Mo_readSource_36 : decode cd_Mo_readSource 36 = .ok (.putfield 373, 3) := by decide +kernel
theorem d_Mo_readSource_39 : decode cd_Mo_readSource 39 = .ok (.aload_n 0, 1) := by decide +kernel
theorem d_Mo_readSource_40 : decode cd_Mo_readSource 40 = .ok (.aload_n 0, 1) := by decide +kernel
theorem d_Mo_readSource_41 : decode cd_Mo_readSource 41 = .ok (.invokevirtual 401, 3) := by decide +kernel
theorem d_Mo_readSource_44 : decode cd_Mo_readSource 44 = .ok (.putfield 383, 3) := by decide +kernel
theorem d_Mo_readSource_47 : decode cd_Mo_readSource 47 = .ok (.aload_n 0, 1) := by decide +kernel
theorem d_Mo_readSource_48 : decode cd_Mo_readSource 48 = .ok (.getfield 383, 3) := by decide +kernel
theorem d_Mo_readSource_51 : decode cd_Mo_readSource 51 = .ok (.aload_n 0, 1) := by decide +kernel
theorem d_Mo_readSource_52 : decode cd_Mo_readSource 52 = .ok (.getfield 373, 3) := by decide +kernel
theorem d_Mo_readSource_55 : decode cd_Mo_readSource 55 = .ok (.iadd, 1) := by decide +kernel
theorem d_Mo_readSource_56 : decode cd_Mo_readSource 56 = .ok (.aload_n 0, 1) := by decide +kernel
theorem d_Mo_readSource_57 : decode cd_Mo_readSource 57 = .ok (.getfield 379, 3) := by decide +kernel
theorem d_Mo_readSource_60 : decode cd_Mo_readSource 60 = .ok (.ifCond .eq 10, 3) := by decide +kernel
theorem d_Mo_readSource_63 : decode cd_Mo_readSource 63 = .ok (.aload_n 0, 1) := by decide +kernel
theorem d_Mo_readSource_64 : decode cd_Mo_readSource 64 = .ok (.getfield 386, 3) := by decide +kernel
theorem d_Mo_readSource_67 : decode cd_Mo_readSource 67 = .ok (.goto 7, 3) := by decide +kernel
theorem d_Mo_readSource_70 : decode cd_Mo_readSource 70 = .ok (.aload_n 0, 1) := by decide +kernel
theorem d_Mo_readSource_71 : decode cd_Mo_readSource 71 = .ok (.getfield 364, 3) := by decide +kernel
theorem d_Mo_readSource_74 : decode cd_Mo_readSource 74 = .ok (.if_icmp .le 9, 3) := by decide +kernel
theorem d_Mo_readSource_77 : decode cd_Mo_readSource 77 = .ok (.aload_n 0, 1) := by decide +kernel
theorem d_Mo_readSource_78 : decode cd_Mo_readSource 78 = .ok (.bipush (-2), 2) := by decide +kernel
theorem d_Mo_readSource_80 : decode cd_Mo_readSource 80 = .ok (.invokevirtual 354, 3) := by decide +kernel
theorem d_Mo_readSource_83 : decode cd_Mo_readSource 83 = .ok (.return_, 1) := by decide +kernel
theorem d_Mo_readWindow_0 : decode cd_Mo_readWindow 0 = .ok (.aload_n 0, 1) := by decide +kernel
theorem d_Mo_readWindow_1 : decode cd_Mo_readWindow 1 = .ok (.invokevirtual 357, 3) := by decide +kernel
theorem d_Mo_readWindow_4 : decode cd_Mo_readWindow 4 = .ok (.istore_n 3, 1) := by decide +kernel
theorem d_Mo_readWindow_5 : decode cd_Mo_readWindow 5 = .ok (.iload_n 3, 1) := by decide +kernel
theorem d_Mo_readWindow_6 : decode cd_Mo_readWindow 6 = .ok (.bipush 7, 2) := by decide +kernel
theorem d_Mo_readWindow_8 : decode cd_Mo_readWindow 8 = .ok (.if_icmp .gt 10, 3) := by decide +kernel
theorem d_Mo_readWindow_11 : decode cd_Mo_readWindow 11 = .ok (.iload_n 3, 1) := by decide +kernel
theorem d_Mo_readWindow_12 : decode cd_Mo_readWindow 12 = .ok (.iconst 3, 1) := by decide +kernel
theorem d_Mo_readWindow_13 : decode cd_Mo_readWindow 13 = .ok (.iand, 1) := by decide +kernel
theorem d_Mo_readWindow_14 : decode cd_Mo_readWindow 14 = .ok (.iconst 3, 1) := by decide +kernel
theorem d_Mo_readWindow_15 : decode cd_Mo_readWindow 15 = .ok (.if_icmp .ne 9, 3) := by decide +kernel
theorem d_Mo_readWindow_18 : decode cd_Mo_readWindow 18 = .ok (.aload_n 0, 1) := by decide +kernel
theorem d_Mo_readWindow_19 : decode cd_Mo_readWindow 19 = .ok (.bipush (-2), 2) := by decide +kernel
theorem d_Mo_readWindow_21 : decode cd_Mo_readWindow 21 = .ok (.invokevirtual 354, 3) := by decide +kernel
theorem d_Mo_readWindow_24 : decode cd_Mo_readWindow 24 = .ok (.aload_n 0, 1) := by decide +kernel
theorem d_Mo_readWindow_25 : decode cd_Mo_readWindow 25 = .ok (.iload_n 3, 1) := by decide +kernel
theorem d_Mo_readWindow_26 : decode cd_Mo_readWindow 26 = .ok (.invokevirtual 404, 3) := by decide +kernel
theorem d_Mo_readWindow_29 : decode cd_Mo_readWindow 29 = .ok (.aload_n 0, 1) := by decide +kernel
theorem d_Mo_readWindow_30 : decode cd_Mo_readWindow 30 = .ok (.getfield 351, 3) := by decide +kernel
theorem d_Mo_readWindow_33 : decode cd_Mo_readWindow 33 = .ok (.istore 4, 2) := by decide +kernel
theorem d_Mo_readWindow_35 : decode cd_Mo_readWindow 35 = .ok (.aload_n 0, 1) := by decide +kernel
theorem d_Mo_readWindow_36 : decode cd_Mo_readWindow 36 = .ok (.invokevirtual 401, 3) := by decide +kernel
theorem d_Mo_readWindow_39 : decode cd_Mo_readWindow 39 = .ok (.istore 5, 2) := by decide +kernel
theorem d_Mo_readWindow_41 : decode cd_Mo_readWindow 41 = .ok (.iload 5, 2) := by decide +kernel
theorem d_Mo_readWindow_43 : decode cd_Mo_readWindow 43 = .ok (.aload_n 0, 1) := by decide +kernel
theorem d_Mo_readWindow_44 : decode cd_Mo_readWindow 44 = .ok (.getfield 351, 3) := by decide +kernel
theorem d_Mo_readWindow_47 : decode cd_Mo_readWindow 47 = .ok (.aload_n 0, 1) := by decide +kernel
theorem d_Mo_readWindow_48 : decode cd_Mo_readWindow 48 = .ok (.getfield 348, 3) := by decide +kernel
theorem d_Mo_readWindow_51 : decode cd_Mo_readWindow 51 = .ok (.isub, 1) := by decide +kernel
theorem d_Mo_readWindow_52 : decode cd_Mo_readWindow 52 = .ok (.if_icmp .le 9, 3) := by decide +kernel
theorem d_Mo_readWindow_55 : decode cd_Mo_readWindow 55 = .ok (.aload_n 0, 1) := by decide +kernel
theorem d_Mo_readWindow_56 : decode cd_Mo_readWindow 56 = .ok (.bipush (-2), 2) := by decide +kernel
theorem d_Mo_readWindow_58 : decode cd_Mo_readWindow 58 = .ok (.invokevirtual 354, 3) := by decide +kernel
theorem d_Mo_readWindow_61 : decode cd_Mo_readWindow 61 = .ok (.aload_n 0, 1) := by decide +kernel
theorem d_Mo_readWindow_62 : decode cd_Mo_readWindow 62 = .ok (.aload_n 0, 1) := by decide +kernel
theorem d_Mo_readWindow_63 : decode cd_Mo_readWindow 63 = .ok (.getfield 348, 3) := by decide +kernel
theorem d_Mo_readWindow_66 : decode cd_Mo_readWindow 66 = .ok (.iload 5, 2) := by decide +kernel
theorem d_Mo_readWindow_68 : decode cd_Mo_readWindow 68 = .ok (.iadd, 1) := by decide +kernel
theorem d_Mo_readWindow_69 : decode cd_Mo_readWindow 69 = .ok (.putfield 351, 3) := by decide +kernel
theorem d_Mo_readWindow_72 : decode cd_Mo_readWindow 72 = .ok (.aload_n 0, 1) := by decide +kernel
theorem d_Mo_readWindow_73 : decode cd_Mo_readWindow 73 = .ok (.aload_n 0, 1) := by decide +kernel
theorem d_Mo_readWindow_74 : decode cd_Mo_readWindow 74 = .ok (.invokevirtual 401, 3) := by decide +kernel
theorem d_Mo_readWindow_77 : decode cd_Mo_readWindow 77 = .ok (.putfield 389, 3) := by decide +kernel
theorem d_Mo_readWindow_80 : decode cd_Mo_readWindow 80 = .ok (.aload_n 0, 1) := by decide +kernel
theorem d_Mo_readWindow_81 : decode cd_Mo_readWindow 81 = .ok (.getfield 386, 3) := by decide +kernel
theorem d_Mo_readWindow_84 : decode cd_Mo_readWindow 84 = .ok (.aload_n 0, 1) := by decide +kernel
theorem d_Mo_readWindow_85 : decode cd_Mo_readWindow 85 = .ok (.getfield 389, 3) := by decide +kernel
theorem d_Mo_readWindow_88 : decode cd_Mo_readWindow 88 = .ok (.iadd, 1) := by decide +kernel
theorem d_Mo_readWindow_89 : decode cd_Mo_readWindow 89 = .ok (.aload_n 0, 1) := by decide +kernel
theorem d_Mo_readWindow_90 : decode cd_Mo_readWindow 90 = .ok (.getfield 407, 3) := by decide +kernel
theorem d_Mo_readWindow_93 : decode cd_Mo_readWindow 93 = .ok (.if_icmp .le 9, 3) := by decide +kernel
theorem d_Mo_readWindow_96 : decode cd_Mo_readWindow 96 = .ok (.aload_n 0, 1) := by decide +kernel
theorem d_Mo_readWindow_97 : decode cd_Mo_readWindow 97 = .ok (.bipush (-4), 2) := by decide +kernel
theorem d_Mo_readWindow_99 : decode cd_Mo_readWindow 99 = .ok (.invokevirtual 354, 3) := by decide +kernel
theorem d_Mo_readWindow_102 : decode cd_Mo_readWindow 102 = .ok (.aload_n 0, 1) := by decide +kernel
theorem d_Mo_readWindow_103 : decode cd_Mo_readWindow 103 = .ok (.invokevirtual 357, 3) := by decide +kernel
theorem d_Mo_readWindow_106 : decode cd_Mo_readWindow 106 = .ok (.istore 6, 2) := by decide +kernel
theorem d_Mo_readWindow_108 : decode cd_Mo_readWindow 108 = .ok (.iload 6, 2) := by decide +kernel
theorem d_Mo_readWindow_110 : decode cd_Mo_readWindow 110 = .ok (.ifCond .le 22, 3) := by decide +kernel
theorem d_Mo_readWindow_113 : decode cd_Mo_readWindow 113 = .ok (.aload_n 0, 1) := by decide +kernel
theorem d_Mo_readWindow_114 : decode cd_Mo_readWindow 114 = .ok (.iload 6, 2) := by decide +kernel
theorem d_Mo_readWindow_116 : decode cd_Mo_readWindow 116 = .ok (.bipush 7, 2) := by decide +kernel
theorem d_Mo_readWindow_118 : decode cd_Mo_readWindow 118 = .ok (.iand, 1) := by decide +kernel
theorem d_Mo_readWindow_119 : decode cd_Mo_readWindow 119 = .ok (.ifCond .le 8, 3) := by decide +kernel
theorem d_Mo_readWindow_122 : decode cd_Mo_readWindow 122 = .ok (.bipush (-3), 2) := by decide +kernel
theorem d_Mo_readWindow_124 : decode cd_Mo_readWindow 124 = .ok (.goto 5, 3) := by decide +kernel
theorem d_Mo_readWindow_127 : decode cd_Mo_readWindow 127 = .ok (.bipush (-2), 2) := by decide +kernel
theorem d_Mo_readWindow_129 : decode cd_Mo_readWindow 129 = .ok (.invokevirtual 354, 3) := by decide +kernel
theorem d_Mo_readWindow_132 : decode cd_Mo_readWindow 132 = .ok (.iconst 0, 1) := by decide +kernel
theorem d_Mo_readWindow_133 : decode cd_Mo_readWindow 133 = .ok (.istore 7, 2) := by decide +kernel
theorem d_Mo_readWindow_135 : decode cd_Mo_readWindow 135 = .ok (.iload 7, 2) := by decide +kernel
theorem d_Mo_readWindow_137 : decode cd_Mo_readWindow 137 = .ok (.iconst 3, 1) := by decide +kernel
theorem d_Mo_readWindow_138 : decode cd_Mo_readWindow 138 = .ok (.if_icmp .ge 20, 3) := by decide +kernel
theorem d_Mo_readWindow_141 : decode cd_Mo_readWindow 141 = .ok (.aload_n 0, 1) := by decide +kernel
theorem d_Mo_readWindow_142 : decode cd_Mo_readWindow 142 = .ok (.getfield 148, 3) := by decide +kernel
theorem d_Mo_readWindow_145 : decode cd_Mo_readWindow 145 = .ok (.iload 7, 2) := by decide +kernel
theorem d_Mo_readWindow_147 : decode cd_Mo_readWindow 147 = .ok (.aload_n 0, 1) := by decide +kernel
theorem d_Mo_readWindow_148 : decode cd_Mo_readWindow 148 = .ok (.invokevirtual 401, 3) := by decide +kernel
theorem d_Mo_readWindow_151 : decode cd_Mo_readWindow 151 = .ok (.iastore, 1) := by decide +kernel
theorem d_Mo_readWindow_152 : decode cd_Mo_readWindow 152 = .ok (.iinc 7 1, 3) := by decide +kernel
theorem d_Mo_readWindow_155 : decode cd_Mo_readWindow 155 = .ok (.goto (-20), 3) := by decide +kernel
theorem d_Mo_readWindow_158 : decode cd_Mo_readWindow 158 = .ok (.lconst 0, 1) := by decide +kernel
theorem d_Mo_readWindow_159 : decode cd_Mo_readWindow 159 = .ok (.lstore 7, 2) := by decide +kernel
theorem d_Mo_readWindow_161 : decode cd_Mo_readWindow 161 = .ok (.iconst 0, 1) := by decide +kernel
theorem d_Mo_readWindow_162 : decode cd_Mo_readWindow 162 = .ok (.istore 9, 2) := by decide +kernel
theorem d_Mo_readWindow_164 : decode cd_Mo_readWindow 164 = .ok (.iload 9, 2) := by decide +kernel
theorem d_Mo_readWindow_166 : decode cd_Mo_readWindow 166 = .ok (.iconst 4, 1) := by decide +kernel
theorem d_Mo_readWindow_167 : decode cd_Mo_readWindow 167 = .ok (.if_icmp .ge 29, 3) := by decide +kernel
theorem d_Mo_readWindow_170 : decode cd_Mo_readWindow 170 = .ok (.iload_n 3, 1) := by decide +kernel
theorem d_Mo_readWindow_171 : decode cd_Mo_readWindow 171 = .ok (.iconst 4, 1) := by decide +kernel
theorem d_Mo_readWindow_172 : decode cd_Mo_readWindow 172 = .ok (.iand, 1) := by decide +kernel
theorem d_Mo_readWindow_173 : decode cd_Mo_readWindow 173 = .ok (.ifCond .le 23, 3) := by decide +kernel
theorem d_Mo_readWindow_176 : decode cd_Mo_readWindow 176 = .ok (.ldc2_w 180, 3) := by decide +kernel
theorem d_Mo_readWindow_179 : decode cd_Mo_readWindow 179 = .ok (.lload 7, 2) := by decide +kernel
theorem d_Mo_readWindow_181 : decode cd_Mo_readWindow 181 = .ok (.lmul, 1) := by decide +kernel
theorem d_Mo_readWindow_182 : decode cd_Mo_readWindow 182 = .ok (.aload_n 0, 1) := by decide +kernel
theorem d_Mo_readWindow_183 : decode cd_Mo_readWindow 183 = .ok (.invokevirtual 357, 3) := by decide +kernel
theorem d_Mo_readWindow_186 : decode cd_Mo_readWindow 186 = .ok (.i2l, 1) := by decide +kernel
theorem d_Mo_readWindow_187 : decode cd_Mo_readWindow 187 = .ok (.ladd, 1) := by decide +kernel
theorem d_Mo_readWindow_188 : decode cd_Mo_readWindow 188 = .ok (.lstore 7, 2) := by decide +kernel
theorem d_Mo_readWindow_190 : decode cd_Mo_readWindow 190 = .ok (.iinc 9 1, 3) := by decide +kernel
theorem d_Mo_readWindow_193 : decode cd_Mo_readWindow 193 = .ok (.goto (-29), 3) := by decide +kernel
theorem d_Mo_readWindow_196 : decode cd_Mo_readWindow 196 = .ok (.aload_n 0, 1) := by decide +kernel
theorem d_Mo_readWindow_197 : decode cd_Mo_readWindow 197 = .ok (.getfield 345, 3) := by decide +kernel
theorem d_Mo_readWindow_200 : decode cd_Mo_readWindow 200 = .ok (.ifCond .ne 40, 3) := by decide +kernel
theorem d_Mo_readWindow_203 : decode cd_Mo_readWindow 203 = .ok (.aload_n 0, 1) := by decide +kernel
theorem d_Mo_readWindow_204 : decode cd_Mo_readWindow 204 = .ok (.getfield 148, 3) := by decide +kernel
theorem d_Mo_readWindow_207 : decode cd_Mo_readWindow 207 = .ok (.iconst 0, 1) := by decide +kernel
theorem d_Mo_readWindow_208 : decode cd_Mo_readWindow 208 = .ok (.iaload, 1) := by decide +kernel
theorem d_Mo_readWindow_209 : decode cd_Mo_readWindow 209 = .ok (.i2l, 1) := by decide +kernel
theorem d_Mo_readWindow_210 : decode cd_Mo_readWindow 210 = .ok (.aload_n 0, 1) := by decide +kernel
theorem d_Mo_readWindow_211 : decode cd_Mo_readWindow 211 = .ok (.getfield 148, 3) := by decide +kernel
theorem d_Mo_readWindow_214 : decode cd_Mo_readWindow 214 = .ok (.iconst 1, 1) := by decide +kernel
theorem d_Mo_readWindow_215 : decode cd_Mo_readWindow 215 = .ok (.iaload, 1) := by decide +kernel
theorem d_Mo_readWindow_216 : decode cd_Mo_readWindow 216 = .ok (.i2l, 1) := by decide +kernel
theorem d_Mo_readWindow_217 : decode cd_Mo_readWindow 217 = .ok (.ladd, 1) := by decide +kernel
theorem d_Mo_readWindow_218 : decode cd_Mo_readWindow 218 = .ok (.aload_n 0, 1) := by decide +kernel
theorem d_Mo_readWindow_219 : decode cd_Mo_readWindow 219 = .ok (.getfield 148, 3) := by decide +kernel
theorem d_Mo_readWindow_222 : decode cd_Mo_readWindow 222 = .ok (.iconst 2, 1) := by decide +kernel
theorem d_Mo_readWindow_223 : decode cd_Mo_readWindow 223 = .ok (.iaload, 1) := by decide +kernel
theorem d_Mo_readWindow_224 : decode cd_Mo_readWindow 224 = .ok (.i2l, 1) := by decide +kernel
theorem d_Mo_readWindow_225 : decode cd_Mo_readWindow 225 = .ok (.ladd, 1) := by decide +kernel
theorem d_Mo_readWindow_226 : decode cd_Mo_readWindow 226 = .ok (.aload_n 0, 1) := by decide +kernel
theorem d_Mo_readWindow_227 : decode cd_Mo_readWindow 227 = .ok (.getfield 351, 3) := by decide +kernel
theorem d_Mo_readWindow_230 : decode cd_Mo_readWindow 230 = .ok (.aload_n 0, 1) := by decide +kernel
theorem d_Mo_readWindow_231 : decode cd_Mo_readWindow 231 = .ok (.getfield 348, 3) := by decide +kernel
theorem d_Mo_readWindow_234 : decode cd_Mo_readWindow 234 = .ok (.isub, 1) := by decide +kernel
theorem d_Mo_readWindow_235 : decode cd_Mo_readWindow 235 = .ok (.i2l, 1) := by decide +kernel
theorem d_Mo_readWindow_236 : decode cd_Mo_readWindow 236 = .ok (.lcmp, 1) := by decide +kernel
theorem d_Mo_readWindow_237 : decode cd_Mo_readWindow 237 = .ok (.ifCond .eq 10, 3) := by decide +kernel
theorem d_Mo_readWindow_240 : decode cd_Mo_readWindow 240 = .ok (.aload_n 0, 1) := by decide +kernel
theorem d_Mo_readWindow_241 : decode cd_Mo_readWindow 241 = .ok (.bipush (-2), 2) := by decide +kernel
theorem d_Mo_readWindow_243 : decode cd_Mo_readWindow 243 = .ok (.invokevirtual 354, 3) := by decide +kernel
theorem d_Mo_readWindow_246 : decode cd_Mo_readWindow 246 = .ok (.return_, 1) := by decide +kernel
theorem d_Mo_readWindow_247 : decode cd_Mo_readWindow 247 = .ok (.iconst 0, 1) := by decide +kernel
theorem d_Mo_readWindow_248 : decode cd_Mo_readWindow 248 = .ok (.istore 9, 2) := by decide +kernel
theorem d_Mo_readWindow_250 : decode cd_Mo_readWindow 250 = .ok (.iload 9, 2) := by decide +kernel
theorem d_Mo_readWindow_252 : decode cd_Mo_readWindow 252 = .ok (.iconst 3, 1) := by decide +kernel
theorem d_Mo_readWindow_253 : decode cd_Mo_readWindow 253 = .ok (.if_icmp .ge 59, 3) := by decide +kernel
theorem d_Mo_readWindow_256 : decode cd_Mo_readWindow 256 = .ok (.aload_n 0, 1) := by decide +kernel
theorem d_Mo_readWindow_257 : decode cd_Mo_readWindow 257 = .ok (.getfield 145, 3) := by decide +kernel
theorem d_Mo_readWindow_260 : decode cd_Mo_readWindow 260 = .ok (.iload 9, 2) := by decide +kernel
theorem d_Mo_readWindow_262 : decode cd_Mo_readWindow 262 = .ok (.iload 9, 2) := by decide +kernel
theorem d_Mo_readWindow_264 : decode cd_Mo_readWindow 264 = .ok (.ifCond .ne 10, 3) := by decide +kernel
theorem d_Mo_readWindow_267 : decode cd_Mo_readWindow 267 = .ok (.aload_n 0, 1) := by decide +kernel
theorem d_Mo_readWindow_268 : decode cd_Mo_readWindow 268 = .ok (.getfield 348, 3) := by decide +kernel
theorem d_Mo_readWindow_271 : decode cd_Mo_readWindow 271 = .ok (.goto 12, 3) := by decide +kernel
theorem d_Mo_readWindow_274 : decode cd_Mo_readWindow 274 = .ok (.aload_n 0, 1) := by decide +kernel
theorem d_Mo_readWindow_275 : decode cd_Mo_readWindow 275 = .ok (.getfield 148, 3) := by decide +kernel
theorem d_Mo_readWindow_278 : decode cd_Mo_readWindow 278 = .ok (.iload 9, 2) := by decide +kernel
theorem d_Mo_readWindow_280 : decode cd_Mo_readWindow 280 = .ok (.iconst 1, 1) := by decide +kernel
theorem d_Mo_readWindow_281 : decode cd_Mo_readWindow 281 = .ok (.isub, 1) := by decide +kernel
theorem d_Mo_readWindow_282 : decode cd_Mo_readWindow 282 = .ok (.iaload, 1) := by decide +kernel
theorem d_Mo_readWindow_283 : decode cd_Mo_readWindow 283 = .ok (.iastore, 1) := by decide +kernel
theorem d_Mo_readWindow_284 : decode cd_Mo_readWindow 284 = .ok (.aload_n 0, 1) := by decide +kernel
theorem d_Mo_readWindow_285 : decode cd_Mo_readWindow 285 = .ok (.getfield 148, 3) := by decide +kernel
theorem d_Mo_readWindow_288 : decode cd_Mo_readWindow 288 = .ok (.iload 9, 2) := by decide +kernel
theorem d_Mo_readWindow_290 : decode cd_Mo_readWindow 290 = .ok (.aload_n 0, 1) := by decide +kernel
theorem d_Mo_readWindow_291 : decode cd_Mo_readWindow 291 = .ok (.getfield 145, 3) := by decide +kernel
theorem d_Mo_readWindow_294 : decode cd_Mo_readWindow 294 = .ok (.iload 9, 2) := by decide +kernel
theorem d_Mo_readWindow_296 : decode cd_Mo_readWindow 296 = .ok (.iaload, 1) := by decide +kernel
theorem d_Mo_readWindow_297 : decode cd_Mo_readWindow 297 = .ok (.aload_n 0, 1) := by decide +kernel
theorem d_Mo_readWindow_298 : decode cd_Mo_readWindow 298 = .ok (.getfield 148, 3) := by decide +kernel
theorem d_Mo_readWindow_301 : decode cd_Mo_readWindow 301 = .ok (.iload 9, 2) := by decide +kernel
theorem d_Mo_readWindow_303 : decode cd_Mo_readWindow 303 = .ok (.iaload, 1) := by decide +kernel
theorem d_Mo_readWindow_304 : decode cd_Mo_readWindow 304 = .ok (.iadd, 1) := by decide +kernel
theorem d_Mo_readWindow_305 : decode cd_Mo_readWindow 305 = .ok (.iastore, 1) := by decide +kernel
theorem d_Mo_readWindow_306 : decode cd_Mo_readWindow 306 = .ok (.iinc 9 1, 3) := by decide +kernel
theorem d_Mo_readWindow_309 : decode cd_Mo_readWindow 309 = .ok (.goto (-59), 3) := by decide +kernel
theorem d_Mo_readWindow_312 : decode cd_Mo_readWindow 312 = .ok (.aload_n 0, 1) := by decide +kernel
theorem d_Mo_readWindow_313 : decode cd_Mo_readWindow 313 = .ok (.aload_n 0, 1) := by decide +kernel
theorem d_Mo_readWindow_314 : decode cd_Mo_readWindow 314 = .ok (.getfield 351, 3) := by decide +kernel
theorem d_Mo_readWindow_317 : decode cd_Mo_readWindow 317 = .ok (.putfield 348, 3) := by decide +kernel
theorem d_Mo_readWindow_320 : decode cd_Mo_readWindow 320 = .ok (.aload_n 0, 1) := by decide +kernel
theorem d_Mo_readWindow_321 : decode cd_Mo_readWindow 321 = .ok (.iload 4, 2) := by decide +kernel
theorem d_Mo_readWindow_323 : decode cd_Mo_readWindow 323 = .ok (.putfield 351, 3) := by decide +kernel
theorem d_Mo_readWindow_326 : decode cd_Mo_readWindow 326 = .ok (.aload_n 0, 1) := by decide +kernel
theorem d_Mo_readWindow_327 : decode cd_Mo_readWindow 327 = .ok (.aload_n 0, 1) := by decide +kernel
theorem d_Mo_readWindow_328 : decode cd_Mo_readWindow 328 = .ok (.getfield 386, 3) := by decide +kernel
theorem d_Mo_readWindow_331 : decode cd_Mo_readWindow 331 = .ok (.putfield 376, 3) := by decide +kernel
theorem d_Mo_readWindow_334 : decode cd_Mo_readWindow 334 = .ok (.aload_n 0, 1) := by decide +kernel
theorem d_Mo_readWindow_335 : decode cd_Mo_readWindow 335 = .ok (.iload_n 1, 1) := by decide +kernel
theorem d_Mo_readWindow_336 : decode cd_Mo_readWindow 336 = .ok (.iload_n 2, 1) := by decide +kernel
theorem d_Mo_readWindow_337 : decode cd_Mo_readWindow 337 = .ok (.invokevirtual 319, 3) := by decide +kernel
theorem d_Mo_readWindow_340 : decode cd_Mo_readWindow 340 = .ok (.aload_n 0, 1) := by decide +kernel
theorem d_Mo_readWindow_341 : decode cd_Mo_readWindow 341 = .ok (.invokevirtual 410, 3) := by decide +kernel
theorem d_Mo_readWindow_344 : decode cd_Mo_readWindow 344 = .ok (.iload_n 3, 1) := by decide +kernel
theorem d_Mo_readWindow_345 : decode cd_Mo_readWindow 345 = .ok (.iconst 4, 1) := by decide +kernel
theorem d_Mo_readWindow_346 : decode cd_Mo_readWindow 346 = .ok (.iand, 1) := by decide +kernel
theorem d_Mo_readWindow_347 : decode cd_Mo_readWindow 347 = .ok (.ifCond .le 35, 3) := by decide +kernel
theorem d_Mo_readWindow_350 : decode cd_Mo_readWindow 350 = .ok (.aload_n 0, 1) := by decide +kernel
theorem d_Mo_readWindow_351 : decode cd_Mo_readWindow 351 = .ok (.getfield 345, 3) := by decide +kernel
theorem d_Mo_readWindow_354 : decode cd_Mo_readWindow 354 = .ok (.ifCond .ne 28, 3) := by decide +kernel
theorem d_Mo_readWindow_357 : decode cd_Mo_readWindow 357 = .ok (.aload_n 0, 1) := by decide +kernel
theorem d_Mo_readWindow_358 : decode cd_Mo_readWindow 358 = .ok (.iconst 0, 1) := by decide +kernel
theorem d_Mo_readWindow_359 : decode cd_Mo_readWindow 359 = .ok (.aload_n 0, 1) := by decide +kernel
theorem d_Mo_readWindow_360 : decode cd_Mo_readWindow 360 = .ok (.getfield 376, 3) := by decide +kernel
theorem d_Mo_readWindow_363 : decode cd_Mo_readWindow 363 = .ok (.aload_n 0, 1) := by decide +kernel
theorem d_Mo_readWindow_364 : decode cd_Mo_readWindow 364 = .ok (.getfield 389, 3) := by decide +kernel
theorem d_Mo_readWindow_367 : decode cd_Mo_readWindow 367 = .ok (.invokevirtual 331, 3) := by decide +kernel
theorem d_Mo_readWindow_370 : decode cd_Mo_readWindow 370 = .ok (.lload 7, 2) := by decide +kernel
theorem d_Mo_readWindow_372 : decode cd_Mo_readWindow 372 = .ok (.lcmp, 1) := by decide +kernel
theorem d_Mo_readWindow_373 : decode cd_Mo_readWindow 373 = .ok (.ifCond .eq 9, 3) := by decide +kernel
theorem d_Mo_readWindow_376 : decode cd_Mo_readWindow 376 = .ok (.aload_n 0, 1) := by decide +kernel
theorem d_Mo_readWindow_377 : decode cd_Mo_readWindow 377 = .ok (.bipush (-6), 2) := by decide +kernel
theorem d_Mo_readWindow_379 : decode cd_Mo_readWindow 379 = .ok (.invokevirtual 354, 3) := by decide +kernel
theorem d_Mo_readWindow_382 : decode cd_Mo_readWindow 382 = .ok (.return_, 1) := by decide +kernel
theorem d_Mo_readWindows_0 : decode cd_Mo_readWindows 0 = .ok (.aload_n 0, 1) := by decide +kernel
theorem d_Mo_readWindows_1 : decode cd_Mo_readWindows 1 = .ok (.iconst 0, 1) := by decide +kernel
theorem d_Mo_readWindows_2 : decode cd_Mo_readWindows 2 = .ok (.putfield 386, 3) := by decide +kernel
theorem d_Mo_readWindows_5 : decode cd_Mo_readWindows 5 = .ok (.aload_n 0, 1) := by decide +kernel
theorem d_Mo_readWindows_6 : decode cd_Mo_readWindows 6 = .ok (.getfield 348, 3) := by decide +kernel
theorem d_Mo_readWindows_9 : decode cd_Mo_readWindows 9 = .ok (.aload_n 0, 1) := by decide +kernel
theorem d_Mo_readWindows_10 : decode cd_Mo_readWindows 10 = .ok (.getfield 351, 3) := by decide +kernel
theorem d_Mo_readWindows_13 : decode cd_Mo_readWindows 13 = .ok (.if_icmp .ge 19, 3) := by decide +kernel
theorem d_Mo_readWindows_16 : decode cd_Mo_readWindows 16 = .ok (.aload_n 0, 1) := by decide +kernel
theorem d_Mo_readWindows_17 : decode cd_Mo_readWindows 17 = .ok (.getfield 345, 3) := by decide +kernel
theorem d_Mo_readWindows_20 : decode cd_Mo_readWindows 20 = .ok (.ifCond .ne 12, 3) := by decide +kernel
theorem d_Mo_readWindows_23 : decode cd_Mo_readWindows 23 = .ok (.aload_n 0, 1) := by decide +kernel
theorem d_Mo_readWindows_24 : decode cd_Mo_readWindows 24 = .ok (.iload_n 1, 1) := by decide +kernel
theorem d_Mo_readWindows_25 : decode cd_Mo_readWindows 25 = .ok (.iload_n 2, 1) := by decide +kernel
theorem d_Mo_readWindows_26 : decode cd_Mo_readWindows 26 = .ok (.invokevirtual 413, 3) := by decide +kernel
theorem d_Mo_readWindows_29 : decode cd_Mo_readWindows 29 = .ok (.goto (-24), 3) := by decide +kernel
theorem d_Mo_readWindows_32 : decode cd_Mo_readWindows 32 = .ok (.return_, 1) := by decide +kernel
theorem d_Mo_readTable_0 : decode cd_Mo_readTable 0 = .ok (.aload_n 0, 1) := by decide +kernel
theorem d_Mo_readTable_1 : decode cd_Mo_readTable 1 = .ok (.invokevirtual 401, 3) := by decide +kernel
theorem d_Mo_readTable_4 : decode cd_Mo_readTable 4 = .ok (.istore_n 1, 1) := by decide +kernel
theorem d_Mo_readTable_5 : decode cd_Mo_readTable 5 = .ok (.iload_n 1, 1) := by decide +kernel
theorem d_Mo_readTable_6 : decode cd_Mo_readTable 6 = .ok (.iconst 2, 1) := by decide +kernel
theorem d_Mo_readTable_7 : decode cd_Mo_readTable 7 = .ok (.if_icmp .lt 16, 3) := by decide +kernel
theorem d_Mo_readTable_10 : decode cd_Mo_readTable 10 = .ok (.iload_n 1, 1) := by decide +kernel
theorem d_Mo_readTable_11 : decode cd_Mo_readTable 11 = .ok (.aload_n 0, 1) := by decide +kernel
theorem d_Mo_readTable_12 : decode cd_Mo_readTable 12 = .ok (.getfield 351, 3) := by decide +kernel
theorem d_Mo_readTable_15 : decode cd_Mo_readTable 15 = .ok (.aload_n 0, 1) := by decide +kernel
theorem d_Mo_readTable_16 : decode cd_Mo_readTable 16 = .ok (.getfield 348, 3) := by decide +kernel
theorem d_Mo_readTable_19 : decode cd_Mo_readTable 19 = .ok (.isub, 1) := by decide +kernel
theorem d_Mo_readTable_20 : decode cd_Mo_readTable 20 = .ok (.if_icmp .le 9, 3) := by decide +kernel
theorem d_Mo_readTable_23 : decode cd_Mo_readTable 23 = .ok (.aload_n 0, 1) := by decide +kernel
theorem d_Mo_readTable_24 : decode cd_Mo_readTable 24 = .ok (.bipush (-2), 2) := by decide +kernel
theorem d_Mo_readTable_26 : decode cd_Mo_readTable 26 = .ok (.invokevirtual 354, 3) := by decide +kernel
theorem d_Mo_readTable_29 : decode cd_Mo_readTable 29 = .ok (.aload_n 0, 1) := by decide +kernel
theorem d_Mo_readTable_30 : decode cd_Mo_readTable 30 = .ok (.getfield 351, 3) := by decide +kernel
theorem d_Mo_readTable_33 : decode cd_Mo_readTable 33 = .ok (.istore_n 2, 1) := by decide +kernel
theorem d_Mo_readTable_34 : decode cd_Mo_readTable 34 = .ok (.aload_n 0, 1) := by decide +kernel
theorem d_Mo_readTable_35 : decode cd_Mo_readTable 35 = .ok (.aload_n 0, 1) := by decide +kernel
theorem d_Mo_readTable_36 : decode cd_Mo_readTable 36 = .ok (.getfield 345, 3) := by decide +kernel
theorem d_Mo_readTable_39 : decode cd_Mo_readTable 39 = .ok (.ifCond .ne 12, 3) := by decide +kernel
theorem d_Mo_readTable_42 : decode cd_Mo_readTable 42 = .ok (.aload_n 0, 1) := by decide +kernel
theorem d_Mo_readTable_43 : decode cd_Mo_readTable 43 = .ok (.getfield 348, 3) := by decide +kernel
theorem d_Mo_readTable_46 : decode cd_Mo_readTable 46 = .ok (.iload_n 1, 1) := by decide +kernel
theorem d_Mo_readTable_47 : decode cd_Mo_readTable 47 = .ok (.iadd, 1) := by decide +kernel
theorem d_Mo_readTable_48 : decode cd_Mo_readTable 48 = .ok (.goto 7, 3) := by decide +kernel
theorem d_Mo_readTable_51 : decode cd_Mo_readTable 51 = .ok (.aload_n 0, 1) := by decide +kernel
theorem d_Mo_readTable_52 : decode cd_Mo_readTable 52 = .ok (.getfield 351, 3) := by decide +kernel
theorem d_Mo_readTable_55 : decode cd_Mo_readTable 55 = .ok (.putfield 351, 3) := by decide +kernel
theorem d_Mo_readTable_58 : decode cd_Mo_readTable 58 = .ok (.aload_n 0, 1) := by decide +kernel
theorem d_Mo_readTable_59 : decode cd_Mo_readTable 59 = .ok (.invokevirtual 357, 3) := by decide +kernel
theorem d_Mo_readTable_62 : decode cd_Mo_readTable 62 = .ok (.istore_n 3, 1) := by decide +kernel
theorem d_Mo_readTable_63 : decode cd_Mo_readTable 63 = .ok (.iload_n 3, 1) := by decide +kernel
theorem d_Mo_readTable_64 : decode cd_Mo_readTable 64 = .ok (.bipush 8, 2) := by decide +kernel
theorem d_Mo_readTable_66 : decode cd_Mo_readTable 66 = .ok (.if_icmp .le 7, 3) := by decide +kernel
theorem d_Mo_readTable_69 : decode cd_Mo_readTable 69 = .ok (.iconst 0, 1) := by decide +kernel
theorem d_Mo_readTable_70 : decode cd_Mo_readTable 70 = .ok (.goto 7, 3) := by decide +kernel
theorem d_Mo_readTable_73 : decode cd_Mo_readTable 73 = .ok (.aload_n 0, 1) := by decide +kernel
theorem d_Mo_readTable_74 : decode cd_Mo_readTable 74 = .ok (.invokevirtual 357, 3) := by decide +kernel
theorem d_Mo_readTable_77 : decode cd_Mo_readTable 77 = .ok (.istore 4, 2) := by decide +kernel
theorem d_Mo_readTable_79 : decode cd_Mo_readTable 79 = .ok (.iload_n 3, 1) := by decide +kernel
theorem d_Mo_readTable_80 : decode cd_Mo_readTable 80 = .ok (.bipush 8, 2) := by decide +kernel
theorem d_Mo_readTable_82 : decode cd_Mo_readTable 82 = .ok (.if_icmp .gt 9, 3) := by decide +kernel
theorem d_Mo_readTable_85 : decode cd_Mo_readTable 85 = .ok (.iload 4, 2) := by decide +kernel
theorem d_Mo_readTable_87 : decode cd_Mo_readTable 87 = .ok (.iconst 4, 1) := by decide +kernel
theorem d_Mo_readTable_88 : decode cd_Mo_readTable 88 = .ok (.if_icmp .le 9, 3) := by decide +kernel
theorem d_Mo_readTable_91 : decode cd_Mo_readTable 91 = .ok (.aload_n 0, 1) := by decide +kernel
theorem d_Mo_readTable_92 : decode cd_Mo_readTable 92 = .ok (.bipush (-5), 2) := by decide +kernel
theorem d_Mo_readTable_94 : decode cd_Mo_readTable 94 = .ok (.invokevirtual 354, 3) := by decide +kernel
theorem d_Mo_readTable_97 : decode cd_Mo_readTable 97 = .ok (.aload_n 0, 1) := by decide +kernel
theorem d_Mo_readTable_98 : decode cd_Mo_readTable 98 = .ok (.getfield 345, 3) := by decide +kernel
theorem d_Mo_readTable_101 : decode cd_Mo_readTable 101 = .ok (.ifCond .eq 5, 3) := by decide +kernel
theorem d_Mo_readTable_104 : decode cd_Mo_readTable 104 = .ok (.iconst 0, 1) := by decide +kernel
theorem d_Mo_readTable_105 : decode cd_Mo_readTable 105 = .ok (.ireturn, 1) := by decide +kernel
theorem d_Mo_readTable_106 : decode cd_Mo_readTable 106 = .ok (.aload_n 0, 1) := by decide +kernel
theorem d_Mo_readTable_107 : decode cd_Mo_readTable 107 = .ok (.invokevirtual 416, 3) := by decide +kernel
theorem d_Mo_readTable_110 : decode cd_Mo_readTable 110 = .ok (.aload_n 0, 1) := by decide +kernel
theorem d_Mo_readTable_111 : decode cd_Mo_readTable 111 = .ok (.invokevirtual 357, 3) := by decide +kernel
theorem d_Mo_readTable_114 : decode cd_Mo_readTable 114 = .ok (.ifCond .eq 9, 3) := by decide +kernel
theorem d_Mo_readTable_117 : decode cd_Mo_readTable 117 = .ok (.aload_n 0, 1) := by decide +kernel
theorem d_Mo_readTable_118 : decode cd_Mo_readTable 118 = .ok (.bipush (-5), 2) := by decide +kernel
theorem d_Mo_readTable_120 : decode cd_Mo_readTable 120 = .ok (.invokevirtual 354, 3) := by decide +kernel
theorem d_Mo_readTable_123 : decode cd_Mo_readTable 123 = .ok (.aload_n 0, 1) := by decide +kernel
theorem d_Mo_readTable_124 : decode cd_Mo_readTable 124 = .ok (.sipush 1536, 3) := by decide +kernel
theorem d_Mo_readTable_127 : decode cd_Mo_readTable 127 = .ok (.putfield 407, 3) := by decide +kernel
theorem d_Mo_readTable_130 : decode cd_Mo_readTable 130 = .ok (.aload_n 0, 1) := by decide +kernel
theorem d_Mo_readTable_131 : decode cd_Mo_readTable 131 = .ok (.iconst 4, 1) := by decide +kernel
theorem d_Mo_readTable_132 : decode cd_Mo_readTable 132 = .ok (.iconst 3, 1) := by decide +kernel
theorem d_Mo_readTable_133 : decode cd_Mo_readTable 133 = .ok (.invokevirtual 419, 3) := by decide +kernel
theorem d_Mo_readTable_136 : decode cd_Mo_readTable 136 = .ok (.aload_n 0, 1) := by decide +kernel
theorem d_Mo_readTable_137 : decode cd_Mo_readTable 137 = .ok (.getfield 345, 3) := by decide +kernel
theorem d_Mo_readTable_140 : decode cd_Mo_readTable 140 = .ok (.ifCond .ne 17, 3) := by decide +kernel
theorem d_Mo_readTable_143 : decode cd_Mo_readTable 143 = .ok (.aload_n 0, 1) := by decide +kernel
theorem d_Mo_readTable_144 : decode cd_Mo_readTable 144 = .ok (.getfield 386, 3) := by decide +kernel
theorem d_Mo_readTable_147 : decode cd_Mo_readTable 147 = .ok (.sipush 1536, 3) := by decide +kernel
theorem d_Mo_readTable_150 : decode cd_Mo_readTable 150 = .ok (.if_icmp .ne 7, 3) := by decide +kernel
theorem d_Mo_readTable_153 : decode cd_Mo_readTable 153 = .ok (.iconst 1, 1) := by decide +kernel
theorem d_Mo_readTable_154 : decode cd_Mo_readTable 154 = .ok (.goto 4, 3) := by decide +kernel
theorem d_Mo_readTable_157 : decode cd_Mo_readTable 157 = .ok (.iconst 0, 1) := by decide +kernel
theorem d_Mo_readTable_158 : decode cd_Mo_readTable 158 = .ok (.istore 5, 2) := by decide +kernel
theorem d_Mo_readTable_160 : decode cd_Mo_readTable 160 = .ok (.iconst 0, 1) := by decide +kernel
theorem d_Mo_readTable_161 : decode cd_Mo_readTable 161 = .ok (.istore 6, 2) := by decide +kernel
theorem d_Mo_readTable_163 : decode cd_Mo_readTable 163 = .ok (.iload 6, 2) := by decide +kernel
theorem d_Mo_readTable_165 : decode cd_Mo_readTable 165 = .ok (.sipush 512, 3) := by decide +kernel
theorem d_Mo_readTable_168 : decode cd_Mo_readTable 168 = .ok (.if_icmp .ge 32, 3) := by decide +kernel
theorem d_Mo_readTable_171 : decode cd_Mo_readTable 171 = .ok (.iload 5, 2) := by decide +kernel
theorem d_Mo_readTable_173 : decode cd_Mo_readTable 173 = .ok (.ifCond .eq 27, 3) := by decide +kernel
theorem d_Mo_readTable_176 : decode cd_Mo_readTable 176 = .ok (.aload_n 0, 1) := by decide +kernel
theorem d_Mo_readTable_177 : decode cd_Mo_readTable 177 = .ok (.getfield 142, 3) := by decide +kernel
theorem d_Mo_readTable_180 : decode cd_Mo_readTable 180 = .ok (.iload 6, 2) := by decide +kernel
theorem d_Mo_readTable_182 : decode cd_Mo_readTable 182 = .ok (.iaload, 1) := by decide +kernel
theorem d_Mo_readTable_183 : decode cd_Mo_readTable 183 = .ok (.iconst 4, 1) := by decide +kernel
theorem d_Mo_readTable_184 : decode cd_Mo_readTable 184 = .ok (.if_icmp .ge 7, 3) := by decide +kernel
theorem d_Mo_readTable_187 : decode cd_Mo_readTable 187 = .ok (.iconst 1, 1) := by decide +kernel
theorem d_Mo_readTable_188 : decode cd_Mo_readTable 188 = .ok (.goto 4, 3) := by decide +kernel
theorem d_Mo_readTable_191 : decode cd_Mo_readTable 191 = .ok (.iconst 0, 1) := by decide +kernel
theorem d_Mo_readTable_192 : decode cd_Mo_readTable 192 = .ok (.istore 5, 2) := by decide +kernel
theorem d_Mo_readTable_194 : decode cd_Mo_readTable 194 = .ok (.iinc 6 1, 3) := by decide +kernel
theorem d_Mo_readTable_197 : decode cd_Mo_readTable 197 = .ok (.goto (-34), 3) := by decide +kernel
theorem d_Mo_readTable_200 : decode cd_Mo_readTable 200 = .ok (.aload_n 0, 1) := by decide +kernel
theorem d_Mo_readTable_201 : decode cd_Mo_readTable 201 = .ok (.iload 5, 2) := by decide +kernel
theorem d_Mo_readTable_203 : decode cd_Mo_readTable 203 = .ok (.ifCond .eq 7, 3) := by decide +kernel
theorem d_Mo_readTable_206 : decode cd_Mo_readTable 206 = .ok (.iconst 0, 1) := by decide +kernel
theorem d_Mo_readTable_207 : decode cd_Mo_readTable 207 = .ok (.goto 5, 3) := by decide +kernel
theorem d_Mo_readTable_210 : decode cd_Mo_readTable 210 = .ok (.bipush (-5), 2) := by decide +kernel
theorem d_Mo_readTable_212 : decode cd_Mo_readTable 212 = .ok (.putfield 345, 3) := by decide +kernel
theorem d_Mo_readTable_215 : decode cd_Mo_readTable 215 = .ok (.aload_n 0, 1) := by decide +kernel
theorem d_Mo_readTable_216 : decode cd_Mo_readTable 216 = .ok (.iconst 1, 1) := by decide +kernel
theorem d_Mo_readTable_217 : decode cd_Mo_readTable 217 = .ok (.invokevirtual 422, 3) := by decide +kernel
theorem d_Mo_readTable_220 : decode cd_Mo_readTable 220 = .ok (.aload_n 0, 1) := by decide +kernel
theorem d_Mo_readTable_221 : decode cd_Mo_readTable 221 = .ok (.iload_n 2, 1) := by decide +kernel
theorem d_Mo_readTable_222 : decode cd_Mo_readTable 222 = .ok (.putfield 351, 3) := by decide +kernel
theorem d_Mo_readTable_225 : decode cd_Mo_readTable 225 = .ok (.iload_n 3, 1) := by decide +kernel
theorem d_Mo_readTable_226 : decode cd_Mo_readTable 226 = .ok (.bipush 16, 2) := by decide +kernel
theorem d_Mo_readTable_228 : decode cd_Mo_readTable 228 = .ok (.iload 4, 2) := by decide +kernel
theorem d_Mo_readTable_230 : decode cd_Mo_readTable 230 = .ok (.imul, 1) := by decide +kernel
theorem d_Mo_readTable_231 : decode cd_Mo_readTable 231 = .ok (.iadd, 1) := by decide +kernel
theorem d_Mo_readTable_232 : decode cd_Mo_readTable 232 = .ok (.ireturn, 1) := by decide +kernel
theorem d_Mo_decode_0 : decode cd_Mo_decode 0 = .ok (.aload_n 0, 1) := by decide +kernel
theorem d_Mo_decode_1 : decode cd_Mo_decode 1 = .ok (.iconst 0, 1) := by decide +kernel
theorem d_Mo_decode_2 : decode cd_Mo_decode 2 = .ok (.putfield 348, 3) := by decide +kernel
theorem d_Mo_decode_5 : decode cd_Mo_decode 5 = .ok (.aload_n 0, 1) := by decide +kernel
theorem d_Mo_decode_6 : decode cd_Mo_decode 6 = .ok (.aload_n 0, 1) := by decide +kernel
theorem d_Mo_decode_7 : decode cd_Mo_decode 7 = .ok (.getfield 81, 3) := by decide +kernel
theorem d_Mo_decode_10 : decode cd_Mo_decode 10 = .ok (.iconst 2, 1) := by decide +kernel
theorem d_Mo_decode_11 : decode cd_Mo_decode 11 = .ok (.iaload, 1) := by decide +kernel
theorem d_Mo_decode_12 : decode cd_Mo_decode 12 = .ok (.putfield 351, 3) := by decide +kernel
theorem d_Mo_decode_15 : decode cd_Mo_decode 15 = .ok (.aload_n 0, 1) := by decide +kernel
theorem d_Mo_decode_16 : decode cd_Mo_decode 16 = .ok (.iconst 0, 1) := by decide +kernel
theorem d_Mo_decode_17 : decode cd_Mo_decode 17 = .ok (.putfield 345, 3) := by decide +kernel
theorem d_Mo_decode_20 : decode cd_Mo_decode 20 = .ok (.aload_n 0, 1) := by decide +kernel
theorem d_Mo_decode_21 : decode cd_Mo_decode 21 = .ok (.invokevirtual 426, 3) := by decide +kernel
theorem d_Mo_decode_24 : decode cd_Mo_decode 24 = .ok (.aload_n 0, 1) := by decide +kernel
theorem d_Mo_decode_25 : decode cd_Mo_decode 25 = .ok (.iconst 0, 1) := by decide +kernel
theorem d_Mo_decode_26 : decode cd_Mo_decode 26 = .ok (.invokevirtual 422, 3) := by decide +kernel
theorem d_Mo_decode_29 : decode cd_Mo_decode 29 = .ok (.aload_n 0, 1) := by decide +kernel
theorem d_Mo_decode_30 : decode cd_Mo_decode 30 = .ok (.invokevirtual 416, 3) := by decide +kernel
theorem d_Mo_decode_33 : decode cd_Mo_decode 33 = .ok (.aload_n 0, 1) := by decide +kernel
theorem d_Mo_decode_34 : decode cd_Mo_decode 34 = .ok (.invokevirtual 357, 3) := by decide +kernel
theorem d_Mo_decode_37 : decode cd_Mo_decode 37 = .ok (.istore_n 1, 1) := by decide +kernel
theorem d_Mo_decode_38 : decode cd_Mo_decode 38 = .ok (.iload_n 1, 1) := by decide +kernel
theorem d_Mo_decode_39 : decode cd_Mo_decode 39 = .ok (.ifCond .eq 25, 3) := by decide +kernel
theorem d_Mo_decode_42 : decode cd_Mo_decode 42 = .ok (.iload_n 1, 1) := by decide +kernel
theorem d_Mo_decode_43 : decode cd_Mo_decode 43 = .ok (.iconst 2, 1) := by decide +kernel
theorem d_Mo_decode_44 : decode cd_Mo_decode 44 = .ok (.if_icmp .eq 20, 3) := by decide +kernel
theorem d_Mo_decode_47 : decode cd_Mo_decode 47 = .ok (.aload_n 0, 1) := by decide +kernel
theorem d_Mo_decode_48 : decode cd_Mo_decode 48 = .ok (.iload_n 1, 1) := by decide +kernel
theorem d_Mo_decode_49 : decode cd_Mo_decode 49 = .ok (.iconst 1, 1) := by decide +kernel
theorem d_Mo_decode_50 : decode cd_Mo_decode 50 = .ok (.iand, 1) := by decide +kernel
theorem d_Mo_decode_51 : decode cd_Mo_decode 51 = .ok (.ifCond .le 8, 3) := by decide +kernel
theorem d_Mo_decode_54 : decode cd_Mo_decode 54 = .ok (.bipush (-3), 2) := by decide +kernel
theorem d_Mo_decode_56 : decode cd_Mo_decode 56 = .ok (.goto 5, 3) := by decide +kernel
theorem d_Mo_decode_59 : decode cd_Mo_decode 59 = .ok (.bipush (-2), 2) := by decide +kernel
theorem d_Mo_decode_61 : decode cd_Mo_decode 61 = .ok (.invokevirtual 354, 3) := by decide +kernel
theorem d_Mo_decode_64 : decode cd_Mo_decode 64 = .ok (.iload_n 1, 1) := by decide +kernel
theorem d_Mo_decode_65 : decode cd_Mo_decode 65 = .ok (.iconst 2, 1) := by decide +kernel
theorem d_Mo_decode_66 : decode cd_Mo_decode 66 = .ok (.if_icmp .ne 17, 3) := by decide +kernel
theorem d_Mo_decode_69 : decode cd_Mo_decode 69 = .ok (.aload_n 0, 1) := by decide +kernel
theorem d_Mo_decode_70 : decode cd_Mo_decode 70 = .ok (.getfield 345, 3) := by decide +kernel
theorem d_Mo_decode_73 : decode cd_Mo_decode 73 = .ok (.ifCond .ne 10, 3) := by decide +kernel
theorem d_Mo_decode_76 : decode cd_Mo_decode 76 = .ok (.aload_n 0, 1) := by decide +kernel
theorem d_Mo_decode_77 : decode cd_Mo_decode 77 = .ok (.invokevirtual 429, 3) := by decide +kernel
theorem d_Mo_decode_80 : decode cd_Mo_decode 80 = .ok (.goto 5, 3) := by decide +kernel
theorem d_Mo_decode_83 : decode cd_Mo_decode 83 = .ok (.bipush 52, 2) := by decide +kernel
theorem d_Mo_decode_85 : decode cd_Mo_decode 85 = .ok (.istore_n 2, 1) := by decide +kernel
theorem d_Mo_decode_86 : decode cd_Mo_decode 86 = .ok (.iconst 0, 1) := by decide +kernel
theorem d_Mo_decode_87 : decode cd_Mo_decode 87 = .ok (.istore_n 3, 1) := by decide +kernel
theorem d_Mo_decode_88 : decode cd_Mo_decode 88 = .ok (.iload_n 3, 1) := by decide +kernel
theorem d_Mo_decode_89 : decode cd_Mo_decode 89 = .ok (.aload_n 0, 1) := by decide +kernel
theorem d_Mo_decode_90 : decode cd_Mo_decode 90 = .ok (.getfield 81, 3) := by decide +kernel
theorem d_Mo_decode_93 : decode cd_Mo_decode 93 = .ok (.iconst 0, 1) := by decide +kernel
theorem d_Mo_decode_94 : decode cd_Mo_decode 94 = .ok (.iaload, 1) := by decide +kernel
theorem d_Mo_decode_95 : decode cd_Mo_decode 95 = .ok (.if_icmp .ge 21, 3) := by decide +kernel
theorem d_Mo_decode_98 : decode cd_Mo_decode 98 = .ok (.aload_n 0, 1) := by decide +kernel
theorem d_Mo_decode_99 : decode cd_Mo_decode 99 = .ok (.getfield 139, 3) := by decide +kernel
theorem d_Mo_decode_102 : decode cd_Mo_decode 102 = .ok (.iload_n 3, 1) := by decide +kernel
theorem d_Mo_decode_103 : decode cd_Mo_decode 103 = .ok (.aload_n 0, 1) := by decide +kernel
theorem d_Mo_decode_104 : decode cd_Mo_decode 104 = .ok (.getfield 77, 3) := by decide +kernel
theorem d_Mo_decode_107 : decode cd_Mo_decode 107 = .ok (.iload_n 3, 1) := by decide +kernel
theorem d_Mo_decode_108 : decode cd_Mo_decode 108 = .ok (.iaload, 1) := by decide +kernel
theorem d_Mo_decode_109 : decode cd_Mo_decode 109 = .ok (.iastore, 1) := by decide +kernel
theorem d_Mo_decode_110 : decode cd_Mo_decode 110 = .ok (.iinc 3 1, 3) := by decide +kernel
theorem d_Mo_decode_113 : decode cd_Mo_decode 113 = .ok (.goto (-25), 3) := by decide +kernel
theorem d_Mo_decode_116 : decode cd_Mo_decode 116 = .ok (.aload_n 0, 1) := by decide +kernel
theorem d_Mo_decode_117 : decode cd_Mo_decode 117 = .ok (.aload_n 0, 1) := by decide +kernel
theorem d_Mo_decode_118 : decode cd_Mo_decode 118 = .ok (.getfield 81, 3) := by decide +kernel
theorem d_Mo_decode_121 : decode cd_Mo_decode 121 = .ok (.iconst 0, 1) := by decide +kernel
theorem d_Mo_decode_122 : decode cd_Mo_decode 122 = .ok (.iaload, 1) := by decide +kernel
theorem d_Mo_decode_123 : decode cd_Mo_decode 123 = .ok (.putfield 364, 3) := by decide +kernel
theorem d_Mo_decode_126 : decode cd_Mo_decode 126 = .ok (.aload_n 0, 1) := by decide +kernel
theorem d_Mo_decode_127 : decode cd_Mo_decode 127 = .ok (.sipush 300, 3) := by decide +kernel
theorem d_Mo_decode_130 : decode cd_Mo_decode 130 = .ok (.putfield 407, 3) := by decide +kernel
theorem d_Mo_decode_133 : decode cd_Mo_decode 133 = .ok (.aload_n 0, 1) := by decide +kernel
theorem d_Mo_decode_134 : decode cd_Mo_decode 134 = .ok (.iload_n 2, 1) := by decide +kernel
theorem d_Mo_decode_135 : decode cd_Mo_decode 135 = .ok (.bipush 16, 2) := by decide +kernel
theorem d_Mo_decode_137 : decode cd_Mo_decode 137 = .ok (.irem, 1) := by decide +kernel
theorem d_Mo_decode_138 : decode cd_Mo_decode 138 = .ok (.iload_n 2, 1) := by decide +kernel
theorem d_Mo_decode_139 : decode cd_Mo_decode 139 = .ok (.bipush 16, 2) := by decide +kernel
theorem d_Mo_decode_141 : decode cd_Mo_decode 141 = .ok (.idiv, 1) := by decide +kernel
theorem d_Mo_decode_142 : decode cd_Mo_decode 142 = .ok (.invokevirtual 419, 3) := by decide +kernel
theorem d_Mo_decode_145 : decode cd_Mo_decode 145 = .ok (.aload_n 0, 1) := by decide +kernel
theorem d_Mo_decode_146 : decode cd_Mo_decode 146 = .ok (.getfield 345, 3) := by decide +kernel
theorem d_Mo_decode_149 : decode cd_Mo_decode 149 = .ok (.ifCond .eq 8, 3) := by decide +kernel
theorem d_Mo_decode_152 : decode cd_Mo_decode 152 = .ok (.aload_n 0, 1) := by decide +kernel
theorem d_Mo_decode_153 : decode cd_Mo_decode 153 = .ok (.getfield 345, 3) := by decide +kernel
theorem d_Mo_decode_156 : decode cd_Mo_decode 156 = .ok (.ireturn, 1) := by decide +kernel
theorem d_Mo_decode_157 : decode cd_Mo_decode 157 = .ok (.iconst 0, 1) := by decide +kernel
theorem d_Mo_decode_158 : decode cd_Mo_decode 158 = .ok (.istore_n 3, 1) := by decide +kernel
theorem d_Mo_decode_159 : decode cd_Mo_decode 159 = .ok (.iload_n 3, 1) := by decide +kernel
theorem d_Mo_decode_160 : decode cd_Mo_decode 160 = .ok (.aload_n 0, 1) := by decide +kernel
theorem d_Mo_decode_161 : decode cd_Mo_decode 161 = .ok (.getfield 386, 3) := by decide +kernel
theorem d_Mo_decode_164 : decode cd_Mo_decode 164 = .ok (.if_icmp .ge 25, 3) := by decide +kernel
theorem d_Mo_decode_167 : decode cd_Mo_decode 167 = .ok (.aload_n 0, 1) := by decide +kernel
theorem d_Mo_decode_168 : decode cd_Mo_decode 168 = .ok (.getfield 77, 3) := by decide +kernel
theorem d_Mo_decode_171 : decode cd_Mo_decode 171 = .ok (.sipush 1300, 3) := by decide +kernel
theorem d_Mo_decode_174 : decode cd_Mo_decode 174 = .ok (.iload_n 3, 1) := by decide +kernel
theorem d_Mo_decode_175 : decode cd_Mo_decode 175 = .ok (.iadd, 1) := by decide +kernel
theorem d_Mo_decode_176 : decode cd_Mo_decode 176 = .ok (.aload_n 0, 1) := by decide +kernel
theorem d_Mo_decode_177 : decode cd_Mo_decode 177 = .ok (.getfield 142, 3) := by decide +kernel
theorem d_Mo_decode_180 : decode cd_Mo_decode 180 = .ok (.iload_n 3, 1) := by decide +kernel
theorem d_Mo_decode_181 : decode cd_Mo_decode 181 = .ok (.iaload, 1) := by decide +kernel
theorem d_Mo_decode_182 : decode cd_Mo_decode 182 = .ok (.iastore, 1) := by decide +kernel
theorem d_Mo_decode_183 : decode cd_Mo_decode 183 = .ok (.iinc 3 1, 3) := by decide +kernel
theorem d_Mo_decode_186 : decode cd_Mo_decode 186 = .ok (.goto (-27), 3) := by decide +kernel
theorem d_Mo_decode_189 : decode cd_Mo_decode 189 = .ok (.aload_n 0, 1) := by decide +kernel
theorem d_Mo_decode_190 : decode cd_Mo_decode 190 = .ok (.getfield 81, 3) := by decide +kernel
theorem d_Mo_decode_193 : decode cd_Mo_decode 193 = .ok (.iconst 3, 1) := by decide +kernel
theorem d_Mo_decode_194 : decode cd_Mo_decode 194 = .ok (.aload_n 0, 1) := by decide +kernel
theorem d_Mo_decode_195 : decode cd_Mo_decode 195 = .ok (.getfield 386, 3) := by decide +kernel
theorem d_Mo_decode_198 : decode cd_Mo_decode 198 = .ok (.iastore, 1) := by decide +kernel
theorem d_Mo_decode_199 : decode cd_Mo_decode 199 = .ok (.aload_n 0, 1) := by decide +kernel
theorem d_Mo_decode_200 : decode cd_Mo_decode 200 = .ok (.getfield 386, 3) := by decide +kernel
theorem d_Mo_decode_203 : decode cd_Mo_decode 203 = .ok (.ireturn, 1) := by decide +kernel
theorem d_Mo_begin_0 : decode cd_Mo_begin 0 = .ok (.iload_n 1, 1) := by decide +kernel
theorem d_Mo_begin_1 : decode cd_Mo_begin 1 = .ok (.iconst 4, 1) := by decide +kernel
theorem d_Mo_begin_2 : decode cd_Mo_begin 2 = .ok (.if_icmp .lt 22, 3) := by decide +kernel
theorem d_Mo_begin_5 : decode cd_Mo_begin 5 = .ok (.iload_n 1, 1) := by decide +kernel
theorem d_Mo_begin_6 : decode cd_Mo_begin 6 = .ok (.bipush 64, 2) := by decide +kernel
theorem d_Mo_begin_8 : decode cd_Mo_begin 8 = .ok (.if_icmp .gt 16, 3) := by decide +kernel
theorem d_Mo_begin_11 : decode cd_Mo_begin 11 = .ok (.iload_n 2, 1) := by decide +kernel
theorem d_Mo_begin_12 : decode cd_Mo_begin 12 = .ok (.bipush 16, 2) := by decide +kernel
theorem d_Mo_begin_14 : decode cd_Mo_begin 14 = .ok (.if_icmp .lt 10, 3) := by decide +kernel
theorem d_Mo_begin_17 : decode cd_Mo_begin 17 = .ok (.iload_n 2, 1) := by decide +kernel
theorem d_Mo_begin_18 : decode cd_Mo_begin 18 = .ok (.sipush 256, 3) := by decide +kernel
theorem d_Mo_begin_21 : decode cd_Mo_begin 21 = .ok (.if_icmp .le 5, 3) := by decide +kernel
theorem d_Mo_begin_24 : decode cd_Mo_begin 24 = .ok (.iconst 0, 1) := by decide +kernel
theorem d_Mo_begin_25 : decode cd_Mo_begin 25 = .ok (.ireturn, 1) := by decide +kernel
theorem d_Mo_begin_26 : decode cd_Mo_begin 26 = .ok (.aload_n 0, 1) := by decide +kernel
theorem d_Mo_begin_27 : decode cd_Mo_begin 27 = .ok (.iload_n 1, 1) := by decide +kernel
theorem d_Mo_begin_28 : decode cd_Mo_begin 28 = .ok (.putfield 151, 3) := by decide +kernel
theorem d_Mo_begin_31 : decode cd_Mo_begin 31 = .ok (.aload_n 0, 1) := by decide +kernel
theorem d_Mo_begin_32 : decode cd_Mo_begin 32 = .ok (.iload_n 2, 1) := by decide +kernel
theorem d_Mo_begin_33 : decode cd_Mo_begin 33 = .ok (.putfield 154, 3) := by decide +kernel
theorem d_Mo_begin_36 : decode cd_Mo_begin 36 = .ok (.aload_n 0, 1) := by decide +kernel
theorem d_Mo_begin_37 : decode cd_Mo_begin 37 = .ok (.iconst 0, 1) := by decide +kernel
theorem d_Mo_begin_38 : decode cd_Mo_begin 38 = .ok (.putfield 432, 3) := by decide +kernel
theorem d_Mo_begin_41 : decode cd_Mo_begin 41 = .ok (.iconst 1, 1) := by decide +kernel
theorem d_Mo_begin_42 : decode cd_Mo_begin 42 = .ok (.ireturn, 1) := by decide +kernel
theorem d_Mo_step_0 : decode cd_Mo_step 0 = .ok (.aload_n 0, 1) := by decide +kernel
theorem d_Mo_step_1 : decode cd_Mo_step 1 = .ok (.getfield 432, 3) := by decide +kernel
theorem d_Mo_step_4 : decode cd_Mo_step 4 = .ok (.ifCond .ne 17, 3) := by decide +kernel
theorem d_Mo_step_7 : decode cd_Mo_step 7 = .ok (.aload_n 0, 1) := by decide +kernel
theorem d_Mo_step_8 : decode cd_Mo_step 8 = .ok (.iconst 1, 1) := by decide +kernel
theorem d_Mo_step_9 : decode cd_Mo_step 9 = .ok (.putfield 432, 3) := by decide +kernel
theorem d_Mo_step_12 : decode cd_Mo_step 12 = .ok (.aload_n 0, 1) := by decide +kernel
theorem d_Mo_step_13 : decode cd_Mo_step 13 = .ok (.aload_n 0, 1) := by decide +kernel
theorem d_Mo_step_14 : decode cd_Mo_step 14 = .ok (.getfield 151, 3) := by decide +kernel
theorem d_Mo_step_17 : decode cd_Mo_step 17 = .ok (.invokevirtual 435, 3) := by decide +kernel
theorem d_Mo_step_20 : decode cd_Mo_step 20 = .ok (.ireturn, 1) := by decide +kernel
theorem d_Mo_step_21 : decode cd_Mo_step 21 = .ok (.aload_n 0, 1) := by decide +kernel
theorem d_Mo_step_22 : decode cd_Mo_step 22 = .ok (.getfield 432, 3) := by decide +kernel
theorem d_Mo_step_25 : decode cd_Mo_step 25 = .ok (.iconst 1, 1) := by decide +kernel
theorem d_Mo_step_26 : decode cd_Mo_step 26 = .ok (.if_icmp .ne 66, 3) := by decide +kernel
theorem d_Mo_step_29 : decode cd_Mo_step 29 = .ok (.aload_n 0, 1) := by decide +kernel
theorem d_Mo_step_30 : decode cd_Mo_step 30 = .ok (.aload_n 0, 1) := by decide +kernel
theorem d_Mo_step_31 : decode cd_Mo_step 31 = .ok (.getfield 154, 3) := by decide +kernel
theorem d_Mo_step_34 : decode cd_Mo_step 34 = .ok (.invokevirtual 438, 3) := by decide +kernel
theorem d_Mo_step_37 : decode cd_Mo_step 37 = .ok (.istore_n 1, 1) := by decide +kernel
theorem d_Mo_step_38 : decode cd_Mo_step 38 = .ok (.aload_n 0, 1) := by decide +kernel
theorem d_Mo_step_39 : decode cd_Mo_step 39 = .ok (.iconst 1, 1) := by decide +kernel
theorem d_Mo_step_40 : decode cd_Mo_step 40 = .ok (.invokevirtual 441, 3) := by decide +kernel
theorem d_Mo_step_43 : decode cd_Mo_step 43 = .ok (.istore_n 2, 1) := by decide +kernel
theorem d_Mo_step_44 : decode cd_Mo_step 44 = .ok (.aload_n 0, 1) := by decide +kernel
theorem d_Mo_step_45 : decode cd_Mo_step 45 = .ok (.iload_n 2, 1) := by decide +kernel
theorem d_Mo_step_46 : decode cd_Mo_step 46 = .ok (.ifCond .lt 7, 3) := by decide +kernel
theorem d_Mo_step_49 : decode cd_Mo_step 49 = .ok (.iload_n 1, 1) := by decide +kernel
theorem d_Mo_step_50 : decode cd_Mo_step 50 = .ok (.ifCond .ge 7, 3) := by decide +kernel
theorem d_Mo_step_53 : decode cd_Mo_step 53 = .ok (.iconst 0, 1) := by decide +kernel
theorem d_Mo_step_54 : decode cd_Mo_step 54 = .ok (.goto 4, 3) := by decide +kernel
theorem d_Mo_step_57 : decode cd_Mo_step 57 = .ok (.iconst 2, 1) := by decide +kernel
theorem d_Mo_step_58 : decode cd_Mo_step 58 = .ok (.putfield 432, 3) := by decide +kernel
theorem d_Mo_step_61 : decode cd_Mo_step 61 = .ok (.aload_n 0, 1) := by decide +kernel
theorem d_Mo_step_62 : decode cd_Mo_step 62 = .ok (.sipush 300, 3) := by decide +kernel
theorem d_Mo_step_65 : decode cd_Mo_step 65 = .ok (.aload_n 0, 1) := by decide +kernel
theorem d_Mo_step_66 : decode cd_Mo_step 66 = .ok (.getfield 81, 3) := by decide +kernel
theorem d_Mo_step_69 : decode cd_Mo_step 69 = .ok (.iconst 1, 1) := by decide +kernel
theorem d_Mo_step_70 : decode cd_Mo_step 70 = .ok (.iaload, 1) := by decide +kernel
theorem d_Mo_step_71 : decode cd_Mo_step 71 = .ok (.invokevirtual 227, 3) := by decide +kernel
theorem d_Mo_step_74 : decode cd_Mo_step 74 = .ok (.aload_n 0, 1) := by decide +kernel
theorem d_Mo_step_75 : decode cd_Mo_step 75 = .ok (.aload_n 0, 1) := by decide +kernel
theorem d_Mo_step_76 : decode cd_Mo_step 76 = .ok (.getfield 220, 3) := by decide +kernel
theorem d_Mo_step_79 : decode cd_Mo_step 79 = .ok (.putfield 445, 3) := by decide +kernel
theorem d_Mo_step_82 : decode cd_Mo_step 82 = .ok (.aload_n 0, 1) := by decide +kernel
theorem d_Mo_step_83 : decode cd_Mo_step 83 = .ok (.aload_n 0, 1) := by decide +kernel
theorem d_Mo_step_84 : decode cd_Mo_step 84 = .ok (.getfield 224, 3) := by decide +kernel
theorem d_Mo_step_87 : decode cd_Mo_step 87 = .ok (.putfield 448, 3) := by decide +kernel
theorem d_Mo_step_90 : decode cd_Mo_step 90 = .ok (.iload_n 2, 1) := by decide +kernel
theorem d_Mo_step_91 : decode cd_Mo_step 91 = .ok (.ireturn, 1) := by decide +kernel
theorem d_Mo_step_92 : decode cd_Mo_step 92 = .ok (.aload_n 0, 1) := by decide +kernel
theorem d_Mo_step_93 : decode cd_Mo_step 93 = .ok (.iconst 0, 1) := by decide +kernel
theorem d_Mo_step_94 : decode cd_Mo_step 94 = .ok (.putfield 432, 3) := by decide +kernel
theorem d_Mo_step_97 : decode cd_Mo_step 97 = .ok (.aload_n 0, 1) := by decide +kernel
theorem d_Mo_step_98 : decode cd_Mo_step 98 = .ok (.invokevirtual 451, 3) := by decide +kernel
theorem d_Mo_step_101 : decode cd_Mo_step 101 = .ok (.istore_n 1, 1) := by decide +kernel
theorem d_Mo_step_102 : decode cd_Mo_step 102 = .ok (.iload_n 1, 1) := by decide +kernel
theorem d_Mo_step_103 : decode cd_Mo_step 103 = .ok (.ifCond .ge 5, 3) := by decide +kernel
theorem d_Mo_step_106 : decode cd_Mo_step 106 = .ok (.iload_n 1, 1) := by decide +kernel
theorem d_Mo_step_107 : decode cd_Mo_step 107 = .ok (.ireturn, 1) := by decide +kernel
theorem d_Mo_step_108 : decode cd_Mo_step 108 = .ok (.aload_n 0, 1) := by decide +kernel
theorem d_Mo_step_109 : decode cd_Mo_step 109 = .ok (.sipush 1300, 3) := by decide +kernel
theorem d_Mo_step_112 : decode cd_Mo_step 112 = .ok (.aload_n 0, 1) := by decide +kernel
theorem d_Mo_step_113 : decode cd_Mo_step 113 = .ok (.getfield 81, 3) := by decide +kernel
theorem d_Mo_step_116 : decode cd_Mo_step 116 = .ok (.iconst 3, 1) := by decide +kernel
theorem d_Mo_step_117 : decode cd_Mo_step 117 = .ok (.iaload, 1) := by decide +kernel
theorem d_Mo_step_118 : decode cd_Mo_step 118 = .ok (.invokevirtual 227, 3) := by decide +kernel
theorem d_Mo_step_121 : decode cd_Mo_step 121 = .ok (.aload_n 0, 1) := by decide +kernel
theorem d_Mo_step_122 : decode cd_Mo_step 122 = .ok (.getfield 220, 3) := by decide +kernel
theorem d_Mo_step_125 : decode cd_Mo_step 125 = .ok (.aload_n 0, 1) := by decide +kernel
theorem d_Mo_step_126 : decode cd_Mo_step 126 = .ok (.getfield 445, 3) := by decide +kernel
theorem d_Mo_step_129 : decode cd_Mo_step 129 = .ok (.lcmp, 1) := by decide +kernel
theorem d_Mo_step_130 : decode cd_Mo_step 130 = .ok (.ifCond .ne 19, 3) := by decide +kernel
theorem d_Mo_step_133 : decode cd_Mo_step 133 = .ok (.aload_n 0, 1) := by decide +kernel
theorem d_Mo_step_134 : decode cd_Mo_step 134 = .ok (.getfield 224, 3) := by decide +kernel
theorem d_Mo_step_137 : decode cd_Mo_step 137 = .ok (.aload_n 0, 1) := by decide +kernel
theorem d_Mo_step_138 : decode cd_Mo_step 138 = .ok (.getfield 448, 3) := by decide +kernel
theorem d_Mo_step_141 : decode cd_Mo_step 141 = .ok (.lcmp, 1) := by decide +kernel
theorem d_Mo_step_142 : decode cd_Mo_step 142 = .ok (.ifCond .ne 7, 3) := by decide +kernel
theorem d_Mo_step_145 : decode cd_Mo_step 145 = .ok (.iload_n 1, 1) := by decide +kernel
theorem d_Mo_step_146 : decode cd_Mo_step 146 = .ok (.goto 5, 3) := by decide +kernel
theorem d_Mo_step_149 : decode cd_Mo_step 149 = .ok (.bipush (-7), 2) := by decide +kernel
theorem d_Mo_step_151 : decode cd_Mo_step 151 = .ok (.ireturn, 1) := by decide +kernel

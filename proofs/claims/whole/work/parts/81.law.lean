/-! the law: its instructions, rules of its frame, what holds at its entry; printed by wip/tools/m_law1.py -/
theorem d_La_law_0 : decode code 0 = .ok (.new 7, 3) := by decide +kernel
theorem d_La_law_3 : decode code 3 = .ok (.dup, 1) := by decide +kernel
theorem d_La_law_4 : decode code 4 = .ok (.invokespecial 9, 3) := by decide +kernel
theorem d_La_law_7 : decode code 7 = .ok (.astore_n 1, 1) := by decide +kernel
theorem d_La_law_8 : decode code 8 = .ok (.new 10, 3) := by decide +kernel
theorem d_La_law_11 : decode code 11 = .ok (.dup, 1) := by decide +kernel
theorem d_La_law_12 : decode code 12 = .ok (.invokespecial 12, 3) := by decide +kernel
theorem d_La_law_15 : decode code 15 = .ok (.astore_n 2, 1) := by decide +kernel
theorem d_La_law_16 : decode code 16 = .ok (.iconst 0, 1) := by decide +kernel
theorem d_La_law_17 : decode code 17 = .ok (.istore_n 3, 1) := by decide +kernel
theorem d_La_law_18 : decode code 18 = .ok (.iload_n 3, 1) := by decide +kernel
theorem d_La_law_19 : decode code 19 = .ok (.aload_n 0, 1) := by decide +kernel
theorem d_La_law_20 : decode code 20 = .ok (.arraylength, 1) := by decide +kernel
theorem d_La_law_21 : decode code 21 = .ok (.iconst 5, 1) := by decide +kernel
theorem d_La_law_22 : decode code 22 = .ok (.isub, 1) := by decide +kernel
theorem d_La_law_23 : decode code 23 = .ok (.if_icmp .gt 611, 3) := by decide +kernel
theorem d_La_law_26 : decode code 26 = .ok (.aload_n 0, 1) := by decide +kernel
theorem d_La_law_27 : decode code 27 = .ok (.iload_n 3, 1) := by decide +kernel
theorem d_La_law_28 : decode code 28 = .ok (.iaload, 1) := by decide +kernel
theorem d_La_law_29 : decode code 29 = .ok (.bipush 15, 2) := by decide +kernel
theorem d_La_law_31 : decode code 31 = .ok (.iand, 1) := by decide +kernel
theorem d_La_law_32 : decode code 32 = .ok (.tableswitch 596 0 15 #[80, 153, 196, 229, 252, 275, 308, 342, 386, 409, 432, 465, 498, 537, 550, 583], 80) := by decide +kernel
theorem d_La_law_112 : decode code 112 = .ok (.aload_n 1, 1) := by decide +kernel
theorem d_La_law_113 : decode code 113 = .ok (.aload_n 0, 1) := by decide +kernel
theorem d_La_law_114 : decode code 114 = .ok (.iload_n 3, 1) := by decide +kernel
theorem d_La_law_115 : decode code 115 = .ok (.iconst 1, 1) := by decide +kernel
theorem d_La_law_116 : decode code 116 = .ok (.iadd, 1) := by decide +kernel
theorem d_La_law_117 : decode code 117 = .ok (.iaload, 1) := by decide +kernel
theorem d_La_law_118 : decode code 118 = .ok (.aload_n 0, 1) := by decide +kernel
theorem d_La_law_119 : decode code 119 = .ok (.iload_n 3, 1) := by decide +kernel
theorem d_La_law_120 : decode code 120 = .ok (.iconst 2, 1) := by decide +kernel
theorem d_La_law_121 : decode code 121 = .ok (.iadd, 1) := by decide +kernel
theorem d_La_law_122 : decode code 122 = .ok (.iaload, 1) := by decide +kernel
theorem d_La_law_123 : decode code 123 = .ok (.i2l, 1) := by decide +kernel
theorem d_La_law_124 : decode code 124 = .ok (.bipush 32, 2) := by decide +kernel
theorem d_La_law_126 : decode code 126 = .ok (.lshl, 1) := by decide +kernel
theorem d_La_law_127 : decode code 127 = .ok (.aload_n 0, 1) := by decide +kernel
theorem d_La_law_128 : decode code 128 = .ok (.iload_n 3, 1) := by decide +kernel
theorem d_La_law_129 : decode code 129 = .ok (.iconst 3, 1) := by decide +kernel
theorem d_La_law_130 : decode code 130 = .ok (.iadd, 1) := by decide +kernel
theorem d_La_law_131 : decode code 131 = .ok (.iaload, 1) := by decide +kernel
theorem d_La_law_132 : decode code 132 = .ok (.i2l, 1) := by decide +kernel
theorem d_La_law_133 : decode code 133 = .ok (.ldc2_w 13, 3) := by decide +kernel
theorem d_La_law_136 : decode code 136 = .ok (.land, 1) := by decide +kernel
theorem d_La_law_137 : decode code 137 = .ok (.lor, 1) := by decide +kernel
theorem d_La_law_138 : decode code 138 = .ok (.aload_n 0, 1) := by decide +kernel
theorem d_La_law_139 : decode code 139 = .ok (.iload_n 3, 1) := by decide +kernel
theorem d_La_law_140 : decode code 140 = .ok (.iconst 4, 1) := by decide +kernel
theorem d_La_law_141 : decode code 141 = .ok (.iadd, 1) := by decide +kernel
theorem d_La_law_142 : decode code 142 = .ok (.iaload, 1) := by decide +kernel
theorem d_La_law_143 : decode code 143 = .ok (.invokevirtual 15, 3) := by decide +kernel
theorem d_La_law_146 : decode code 146 = .ok (.aload_n 2, 1) := by decide +kernel
theorem d_La_law_147 : decode code 147 = .ok (.aload_n 0, 1) := by decide +kernel
theorem d_La_law_148 : decode code 148 = .ok (.iload_n 3, 1) := by decide +kernel
theorem d_La_law_149 : decode code 149 = .ok (.iconst 1, 1) := by decide +kernel
theorem d_La_law_150 : decode code 150 = .ok (.iadd, 1) := by decide +kernel
theorem d_La_law_151 : decode code 151 = .ok (.iaload, 1) := by decide +kernel
theorem d_La_law_152 : decode code 152 = .ok (.aload_n 0, 1) := by decide +kernel
theorem d_La_law_153 : decode code 153 = .ok (.iload_n 3, 1) := by decide +kernel
theorem d_La_law_154 : decode code 154 = .ok (.iconst 2, 1) := by decide +kernel
theorem d_La_law_155 : decode code 155 = .ok (.iadd, 1) := by decide +kernel
theorem d_La_law_156 : decode code 156 = .ok (.iaload, 1) := by decide +kernel
theorem d_La_law_157 : decode code 157 = .ok (.i2l, 1) := by decide +kernel
theorem d_La_law_158 : decode code 158 = .ok (.bipush 32, 2) := by decide +kernel
theorem d_La_law_160 : decode code 160 = .ok (.lshl, 1) := by decide +kernel
theorem d_La_law_161 : decode code 161 = .ok (.aload_n 0, 1) := by decide +kernel
theorem d_La_law_162 : decode code 162 = .ok (.iload_n 3, 1) := by decide +kernel
theorem d_La_law_163 : decode code 163 = .ok (.iconst 3, 1) := by decide +kernel
theorem d_La_law_164 : decode code 164 = .ok (.iadd, 1) := by decide +kernel
theorem d_La_law_165 : decode code 165 = .ok (.iaload, 1) := by decide +kernel
theorem d_La_law_166 : decode code 166 = .ok (.i2l, 1) := by decide +kernel
theorem d_La_law_167 : decode code 167 = .ok (.ldc2_w 13, 3) := by decide +kernel
theorem d_La_law_170 : decode code 170 = .ok (.land, 1) := by decide +kernel
theorem d_La_law_171 : decode code 171 = .ok (.lor, 1) := by decide +kernel
theorem d_La_law_172 : decode code 172 = .ok (.aload_n 0, 1) := by decide +kernel
theorem d_La_law_173 : decode code 173 = .ok (.iload_n 3, 1) := by decide +kernel
theorem d_La_law_174 : decode code 174 = .ok (.iconst 4, 1) := by decide +kernel
theorem d_La_law_175 : decode code 175 = .ok (.iadd, 1) := by decide +kernel
theorem d_La_law_176 : decode code 176 = .ok (.iaload, 1) := by decide +kernel
theorem d_La_law_177 : decode code 177 = .ok (.invokevirtual 19, 3) := by decide +kernel
theorem d_La_law_180 : decode code 180 = .ok (.if_icmp .eq 448, 3) := by decide +kernel
theorem d_La_law_183 : decode code 183 = .ok (.iconst 0, 1) := by decide +kernel
theorem d_La_law_184 : decode code 184 = .ok (.ireturn, 1) := by decide +kernel
theorem d_La_law_185 : decode code 185 = .ok (.aload_n 1, 1) := by decide +kernel
theorem d_La_law_186 : decode code 186 = .ok (.aload_n 0, 1) := by decide +kernel
theorem d_La_law_187 : decode code 187 = .ok (.iload_n 3, 1) := by decide +kernel
theorem d_La_law_188 : decode code 188 = .ok (.iconst 1, 1) := by decide +kernel
theorem d_La_law_189 : decode code 189 = .ok (.iadd, 1) := by decide +kernel
theorem d_La_law_190 : decode code 190 = .ok (.iaload, 1) := by decide +kernel
theorem d_La_law_191 : decode code 191 = .ok (.aload_n 0, 1) := by decide +kernel
theorem d_La_law_192 : decode code 192 = .ok (.iload_n 3, 1) := by decide +kernel
theorem d_La_law_193 : decode code 193 = .ok (.iconst 2, 1) := by decide +kernel
theorem d_La_law_194 : decode code 194 = .ok (.iadd, 1) := by decide +kernel
theorem d_La_law_195 : decode code 195 = .ok (.iaload, 1) := by decide +kernel
theorem d_La_law_196 : decode code 196 = .ok (.aload_n 0, 1) := by decide +kernel
theorem d_La_law_197 : decode code 197 = .ok (.iload_n 3, 1) := by decide +kernel
theorem d_La_law_198 : decode code 198 = .ok (.iconst 3, 1) := by decide +kernel
theorem d_La_law_199 : decode code 199 = .ok (.iadd, 1) := by decide +kernel
theorem d_La_law_200 : decode code 200 = .ok (.iaload, 1) := by decide +kernel
theorem d_La_law_201 : decode code 201 = .ok (.invokevirtual 20, 3) := by decide +kernel
theorem d_La_law_204 : decode code 204 = .ok (.aload_n 2, 1) := by decide +kernel
theorem d_La_law_205 : decode code 205 = .ok (.aload_n 0, 1) := by decide +kernel
theorem d_La_law_206 : decode code 206 = .ok (.iload_n 3, 1) := by decide +kernel
theorem d_La_law_207 : decode code 207 = .ok (.iconst 1, 1) := by decide +kernel
theorem d_La_law_208 : decode code 208 = .ok (.iadd, 1) := by decide +kernel
theorem d_La_law_209 : decode code 209 = .ok (.iaload, 1) := by decide +kernel
theorem d_La_law_210 : decode code 210 = .ok (.aload_n 0, 1) := by decide +kernel
theorem d_La_law_211 : decode code 211 = .ok (.iload_n 3, 1) := by decide +kernel
theorem d_La_law_212 : decode code 212 = .ok (.iconst 2, 1) := by decide +kernel
theorem d_La_law_213 : decode code 213 = .ok (.iadd, 1) := by decide +kernel
theorem d_La_law_214 : decode code 214 = .ok (.iaload, 1) := by decide +kernel
theorem d_La_law_215 : decode code 215 = .ok (.aload_n 0, 1) := by decide +kernel
theorem d_La_law_216 : decode code 216 = .ok (.iload_n 3, 1) := by decide +kernel
theorem d_La_law_217 : decode code 217 = .ok (.iconst 3, 1) := by decide +kernel
theorem d_La_law_218 : decode code 218 = .ok (.iadd, 1) := by decide +kernel
theorem d_La_law_219 : decode code 219 = .ok (.iaload, 1) := by decide +kernel
theorem d_La_law_220 : decode code 220 = .ok (.invokevirtual 24, 3) := by decide +kernel
theorem d_La_law_223 : decode code 223 = .ok (.if_icmp .eq 405, 3) := by decide +kernel
theorem d_La_law_226 : decode code 226 = .ok (.iconst 0, 1) := by decide +kernel
theorem d_La_law_227 : decode code 227 = .ok (.ireturn, 1) := by decide +kernel
theorem d_La_law_228 : decode code 228 = .ok (.aload_n 1, 1) := by decide +kernel
theorem d_La_law_229 : decode code 229 = .ok (.aload_n 0, 1) := by decide +kernel
theorem d_La_law_230 : decode code 230 = .ok (.iload_n 3, 1) := by decide +kernel
theorem d_La_law_231 : decode code 231 = .ok (.iconst 1, 1) := by decide +kernel
theorem d_La_law_232 : decode code 232 = .ok (.iadd, 1) := by decide +kernel
theorem d_La_law_233 : decode code 233 = .ok (.iaload, 1) := by decide +kernel
theorem d_La_law_234 : decode code 234 = .ok (.aload_n 0, 1) := by decide +kernel
theorem d_La_law_235 : decode code 235 = .ok (.iload_n 3, 1) := by decide +kernel
theorem d_La_law_236 : decode code 236 = .ok (.iconst 2, 1) := by decide +kernel
theorem d_La_law_237 : decode code 237 = .ok (.iadd, 1) := by decide +kernel
theorem d_La_law_238 : decode code 238 = .ok (.iaload, 1) := by decide +kernel
theorem d_La_law_239 : decode code 239 = .ok (.invokevirtual 25, 3) := by decide +kernel
theorem d_La_law_242 : decode code 242 = .ok (.aload_n 2, 1) := by decide +kernel
theorem d_La_law_243 : decode code 243 = .ok (.aload_n 0, 1) := by decide +kernel
theorem d_La_law_244 : decode code 244 = .ok (.iload_n 3, 1) := by decide +kernel
theorem d_La_law_245 : decode code 245 = .ok (.iconst 1, 1) := by decide +kernel
theorem d_La_law_246 : decode code 246 = .ok (.iadd, 1) := by decide +kernel
theorem d_La_law_247 : decode code 247 = .ok (.iaload, 1) := by decide +kernel
theorem d_La_law_248 : decode code 248 = .ok (.aload_n 0, 1) := by decide +kernel
theorem d_La_law_249 : decode code 249 = .ok (.iload_n 3, 1) := by decide +kernel
theorem d_La_law_250 : decode code 250 = .ok (.iconst 2, 1) := by decide +kernel
theorem d_La_law_251 : decode code 251 = .ok (.iadd, 1) := by decide +kernel
theorem d_La_law_252 : decode code 252 = .ok (.iaload, 1) := by decide +kernel
theorem d_La_law_253 : decode code 253 = .ok (.invokevirtual 29, 3) := by decide +kernel
theorem d_La_law_256 : decode code 256 = .ok (.if_icmp .eq 372, 3) := by decide +kernel
theorem d_La_law_259 : decode code 259 = .ok (.iconst 0, 1) := by decide +kernel
theorem d_La_law_260 : decode code 260 = .ok (.ireturn, 1) := by decide +kernel
theorem d_La_law_261 : decode code 261 = .ok (.aload_n 1, 1) := by decide +kernel
theorem d_La_law_262 : decode code 262 = .ok (.aload_n 0, 1) := by decide +kernel
theorem d_La_law_263 : decode code 263 = .ok (.iload_n 3, 1) := by decide +kernel
theorem d_La_law_264 : decode code 264 = .ok (.iconst 1, 1) := by decide +kernel
theorem d_La_law_265 : decode code 265 = .ok (.iadd, 1) := by decide +kernel
theorem d_La_law_266 : decode code 266 = .ok (.iaload, 1) := by decide +kernel
theorem d_La_law_267 : decode code 267 = .ok (.invokevirtual 30, 3) := by decide +kernel
theorem d_La_law_270 : decode code 270 = .ok (.aload_n 2, 1) := by decide +kernel
theorem d_La_law_271 : decode code 271 = .ok (.aload_n 0, 1) := by decide +kernel
theorem d_La_law_272 : decode code 272 = .ok (.iload_n 3, 1) := by decide +kernel
theorem d_La_law_273 : decode code 273 = .ok (.iconst 1, 1) := by decide +kernel
theorem d_La_law_274 : decode code 274 = .ok (.iadd, 1) := by decide +kernel
theorem d_La_law_275 : decode code 275 = .ok (.iaload, 1) := by decide +kernel
theorem d_La_law_276 : decode code 276 = .ok (.invokevirtual 34, 3) := by decide +kernel
theorem d_La_law_279 : decode code 279 = .ok (.if_icmp .eq 349, 3) := by decide +kernel
theorem d_La_law_282 : decode code 282 = .ok (.iconst 0, 1) := by decide +kernel
theorem d_La_law_283 : decode code 283 = .ok (.ireturn, 1) := by decide +kernel
theorem d_La_law_284 : decode code 284 = .ok (.aload_n 1, 1) := by decide +kernel
theorem d_La_law_285 : decode code 285 = .ok (.aload_n 0, 1) := by decide +kernel
theorem d_La_law_286 : decode code 286 = .ok (.iload_n 3, 1) := by decide +kernel
theorem d_La_law_287 : decode code 287 = .ok (.iconst 1, 1) := by decide +kernel
theorem d_La_law_288 : decode code 288 = .ok (.iadd, 1) := by decide +kernel
theorem d_La_law_289 : decode code 289 = .ok (.iaload, 1) := by decide +kernel
theorem d_La_law_290 : decode code 290 = .ok (.invokevirtual 35, 3) := by decide +kernel
theorem d_La_law_293 : decode code 293 = .ok (.aload_n 2, 1) := by decide +kernel
theorem d_La_law_294 : decode code 294 = .ok (.aload_n 0, 1) := by decide +kernel
theorem d_La_law_295 : decode code 295 = .ok (.iload_n 3, 1) := by decide +kernel
theorem d_La_law_296 : decode code 296 = .ok (.iconst 1, 1) := by decide +kernel
theorem d_La_law_297 : decode code 297 = .ok (.iadd, 1) := by decide +kernel
theorem d_La_law_298 : decode code 298 = .ok (.iaload, 1) := by decide +kernel
theorem d_La_law_299 : decode code 299 = .ok (.invokevirtual 38, 3) := by decide +kernel
theorem d_La_law_302 : decode code 302 = .ok (.if_icmp .eq 326, 3) := by decide +kernel
theorem d_La_law_305 : decode code 305 = .ok (.iconst 0, 1) := by decide +kernel
theorem d_La_law_306 : decode code 306 = .ok (.ireturn, 1) := by decide +kernel
theorem d_La_law_307 : decode code 307 = .ok (.aload_n 1, 1) := by decide +kernel
theorem d_La_law_308 : decode code 308 = .ok (.aload_n 0, 1) := by decide +kernel
theorem d_La_law_309 : decode code 309 = .ok (.iload_n 3, 1) := by decide +kernel
theorem d_La_law_310 : decode code 310 = .ok (.iconst 1, 1) := by decide +kernel
theorem d_La_law_311 : decode code 311 = .ok (.iadd, 1) := by decide +kernel
theorem d_La_law_312 : decode code 312 = .ok (.iaload, 1) := by decide +kernel
theorem d_La_law_313 : decode code 313 = .ok (.aload_n 0, 1) := by decide +kernel
theorem d_La_law_314 : decode code 314 = .ok (.iload_n 3, 1) := by decide +kernel
theorem d_La_law_315 : decode code 315 = .ok (.iconst 2, 1) := by decide +kernel
theorem d_La_law_316 : decode code 316 = .ok (.iadd, 1) := by decide +kernel
theorem d_La_law_317 : decode code 317 = .ok (.iaload, 1) := by decide +kernel
theorem d_La_law_318 : decode code 318 = .ok (.invokevirtual 39, 3) := by decide +kernel
theorem d_La_law_321 : decode code 321 = .ok (.aload_n 2, 1) := by decide +kernel
theorem d_La_law_322 : decode code 322 = .ok (.aload_n 0, 1) := by decide +kernel
theorem d_La_law_323 : decode code 323 = .ok (.iload_n 3, 1) := by decide +kernel
theorem d_La_law_324 : decode code 324 = .ok (.iconst 1, 1) := by decide +kernel
theorem d_La_law_325 : decode code 325 = .ok (.iadd, 1) := by decide +kernel
theorem d_La_law_326 : decode code 326 = .ok (.iaload, 1) := by decide +kernel
theorem d_La_law_327 : decode code 327 = .ok (.aload_n 0, 1) := by decide +kernel
theorem d_La_law_328 : decode code 328 = .ok (.iload_n 3, 1) := by decide +kernel
theorem d_La_law_329 : decode code 329 = .ok (.iconst 2, 1) := by decide +kernel
theorem d_La_law_330 : decode code 330 = .ok (.iadd, 1) := by decide +kernel
theorem d_La_law_331 : decode code 331 = .ok (.iaload, 1) := by decide +kernel
theorem d_La_law_332 : decode code 332 = .ok (.invokevirtual 43, 3) := by decide +kernel
theorem d_La_law_335 : decode code 335 = .ok (.if_icmp .eq 293, 3) := by decide +kernel
theorem d_La_law_338 : decode code 338 = .ok (.iconst 0, 1) := by decide +kernel
theorem d_La_law_339 : decode code 339 = .ok (.ireturn, 1) := by decide +kernel
theorem d_La_law_340 : decode code 340 = .ok (.aload_n 1, 1) := by decide +kernel
theorem d_La_law_341 : decode code 341 = .ok (.aload_n 0, 1) := by decide +kernel
theorem d_La_law_342 : decode code 342 = .ok (.iload_n 3, 1) := by decide +kernel
theorem d_La_law_343 : decode code 343 = .ok (.iconst 1, 1) := by decide +kernel
theorem d_La_law_344 : decode code 344 = .ok (.iadd, 1) := by decide +kernel
theorem d_La_law_345 : decode code 345 = .ok (.iaload, 1) := by decide +kernel
theorem d_La_law_346 : decode code 346 = .ok (.aload_n 0, 1) := by decide +kernel
theorem d_La_law_347 : decode code 347 = .ok (.iload_n 3, 1) := by decide +kernel
theorem d_La_law_348 : decode code 348 = .ok (.iconst 2, 1) := by decide +kernel
theorem d_La_law_349 : decode code 349 = .ok (.iadd, 1) := by decide +kernel
theorem d_La_law_350 : decode code 350 = .ok (.iaload, 1) := by decide +kernel
theorem d_La_law_351 : decode code 351 = .ok (.invokevirtual 44, 3) := by decide +kernel
theorem d_La_law_354 : decode code 354 = .ok (.aload_n 2, 1) := by decide +kernel
theorem d_La_law_355 : decode code 355 = .ok (.aload_n 0, 1) := by decide +kernel
theorem d_La_law_356 : decode code 356 = .ok (.iload_n 3, 1) := by decide +kernel
theorem d_La_law_357 : decode code 357 = .ok (.iconst 1, 1) := by decide +kernel
theorem d_La_law_358 : decode code 358 = .ok (.iadd, 1) := by decide +kernel
theorem d_La_law_359 : decode code 359 = .ok (.iaload, 1) := by decide +kernel
theorem d_La_law_360 : decode code 360 = .ok (.aload_n 0, 1) := by decide +kernel
theorem d_La_law_361 : decode code 361 = .ok (.iload_n 3, 1) := by decide +kernel
theorem d_La_law_362 : decode code 362 = .ok (.iconst 2, 1) := by decide +kernel
theorem d_La_law_363 : decode code 363 = .ok (.iadd, 1) := by decide +kernel
theorem d_La_law_364 : decode code 364 = .ok (.iaload, 1) := by decide +kernel
theorem d_La_law_365 : decode code 365 = .ok (.invokevirtual 48, 3) := by decide +kernel
theorem d_La_law_368 : decode code 368 = .ok (.lcmp, 1) := by decide +kernel
theorem d_La_law_369 : decode code 369 = .ok (.ifCond .eq 259, 3) := by decide +kernel
theorem d_La_law_372 : decode code 372 = .ok (.iconst 0, 1) := by decide +kernel
theorem d_La_law_373 : decode code 373 = .ok (.ireturn, 1) := by decide +kernel
theorem d_La_law_374 : decode code 374 = .ok (.aload_n 1, 1) := by decide +kernel
theorem d_La_law_375 : decode code 375 = .ok (.aload_n 0, 1) := by decide +kernel
theorem d_La_law_376 : decode code 376 = .ok (.iload_n 3, 1) := by decide +kernel
theorem d_La_law_377 : decode code 377 = .ok (.iconst 1, 1) := by decide +kernel
theorem d_La_law_378 : decode code 378 = .ok (.iadd, 1) := by decide +kernel
theorem d_La_law_379 : decode code 379 = .ok (.iaload, 1) := by decide +kernel
theorem d_La_law_380 : decode code 380 = .ok (.aload_n 0, 1) := by decide +kernel
theorem d_La_law_381 : decode code 381 = .ok (.iload_n 3, 1) := by decide +kernel
theorem d_La_law_382 : decode code 382 = .ok (.iconst 2, 1) := by decide +kernel
theorem d_La_law_383 : decode code 383 = .ok (.iadd, 1) := by decide +kernel
theorem d_La_law_384 : decode code 384 = .ok (.iaload, 1) := by decide +kernel
theorem d_La_law_385 : decode code 385 = .ok (.aload_n 0, 1) := by decide +kernel
theorem d_La_law_386 : decode code 386 = .ok (.iload_n 3, 1) := by decide +kernel
theorem d_La_law_387 : decode code 387 = .ok (.iconst 3, 1) := by decide +kernel
theorem d_La_law_388 : decode code 388 = .ok (.iadd, 1) := by decide +kernel
theorem d_La_law_389 : decode code 389 = .ok (.iaload, 1) := by decide +kernel
theorem d_La_law_390 : decode code 390 = .ok (.invokevirtual 49, 3) := by decide +kernel
theorem d_La_law_393 : decode code 393 = .ok (.aload_n 2, 1) := by decide +kernel
theorem d_La_law_394 : decode code 394 = .ok (.aload_n 0, 1) := by decide +kernel
theorem d_La_law_395 : decode code 395 = .ok (.iload_n 3, 1) := by decide +kernel
theorem d_La_law_396 : decode code 396 = .ok (.iconst 1, 1) := by decide +kernel
theorem d_La_law_397 : decode code 397 = .ok (.iadd, 1) := by decide +kernel
theorem d_La_law_398 : decode code 398 = .ok (.iaload, 1) := by decide +kernel
theorem d_La_law_399 : decode code 399 = .ok (.aload_n 0, 1) := by decide +kernel
theorem d_La_law_400 : decode code 400 = .ok (.iload_n 3, 1) := by decide +kernel
theorem d_La_law_401 : decode code 401 = .ok (.iconst 2, 1) := by decide +kernel
theorem d_La_law_402 : decode code 402 = .ok (.iadd, 1) := by decide +kernel
theorem d_La_law_403 : decode code 403 = .ok (.iaload, 1) := by decide +kernel
theorem d_La_law_404 : decode code 404 = .ok (.aload_n 0, 1) := by decide +kernel
theorem d_La_law_405 : decode code 405 = .ok (.iload_n 3, 1) := by decide +kernel
theorem d_La_law_406 : decode code 406 = .ok (.iconst 3, 1) := by decide +kernel
theorem d_La_law_407 : decode code 407 = .ok (.iadd, 1) := by decide +kernel
theorem d_La_law_408 : decode code 408 = .ok (.iaload, 1) := by decide +kernel
theorem d_La_law_409 : decode code 409 = .ok (.invokevirtual 53, 3) := by decide +kernel
theorem d_La_law_412 : decode code 412 = .ok (.lcmp, 1) := by decide +kernel
theorem d_La_law_413 : decode code 413 = .ok (.ifCond .eq 215, 3) := by decide +kernel
theorem d_La_law_416 : decode code 416 = .ok (.iconst 0, 1) := by decide +kernel
theorem d_La_law_417 : decode code 417 = .ok (.ireturn, 1) := by decide +kernel
theorem d_La_law_418 : decode code 418 = .ok (.aload_n 1, 1) := by decide +kernel
theorem d_La_law_419 : decode code 419 = .ok (.aload_n 0, 1) := by decide +kernel
theorem d_La_law_420 : decode code 420 = .ok (.iload_n 3, 1) := by decide +kernel
theorem d_La_law_421 : decode code 421 = .ok (.iconst 1, 1) := by decide +kernel
theorem d_La_law_422 : decode code 422 = .ok (.iadd, 1) := by decide +kernel
theorem d_La_law_423 : decode code 423 = .ok (.iaload, 1) := by decide +kernel
theorem d_La_law_424 : decode code 424 = .ok (.invokevirtual 54, 3) := by decide +kernel
theorem d_La_law_427 : decode code 427 = .ok (.aload_n 2, 1) := by decide +kernel
theorem d_La_law_428 : decode code 428 = .ok (.aload_n 0, 1) := by decide +kernel
theorem d_La_law_429 : decode code 429 = .ok (.iload_n 3, 1) := by decide +kernel
theorem d_La_law_430 : decode code 430 = .ok (.iconst 1, 1) := by decide +kernel
theorem d_La_law_431 : decode code 431 = .ok (.iadd, 1) := by decide +kernel
theorem d_La_law_432 : decode code 432 = .ok (.iaload, 1) := by decide +kernel
theorem d_La_law_433 : decode code 433 = .ok (.invokevirtual 57, 3) := by decide +kernel
theorem d_La_law_436 : decode code 436 = .ok (.if_icmp .eq 192, 3) := by decide +kernel
theorem d_La_law_439 : decode code 439 = .ok (.iconst 0, 1) := by decide +kernel
theorem d_La_law_440 : decode code 440 = .ok (.ireturn, 1) := by decide +kernel
theorem d_La_law_441 : decode code 441 = .ok (.aload_n 1, 1) := by decide +kernel
theorem d_La_law_442 : decode code 442 = .ok (.aload_n 0, 1) := by decide +kernel
theorem d_La_law_443 : decode code 443 = .ok (.iload_n 3, 1) := by decide +kernel
theorem d_La_law_444 : decode code 444 = .ok (.iconst 1, 1) := by decide +kernel
theorem d_La_law_445 : decode code 445 = .ok (.iadd, 1) := by decide +kernel
theorem d_La_law_446 : decode code 446 = .ok (.iaload, 1) := by decide +kernel
theorem d_La_law_447 : decode code 447 = .ok (.invokevirtual 58, 3) := by decide +kernel
theorem d_La_law_450 : decode code 450 = .ok (.aload_n 2, 1) := by decide +kernel
theorem d_La_law_451 : decode code 451 = .ok (.aload_n 0, 1) := by decide +kernel
theorem d_La_law_452 : decode code 452 = .ok (.iload_n 3, 1) := by decide +kernel
theorem d_La_law_453 : decode code 453 = .ok (.iconst 1, 1) := by decide +kernel
theorem d_La_law_454 : decode code 454 = .ok (.iadd, 1) := by decide +kernel
theorem d_La_law_455 : decode code 455 = .ok (.iaload, 1) := by decide +kernel
theorem d_La_law_456 : decode code 456 = .ok (.invokevirtual 61, 3) := by decide +kernel
theorem d_La_law_459 : decode code 459 = .ok (.if_icmp .eq 169, 3) := by decide +kernel
theorem d_La_law_462 : decode code 462 = .ok (.iconst 0, 1) := by decide +kernel
theorem d_La_law_463 : decode code 463 = .ok (.ireturn, 1) := by decide +kernel
theorem d_La_law_464 : decode code 464 = .ok (.aload_n 1, 1) := by decide +kernel
theorem d_La_law_465 : decode code 465 = .ok (.aload_n 0, 1) := by decide +kernel
theorem d_La_law_466 : decode code 466 = .ok (.iload_n 3, 1) := by decide +kernel
theorem d_La_law_467 : decode code 467 = .ok (.iconst 1, 1) := by decide +kernel
theorem d_La_law_468 : decode code 468 = .ok (.iadd, 1) := by decide +kernel
theorem d_La_law_469 : decode code 469 = .ok (.iaload, 1) := by decide +kernel
theorem d_La_law_470 : decode code 470 = .ok (.aload_n 0, 1) := by decide +kernel
theorem d_La_law_471 : decode code 471 = .ok (.iload_n 3, 1) := by decide +kernel
theorem d_La_law_472 : decode code 472 = .ok (.iconst 2, 1) := by decide +kernel
theorem d_La_law_473 : decode code 473 = .ok (.iadd, 1) := by decide +kernel
theorem d_La_law_474 : decode code 474 = .ok (.iaload, 1) := by decide +kernel
theorem d_La_law_475 : decode code 475 = .ok (.invokevirtual 62, 3) := by decide +kernel
theorem d_La_law_478 : decode code 478 = .ok (.aload_n 2, 1) := by decide +kernel
theorem d_La_law_479 : decode code 479 = .ok (.aload_n 0, 1) := by decide +kernel
theorem d_La_law_480 : decode code 480 = .ok (.iload_n 3, 1) := by decide +kernel
theorem d_La_law_481 : decode code 481 = .ok (.iconst 1, 1) := by decide +kernel
theorem d_La_law_482 : decode code 482 = .ok (.iadd, 1) := by decide +kernel
theorem d_La_law_483 : decode code 483 = .ok (.iaload, 1) := by decide +kernel
theorem d_La_law_484 : decode code 484 = .ok (.aload_n 0, 1) := by decide +kernel
theorem d_La_law_485 : decode code 485 = .ok (.iload_n 3, 1) := by decide +kernel
theorem d_La_law_486 : decode code 486 = .ok (.iconst 2, 1) := by decide +kernel
theorem d_La_law_487 : decode code 487 = .ok (.iadd, 1) := by decide +kernel
theorem d_La_law_488 : decode code 488 = .ok (.iaload, 1) := by decide +kernel
theorem d_La_law_489 : decode code 489 = .ok (.invokevirtual 65, 3) := by decide +kernel
theorem d_La_law_492 : decode code 492 = .ok (.if_icmp .eq 136, 3) := by decide +kernel
theorem d_La_law_495 : decode code 495 = .ok (.iconst 0, 1) := by decide +kernel
theorem d_La_law_496 : decode code 496 = .ok (.ireturn, 1) := by decide +kernel
theorem d_La_law_497 : decode code 497 = .ok (.aload_n 1, 1) := by decide +kernel
theorem d_La_law_498 : decode code 498 = .ok (.aload_n 0, 1) := by decide +kernel
theorem d_La_law_499 : decode code 499 = .ok (.iload_n 3, 1) := by decide +kernel
theorem d_La_law_500 : decode code 500 = .ok (.iconst 1, 1) := by decide +kernel
theorem d_La_law_501 : decode code 501 = .ok (.iadd, 1) := by decide +kernel
theorem d_La_law_502 : decode code 502 = .ok (.iaload, 1) := by decide +kernel
theorem d_La_law_503 : decode code 503 = .ok (.aload_n 0, 1) := by decide +kernel
theorem d_La_law_504 : decode code 504 = .ok (.iload_n 3, 1) := by decide +kernel
theorem d_La_law_505 : decode code 505 = .ok (.iconst 2, 1) := by decide +kernel
theorem d_La_law_506 : decode code 506 = .ok (.iadd, 1) := by decide +kernel
theorem d_La_law_507 : decode code 507 = .ok (.iaload, 1) := by decide +kernel
theorem d_La_law_508 : decode code 508 = .ok (.invokevirtual 66, 3) := by decide +kernel
theorem d_La_law_511 : decode code 511 = .ok (.aload_n 2, 1) := by decide +kernel
theorem d_La_law_512 : decode code 512 = .ok (.aload_n 0, 1) := by decide +kernel
theorem d_La_law_513 : decode code 513 = .ok (.iload_n 3, 1) := by decide +kernel
theorem d_La_law_514 : decode code 514 = .ok (.iconst 1, 1) := by decide +kernel
theorem d_La_law_515 : decode code 515 = .ok (.iadd, 1) := by decide +kernel
theorem d_La_law_516 : decode code 516 = .ok (.iaload, 1) := by decide +kernel
theorem d_La_law_517 : decode code 517 = .ok (.aload_n 0, 1) := by decide +kernel
theorem d_La_law_518 : decode code 518 = .ok (.iload_n 3, 1) := by decide +kernel
theorem d_La_law_519 : decode code 519 = .ok (.iconst 2, 1) := by decide +kernel
theorem d_La_law_520 : decode code 520 = .ok (.iadd, 1) := by decide +kernel
theorem d_La_law_521 : decode code 521 = .ok (.iaload, 1) := by decide +kernel
theorem d_La_law_522 : decode code 522 = .ok (.invokevirtual 69, 3) := by decide +kernel
theorem d_La_law_525 : decode code 525 = .ok (.if_icmp .eq 103, 3) := by decide +kernel
theorem d_La_law_528 : decode code 528 = .ok (.iconst 0, 1) := by decide +kernel
theorem d_La_law_529 : decode code 529 = .ok (.ireturn, 1) := by decide +kernel
theorem d_La_law_530 : decode code 530 = .ok (.aload_n 1, 1) := by decide +kernel
theorem d_La_law_531 : decode code 531 = .ok (.aload_n 0, 1) := by decide +kernel
theorem d_La_law_532 : decode code 532 = .ok (.iload_n 3, 1) := by decide +kernel
theorem d_La_law_533 : decode code 533 = .ok (.iconst 1, 1) := by decide +kernel
theorem d_La_law_534 : decode code 534 = .ok (.iadd, 1) := by decide +kernel
theorem d_La_law_535 : decode code 535 = .ok (.iaload, 1) := by decide +kernel
theorem d_La_law_536 : decode code 536 = .ok (.ifCond .eq 7, 3) := by decide +kernel
theorem d_La_law_539 : decode code 539 = .ok (.iconst 1, 1) := by decide +kernel
theorem d_La_law_540 : decode code 540 = .ok (.goto 4, 3) := by decide +kernel
theorem d_La_law_543 : decode code 543 = .ok (.iconst 0, 1) := by decide +kernel
theorem d_La_law_544 : decode code 544 = .ok (.invokevirtual 70, 3) := by decide +kernel
theorem d_La_law_547 : decode code 547 = .ok (.aload_n 2, 1) := by decide +kernel
theorem d_La_law_548 : decode code 548 = .ok (.aload_n 0, 1) := by decide +kernel
theorem d_La_law_549 : decode code 549 = .ok (.iload_n 3, 1) := by decide +kernel
theorem d_La_law_550 : decode code 550 = .ok (.iconst 1, 1) := by decide +kernel
theorem d_La_law_551 : decode code 551 = .ok (.iadd, 1) := by decide +kernel
theorem d_La_law_552 : decode code 552 = .ok (.iaload, 1) := by decide +kernel
theorem d_La_law_553 : decode code 553 = .ok (.ifCond .eq 7, 3) := by decide +kernel
theorem d_La_law_556 : decode code 556 = .ok (.iconst 1, 1) := by decide +kernel
theorem d_La_law_557 : decode code 557 = .ok (.goto 4, 3) := by decide +kernel
theorem d_La_law_560 : decode code 560 = .ok (.iconst 0, 1) := by decide +kernel
theorem d_La_law_561 : decode code 561 = .ok (.invokevirtual 74, 3) := by decide +kernel
theorem d_La_law_564 : decode code 564 = .ok (.if_icmp .eq 64, 3) := by decide +kernel
theorem d_La_law_567 : decode code 567 = .ok (.iconst 0, 1) := by decide +kernel
theorem d_La_law_568 : decode code 568 = .ok (.ireturn, 1) := by decide +kernel
theorem d_La_law_569 : decode code 569 = .ok (.aload_n 1, 1) := by decide +kernel
theorem d_La_law_570 : decode code 570 = .ok (.invokevirtual 75, 3) := by decide +kernel
theorem d_La_law_573 : decode code 573 = .ok (.aload_n 2, 1) := by decide +kernel
theorem d_La_law_574 : decode code 574 = .ok (.invokevirtual 79, 3) := by decide +kernel
theorem d_La_law_577 : decode code 577 = .ok (.if_icmp .eq 51, 3) := by decide +kernel
theorem d_La_law_580 : decode code 580 = .ok (.iconst 0, 1) := by decide +kernel
theorem d_La_law_581 : decode code 581 = .ok (.ireturn, 1) := by decide +kernel
theorem d_La_law_582 : decode code 582 = .ok (.aload_n 1, 1) := by decide +kernel
theorem d_La_law_583 : decode code 583 = .ok (.aload_n 0, 1) := by decide +kernel
theorem d_La_law_584 : decode code 584 = .ok (.iload_n 3, 1) := by decide +kernel
theorem d_La_law_585 : decode code 585 = .ok (.iconst 1, 1) := by decide +kernel
theorem d_La_law_586 : decode code 586 = .ok (.iadd, 1) := by decide +kernel
theorem d_La_law_587 : decode code 587 = .ok (.iaload, 1) := by decide +kernel
theorem d_La_law_588 : decode code 588 = .ok (.aload_n 0, 1) := by decide +kernel
theorem d_La_law_589 : decode code 589 = .ok (.iload_n 3, 1) := by decide +kernel
theorem d_La_law_590 : decode code 590 = .ok (.iconst 2, 1) := by decide +kernel
theorem d_La_law_591 : decode code 591 = .ok (.iadd, 1) := by decide +kernel
theorem d_La_law_592 : decode code 592 = .ok (.iaload, 1) := by decide +kernel
theorem d_La_law_593 : decode code 593 = .ok (.invokevirtual 80, 3) := by decide +kernel
theorem d_La_law_596 : decode code 596 = .ok (.aload_n 2, 1) := by decide +kernel
theorem d_La_law_597 : decode code 597 = .ok (.aload_n 0, 1) := by decide +kernel
theorem d_La_law_598 : decode code 598 = .ok (.iload_n 3, 1) := by decide +kernel
theorem d_La_law_599 : decode code 599 = .ok (.iconst 1, 1) := by decide +kernel
theorem d_La_law_600 : decode code 600 = .ok (.iadd, 1) := by decide +kernel
theorem d_La_law_601 : decode code 601 = .ok (.iaload, 1) := by decide +kernel
theorem d_La_law_602 : decode code 602 = .ok (.aload_n 0, 1) := by decide +kernel
theorem d_La_law_603 : decode code 603 = .ok (.iload_n 3, 1) := by decide +kernel
theorem d_La_law_604 : decode code 604 = .ok (.iconst 2, 1) := by decide +kernel
theorem d_La_law_605 : decode code 605 = .ok (.iadd, 1) := by decide +kernel
theorem d_La_law_606 : decode code 606 = .ok (.iaload, 1) := by decide +kernel
theorem d_La_law_607 : decode code 607 = .ok (.invokevirtual 83, 3) := by decide +kernel
theorem d_La_law_610 : decode code 610 = .ok (.if_icmp .eq 18, 3) := by decide +kernel
theorem d_La_law_613 : decode code 613 = .ok (.iconst 0, 1) := by decide +kernel
theorem d_La_law_614 : decode code 614 = .ok (.ireturn, 1) := by decide +kernel
theorem d_La_law_615 : decode code 615 = .ok (.aload_n 1, 1) := by decide +kernel
theorem d_La_law_616 : decode code 616 = .ok (.invokevirtual 84, 3) := by decide +kernel
theorem d_La_law_619 : decode code 619 = .ok (.aload_n 2, 1) := by decide +kernel
theorem d_La_law_620 : decode code 620 = .ok (.invokevirtual 87, 3) := by decide +kernel
theorem d_La_law_623 : decode code 623 = .ok (.if_icmp .eq 5, 3) := by decide +kernel
theorem d_La_law_626 : decode code 626 = .ok (.iconst 0, 1) := by decide +kernel
theorem d_La_law_627 : decode code 627 = .ok (.ireturn, 1) := by decide +kernel
theorem d_La_law_628 : decode code 628 = .ok (.iinc 3 5, 3) := by decide +kernel
theorem d_La_law_631 : decode code 631 = .ok (.goto (-613), 3) := by decide +kernel
theorem d_La_law_634 : decode code 634 = .ok (.iconst 1, 1) := by decide +kernel
theorem d_La_law_635 : decode code 635 = .ok (.ireturn, 1) := by decide +kernel
/-- the script, that nobody writes -/
def Scr (X : XT) (b L : Nat) (xs : Nat → Int32) : Prop := match X with
  | (_, _, _, _, s, _, _, _, _, _, A, _) => va_X b L xs s s.heap ∧ b < s.heap.size ∧ ¬ A b
def sx (xs : Nat → Int32) (j : Nat) : Int := (xs j).toInt
theorem sx_b (xs : Nat → Int32) (j : Nat) : -2147483648 ≤ sx xs j ∧ sx xs j < 2147483648 := ⟨Int32.le_toInt (xs j), Int32.toInt_lt (xs j)⟩
theorem zI_and15 (x : Int) : zI x &&& zI 15 = zI (x % 16) := zI_and x 4 rfl (by decide)
theorem lg_self (x : Int64) : lg_cmp x x = 0 := by
  unfold lg_cmp
  rw [if_neg (by rw [gt_iff_lt, Int64.lt_iff_toInt_lt]; omega), if_pos rfl]
section LAW
variable {E : EV} {X : XT} {own nm : String} {cc : ByteArray} {nL : Nat} {ret : Option FieldType} {rm : Room} {k n pc : Nat} {lv lv' : List (Nat × Value)} {st : List Value} {ws : va_W}
theorem G_sld (hX : Ok E X own nm cc nL ret rm) {b L : Nat} {xs : Nat → Int32} (hs : Scr X b L xs) {i : Int32} (hin : vp_in i L) (hd : decode cc pc = .ok (.iaload, 1)) (kk : G E X k n (pc + 1) lv (.int (xs i.toNatClampNeg) :: st) ws) : G E X k n pc lv (.int i :: .ref b :: st) ws := by
  obtain ⟨p, l, e, R, s, m, args, below, meth, c, A, Q⟩ := X
  obtain ⟨hx, hb, hml, hown, hts, hr, hlo, hR, hK, hN, hT, hA, hnm⟩ := hX
  obtain ⟨h1, h2, h3⟩ := hs
  intro ls H locs hl hP hD hS
  exact va_sld hx hb h1 h2 h3 hS hin hd (kk ls H locs hl hP hD hS)
theorem G_slen (hX : Ok E X own nm cc nL ret rm) {b L : Nat} {xs : Nat → Int32} (hs : Scr X b L xs) (hd : decode cc pc = .ok (.arraylength, 1)) (kk : G E X k n (pc + 1) lv (.int (zI L) :: st) ws) : G E X k n pc lv (.ref b :: st) ws := by
  obtain ⟨p, l, e, R, s, m, args, below, meth, c, A, Q⟩ := X
  obtain ⟨hx, hb, hml, hown, hts, hr, hlo, hR, hK, hN, hT, hA, hnm⟩ := hX
  obtain ⟨h1, h2, h3⟩ := hs
  intro ls H locs hl hP hD hS
  refine va_slen hx hb h1 h2 h3 hS hd ?_
  rw [show Int32.ofNat L = zI L from Int32.ofInt_eq_ofNat.symm]
  exact kk ls H locs hl hP hD hS
/-- a call of the class or the model out of the law -/
theorem L_call (hX : Ok E X own nm cc nL ret room_1) {y : MethodName} {cc' : ByteArray} {nL' n' ci d' idx i : Nat} {ret' : Option FieldType} {Qf : Option Value → (Nat → va_E) → Prop} {As st0 : List Value} {fs : List Value} {r : vw_C} {f : Nat → va_E}
    (hC : CF y cc' nL' ret' d' E (.ref (eA E i) :: As) f Qf) (hm : CM y cc' nL' ret' n') (him : Cond.instanceMethod y ∈ lw_tb) (hs : Cond.selects r.1 y y ∈ lw_tb) (hc : cls[ci]? = some r) (hlk : Cond.methodLink own idx y ∈ lw_tb) (hd : decode cc pc = .ok (.invokevirtual idx, 3))
    (hi : i < NC) (he : f i = ob ci fs) (hn : As.length = n') (hst : st0 = As.reverse ++ .ref (eA E i) :: st) (hW : (st.map fun v => v.category).sum ≤ 8) (hrm : d' ≤ 10 ∧ nL' ≤ 21) (hk : k ≤ 600000 ∧ n ≤ 7302250)
    (kk : ∀ (r : Option Value) (f' : Nat → va_E), Qf r f' → G E X k n (pc + 3) lv (r.toList ++ st) (wl E f')) : G E X k n pc lv st0 (wl E f) := by
  refine G_callV hX hC hm him hs hc hlk hd (wl_get hi he) hn hst hW ⟨show d' + 1 ≤ 13 by omega, show 8 + (nL' + 11) + 40 * d' ≤ 528 by omega⟩ ⟨hk.1, hk.2⟩ ?_
  rintro r w' ⟨f', rfl, hq⟩
  exact kk r f' hq
def lvL (E : EV) (b i : Nat) : List (Nat × Value) := [(3, .int (zI i)), (2, .ref (eA E 61)), (1, .ref (eA E 0)), (0, .ref b)]
/-- script[i + j] -/
theorem L_arg (hX : Ok E X own nm cc nL ret rm) {b L i j : Nat} {xs : Nat → Int32} (hs : Scr X b L xs) (hij : i + j < L) (hL : L ≤ 2560) (d0 : decode cc pc = .ok (.aload_n 0, 1)) (d1 : decode cc (pc + 1) = .ok (.iload_n 3, 1)) (d2 : decode cc (pc + 1 + 1) = .ok (.iconst (j : Int), 1)) (d3 : decode cc (pc + 1 + 1 + 1) = .ok (.iadd, 1)) (d4 : decode cc (pc + 1 + 1 + 1 + 1) = .ok (.iaload, 1))
    (kk : G E X k n (pc + 5) (lvL E b i) (.int (zI (sx xs (i + j))) :: st) ws) : G E X k n pc (lvL E b i) st ws := by
  refine G_aload_n hX 3 rfl rfl d0 ?_
  refine G_iload_n hX 0 rfl rfl d1 ?_
  refine G_iconst hX d2 ?_
  refine G_iadd_z hX d3 ?_
  refine G_sld hX hs (zI_in ⟨by omega, by omega, by omega⟩) d4 ?_
  rw [zI_cl ⟨by omega, by omega⟩, show ((i : Int) + (j : Int)).toNat = i + j by omega]
  rw [sx, zI_self] at kk
  exact kk
end LAW
theorem lw_tb_tbl : ∀ w ∈ lw_tb, w ∈ lw_tbl := fun w h => (List.mem_filter.mp h).1
theorem nwm_0 : Cond.methodLinkNest "DeltaFerry" 17 ⟨"DeltaFerry$Digester", "<init>", "()V"⟩ "DeltaFerry" ∈ lw_tbl := tq_1 _ (List.mem_of_getElem? (i := 29) (by decide +kernel))
theorem nwm_1 : Cond.methodLinkNest "DeltaFerry" 24 ⟨"DeltaFerry$WeakSum", "<init>", "()V"⟩ "DeltaFerry" ∈ lw_tbl := tq_1 _ (List.mem_of_getElem? (i := 43) (by decide +kernel))
theorem nwm_2 : Cond.methodLinkNest "DeltaFerry" 31 ⟨"DeltaFerry$Signature", "<init>", "()V"⟩ "DeltaFerry" ∈ lw_tbl := tq_1 _ (List.mem_of_getElem? (i := 62) (by decide +kernel))
theorem nwm_3 : Cond.methodLinkNest "DeltaFerry$Signature" 11 ⟨"DeltaFerry$Digester", "<init>", "()V"⟩ "DeltaFerry" ∈ lw_tbl := tq_1 _ (List.mem_of_getElem? (i := 67) (by decide +kernel))
theorem nwm_4 : Cond.methodLinkNest "DeltaFerry$Signature" 30 ⟨"DeltaFerry$WeakSum", "<init>", "()V"⟩ "DeltaFerry" ∈ lw_tbl := tq_1 _ (List.mem_of_getElem? (i := 69) (by decide +kernel))
theorem nwm_5 : Cond.methodLinkNest "DeltaFerry" 38 ⟨"DeltaFerry$Plan", "<init>", "()V"⟩ "DeltaFerry" ∈ lw_tbl := tq_1 _ (List.mem_of_getElem? (i := 101) (by decide +kernel))
theorem nwm_6 : Cond.methodLinkNest "DeltaFerry" 45 ⟨"DeltaFerry$Matcher", "<init>", "()V"⟩ "DeltaFerry" ∈ lw_tbl := tq_1 _ (List.mem_of_getElem? (i := 146) (by decide +kernel))
theorem nwm_7 : Cond.methodLinkNest "DeltaFerry" 52 ⟨"DeltaFerry$Writer", "<init>", "()V"⟩ "DeltaFerry" ∈ lw_tbl := tq_1 _ (List.mem_of_getElem? (i := 171) (by decide +kernel))
theorem nwm_8 : Cond.methodLinkNest "DeltaFerry$Writer" 38 ⟨"DeltaFerry$AddressRows", "<init>", "()V"⟩ "DeltaFerry" ∈ lw_tbl := tq_1 _ (List.mem_of_getElem? (i := 202) (by decide +kernel))
theorem nwm_9 : Cond.methodLinkNest "DeltaFerry" 59 ⟨"DeltaFerry$Reader", "<init>", "()V"⟩ "DeltaFerry" ∈ lw_tbl := tq_2 _ (List.mem_of_getElem? (i := 10) (by decide +kernel))
theorem nwm_10 : Cond.methodLinkNest "DeltaFerry$Reader" 32 ⟨"DeltaFerry$Cursor", "<init>", "()V"⟩ "DeltaFerry" ∈ lw_tbl := tq_2 _ (List.mem_of_getElem? (i := 27) (by decide +kernel))
theorem nwm_11 : Cond.methodLinkNest "DeltaFerry$Reader" 42 ⟨"DeltaFerry$WindowReader", "<init>", "()V"⟩ "DeltaFerry" ∈ lw_tbl := tq_2 _ (List.mem_of_getElem? (i := 48) (by decide +kernel))
theorem nwm_12 : Cond.methodLinkNest "DeltaFerry$WindowReader" 11 ⟨"DeltaFerry$Cursor", "<init>", "()V"⟩ "DeltaFerry" ∈ lw_tbl := tq_2 _ (List.mem_of_getElem? (i := 53) (by decide +kernel))
theorem nwm_13 : Cond.methodLinkNest "DeltaFerry$WindowReader" 29 ⟨"DeltaFerry$AddressRows", "<init>", "()V"⟩ "DeltaFerry" ∈ lw_tbl := tq_2 _ (List.mem_of_getElem? (i := 55) (by decide +kernel))
theorem nwm_14 : Cond.methodLinkNest "DeltaFerry$Writer" 82 ⟨"DeltaFerry", "checkOf", "([III)J"⟩ "DeltaFerry" ∈ lw_tbl := tq_3 _ (List.mem_of_getElem? (i := 236) (by decide +kernel))
theorem nwm_15 : Cond.methodLinkNest "DeltaFerry$WindowReader" 124 ⟨"DeltaFerry", "checkOf", "([III)J"⟩ "DeltaFerry" ∈ lw_tbl := tq_4 _ (List.mem_of_getElem? (i := 95) (by decide +kernel))
theorem lw_NW {args : Array Value} {s : State} (hts : ∀ w ∈ lw_tbl, w.before args s = true) : NW s :=
  List.forall_mem_cons.mpr ⟨va_Nw.of rfl (hts _ nwm_0), List.forall_mem_cons.mpr ⟨va_Nw.of rfl (hts _ nwm_1), List.forall_mem_cons.mpr ⟨va_Nw.of rfl (hts _ nwm_2), List.forall_mem_cons.mpr ⟨va_Nw.of rfl (hts _ nwm_3), List.forall_mem_cons.mpr ⟨va_Nw.of rfl (hts _ nwm_4), List.forall_mem_cons.mpr ⟨va_Nw.of rfl (hts _ nwm_5), List.forall_mem_cons.mpr ⟨va_Nw.of rfl (hts _ nwm_6), List.forall_mem_cons.mpr ⟨va_Nw.of rfl (hts _ nwm_7), List.forall_mem_cons.mpr ⟨va_Nw.of rfl (hts _ nwm_8), List.forall_mem_cons.mpr ⟨va_Nw.of rfl (hts _ nwm_9), List.forall_mem_cons.mpr ⟨va_Nw.of rfl (hts _ nwm_10), List.forall_mem_cons.mpr ⟨va_Nw.of rfl (hts _ nwm_11), List.forall_mem_cons.mpr ⟨va_Nw.of rfl (hts _ nwm_12), List.forall_mem_cons.mpr ⟨va_Nw.of rfl (hts _ nwm_13), List.forall_mem_cons.mpr ⟨va_Nw.of rfl (hts _ nwm_14), List.forall_mem_cons.mpr ⟨va_Nw.of rfl (hts _ nwm_15), fun _ h => absurd h List.not_mem_nil⟩⟩⟩⟩⟩⟩⟩⟩⟩⟩⟩⟩⟩⟩⟩⟩
theorem aom : Cond.arrayOver (.object "DeltaFerry$Row") ∈ lw_tbl := tq_1 _ (List.mem_of_getElem? (i := 26) (by decide +kernel))
theorem stm_K : Cond.laysStatic "DeltaFerry$Digester" "K" "[I" ∈ lw_tbl := tq_3 _ (List.mem_of_getElem? (i := 33) (by decide +kernel))
theorem stm_T : Cond.laysStatic "DeltaFerry$Digester" "TURNS" "[I" ∈ lw_tbl := tq_3 _ (List.mem_of_getElem? (i := 38) (by decide +kernel))
theorem lw_K {args : Array Value} {s : State} (hts : ∀ w ∈ lw_tb, w.before args s = true) (hao : va_AO "DeltaFerry$Row" s) : ∃ (D : va_G) (cI cJ cR : ClassId), va_K D cls [(cI, .int), (cJ, .long), (cR, .object "DeltaFerry$Row")] s := by
  obtain ⟨c0, i0, h0⟩ := u_known hts in_Ad (hts _ ki_Ad)
  obtain ⟨c1, i1, h1⟩ := u_known hts in_Cu (hts _ ki_Cu)
  obtain ⟨c2, i2, h2⟩ := u_known hts in_Dg (hts _ ki_Dg)
  obtain ⟨c3, i3, h3⟩ := u_known hts in_Ma (hts _ ki_Ma)
  obtain ⟨c4, i4, h4⟩ := u_known hts in_Pl (hts _ ki_Pl)
  obtain ⟨c5, i5, h5⟩ := u_known hts in_Rd (hts _ ki_Rd)
  obtain ⟨c6, i6, h6⟩ := u_known hts in_Ro (hts _ ki_Ro)
  obtain ⟨c7, i7, h7⟩ := u_known hts in_Sg (hts _ ki_Sg)
  obtain ⟨c8, i8, h8⟩ := u_known hts in_Ws (hts _ ki_Ws)
  obtain ⟨c9, i9, h9⟩ := u_known hts in_Wr (hts _ ki_Wr)
  obtain ⟨c10, i10, h10⟩ := u_known hts in_Wt (hts _ ki_Wt)
  obtain ⟨c11, i11, h11⟩ := u_known hts in_Df (hts _ ki_Df)
  obtain ⟨c12, i12, h12⟩ := u_known hts in_Mo (hts _ ki_Mo)
  obtain ⟨aI, kI, pI, f1, f2, f3⟩ := Cond.arrayClass_spec (hts _ ka_int)
  obtain ⟨aJ, kJ, pJ, g1, g2, g3⟩ := Cond.arrayClass_spec (hts _ ka_long)
  obtain ⟨pR, aR, kR, e1, e2, e3, e4, e5⟩ := Cond.arrayOver_spec hao
  refine ⟨(fun c => [c0, c1, c2, c3, c4, c5, c6, c7, c8, c9, c10, c11, c12].getD c 0, fun c => [i0, i1, i2, i3, i4, i5, i6, i7, i8, i9, i10, i11, i12].getD c (fun _ => 0)), aI, aJ, aR, ?_, ?_⟩
  · intro c q h
    match c with
    | 0 => obtain rfl := Option.some.inj h; exact h0
    | 1 => obtain rfl := Option.some.inj h; exact h1
    | 2 => obtain rfl := Option.some.inj h; exact h2
    | 3 => obtain rfl := Option.some.inj h; exact h3
    | 4 => obtain rfl := Option.some.inj h; exact h4
    | 5 => obtain rfl := Option.some.inj h; exact h5
    | 6 => obtain rfl := Option.some.inj h; exact h6
    | 7 => obtain rfl := Option.some.inj h; exact h7
    | 8 => obtain rfl := Option.some.inj h; exact h8
    | 9 => obtain rfl := Option.some.inj h; exact h9
    | 10 => obtain rfl := Option.some.inj h; exact h10
    | 11 => obtain rfl := Option.some.inj h; exact h11
    | 12 => obtain rfl := Option.some.inj h; exact h12
    | t + 13 => cases h
  · intro c q h
    match c with
    | 0 => obtain rfl := Option.some.inj h; exact ⟨fun N z => ⟨(fun k h => by cases h), kI, f2, pI, f3⟩, f1⟩
    | 1 => obtain rfl := Option.some.inj h; exact ⟨fun N z => ⟨(fun k h => by cases h), kJ, g2, pJ, g3⟩, g1⟩
    | 2 => obtain rfl := Option.some.inj h; exact ⟨fun N z => ⟨(fun k h => by cases h), kR, e3, pR, e4⟩, kR, pR, e3, e4, e1, e5⟩
    | t + 3 => cases h
theorem gv_K_a : Cond.arrayOf (Term.static "DeltaFerry$Digester" "K" "[I") .int ∈ flatC (Jvm.Cond.and given_1 narrow_1) := by decide +kernel
theorem gv_K_l : Cond.eq (Term.length (Term.static "DeltaFerry$Digester" "K" "[I")) (.int 64) ∈ flatC (Jvm.Cond.and given_1 narrow_1) := by decide +kernel
theorem gv_K_e : ∀ j : Nat, j < 64 → Cond.eq (Term.elem (Term.static "DeltaFerry$Digester" "K" "[I") (.int (Int32.ofNat j))) (.int (kt_K.getD j 0)) ∈ flatC (Jvm.Cond.and given_1 narrow_1) := by decide +kernel
theorem lw_st_K {args : Array Value} {s : State} {A : Nat → Prop} (hts : ∀ w ∈ lw_tbl, w.before args s = true) (hg : (Jvm.Cond.and given_1 narrow_1).before args s = true) (hA : ∀ a : Nat, a < s.heap.size → ¬ A a) : ∃ t : Nat, va_Z "DeltaFerry$Digester" "K" "[I" (.ref t) A s s.heap ∧ va_T .int t 64 (fun j => .int (kt_K.getD j 0)) A s s.heap := by
  have hf := flat_of_before _ hg
  obtain ⟨t, h1, h2⟩ := va_Tof (N := 64) (f := fun j => .int (kt_K.getD j 0)) (A := A) (by decide) (hf _ gv_K_a) (va_eqt (hf _ gv_K_l)) (fun j hj => va_eqt (hf _ (gv_K_e j hj))) hA
  exact ⟨t, va_Zref (hts _ stm_K) (hts _ (lw_tb_tbl _ kj_Dg)) h1 hA, h2⟩
theorem gv_TURNS_a : Cond.arrayOf (Term.static "DeltaFerry$Digester" "TURNS" "[I") .int ∈ flatC (Jvm.Cond.and given_1 narrow_1) := by decide +kernel
theorem gv_TURNS_l : Cond.eq (Term.length (Term.static "DeltaFerry$Digester" "TURNS" "[I")) (.int 16) ∈ flatC (Jvm.Cond.and given_1 narrow_1) := by decide +kernel
theorem gv_TURNS_e : ∀ j : Nat, j < 16 → Cond.eq (Term.elem (Term.static "DeltaFerry$Digester" "TURNS" "[I") (.int (Int32.ofNat j))) (.int (kt_T.getD j 0)) ∈ flatC (Jvm.Cond.and given_1 narrow_1) := by decide +kernel
theorem lw_st_TURNS {args : Array Value} {s : State} {A : Nat → Prop} (hts : ∀ w ∈ lw_tbl, w.before args s = true) (hg : (Jvm.Cond.and given_1 narrow_1).before args s = true) (hA : ∀ a : Nat, a < s.heap.size → ¬ A a) : ∃ t : Nat, va_Z "DeltaFerry$Digester" "TURNS" "[I" (.ref t) A s s.heap ∧ va_T .int t 16 (fun j => .int (kt_T.getD j 0)) A s s.heap := by
  have hf := flat_of_before _ hg
  obtain ⟨t, h1, h2⟩ := va_Tof (N := 16) (f := fun j => .int (kt_T.getD j 0)) (A := A) (by decide) (hf _ gv_TURNS_a) (va_eqt (hf _ gv_TURNS_l)) (fun j hj => va_eqt (hf _ (gv_TURNS_e j hj))) hA
  exact ⟨t, va_Zref (hts _ stm_T) (hts _ (lw_tb_tbl _ kj_Dg)) h1 hA, h2⟩

theorem dN_Law_law_0 : decode code 0 = .ok (.new 8, 3) := by decide +kernel
theorem dN_Law_law_3 : decode code 3 = .ok (.dup, 1) := by decide +kernel
theorem dN_Law_law_4 : decode code 4 = .ok (.invokespecial 35, 3) := by decide +kernel
theorem dN_Law_law_7 : decode code 7 = .ok (.astore_n 1, 1) := by decide +kernel
theorem dN_Law_law_8 : decode code 8 = .ok (.new 36, 3) := by decide +kernel
theorem dN_Law_law_11 : decode code 11 = .ok (.dup, 1) := by decide +kernel
theorem dN_Law_law_12 : decode code 12 = .ok (.invokespecial 38, 3) := by decide +kernel
theorem dN_Law_law_15 : decode code 15 = .ok (.astore_n 2, 1) := by decide +kernel
theorem dN_Law_law_16 : decode code 16 = .ok (.iconst 1, 1) := by decide +kernel
theorem dN_Law_law_17 : decode code 17 = .ok (.newarray .long, 2) := by decide +kernel
theorem dN_Law_law_19 : decode code 19 = .ok (.astore_n 3, 1) := by decide +kernel
theorem dN_Law_law_20 : decode code 20 = .ok (.iconst 0, 1) := by decide +kernel
theorem dN_Law_law_21 : decode code 21 = .ok (.istore 4, 2) := by decide +kernel
theorem dN_Law_law_23 : decode code 23 = .ok (.iload 4, 2) := by decide +kernel
theorem dN_Law_law_25 : decode code 25 = .ok (.aload_n 0, 1) := by decide +kernel
theorem dN_Law_law_26 : decode code 26 = .ok (.arraylength, 1) := by decide +kernel
theorem dN_Law_law_27 : decode code 27 = .ok (.bipush 6, 2) := by decide +kernel
theorem dN_Law_law_29 : decode code 29 = .ok (.isub, 1) := by decide +kernel
theorem dN_Law_law_30 : decode code 30 = .ok (.if_icmp .gt 603, 3) := by decide +kernel
theorem dN_Law_law_33 : decode code 33 = .ok (.aload_n 0, 1) := by decide +kernel
theorem dN_Law_law_34 : decode code 34 = .ok (.iload 4, 2) := by decide +kernel
theorem dN_Law_law_36 : decode code 36 = .ok (.iaload, 1) := by decide +kernel
theorem dN_Law_law_37 : decode code 37 = .ok (.bipush 15, 2) := by decide +kernel
theorem dN_Law_law_39 : decode code 39 = .ok (.iand, 1) := by decide +kernel
theorem dN_Law_law_40 : decode code 40 = .ok (.tableswitch 587 0 10 #[60, 96, 180, 216, 285, 296, 404, 429, 525, 561, 574], 60) := by decide +kernel
theorem dN_Law_law_100 : decode code 100 = .ok (.aload_n 1, 1) := by decide +kernel
theorem dN_Law_law_101 : decode code 101 = .ok (.aload_n 0, 1) := by decide +kernel
theorem dN_Law_law_102 : decode code 102 = .ok (.iload 4, 2) := by decide +kernel
theorem dN_Law_law_104 : decode code 104 = .ok (.iconst 1, 1) := by decide +kernel
theorem dN_Law_law_105 : decode code 105 = .ok (.iadd, 1) := by decide +kernel
theorem dN_Law_law_106 : decode code 106 = .ok (.iaload, 1) := by decide +kernel
theorem dN_Law_law_107 : decode code 107 = .ok (.invokestatic 39, 3) := by decide +kernel
theorem dN_Law_law_110 : decode code 110 = .ok (.istore 5, 2) := by decide +kernel
theorem dN_Law_law_112 : decode code 112 = .ok (.aload_n 2, 1) := by decide +kernel
theorem dN_Law_law_113 : decode code 113 = .ok (.aload_n 0, 1) := by decide +kernel
theorem dN_Law_law_114 : decode code 114 = .ok (.iload 4, 2) := by decide +kernel
theorem dN_Law_law_116 : decode code 116 = .ok (.iconst 1, 1) := by decide +kernel
theorem dN_Law_law_117 : decode code 117 = .ok (.iadd, 1) := by decide +kernel
theorem dN_Law_law_118 : decode code 118 = .ok (.iaload, 1) := by decide +kernel
theorem dN_Law_law_119 : decode code 119 = .ok (.invokevirtual 44, 3) := by decide +kernel
theorem dN_Law_law_122 : decode code 122 = .ok (.aload_n 2, 1) := by decide +kernel
theorem dN_Law_law_123 : decode code 123 = .ok (.invokevirtual 45, 3) := by decide +kernel
theorem dN_Law_law_126 : decode code 126 = .ok (.iload 5, 2) := by decide +kernel
theorem dN_Law_law_128 : decode code 128 = .ok (.if_icmp .eq 5, 3) := by decide +kernel
theorem dN_Law_law_131 : decode code 131 = .ok (.iconst 0, 1) := by decide +kernel
theorem dN_Law_law_132 : decode code 132 = .ok (.ireturn, 1) := by decide +kernel
theorem dN_Law_law_133 : decode code 133 = .ok (.goto 494, 3) := by decide +kernel
theorem dN_Law_law_136 : decode code 136 = .ok (.aload_n 1, 1) := by decide +kernel
theorem dN_Law_law_137 : decode code 137 = .ok (.aload_n 0, 1) := by decide +kernel
theorem dN_Law_law_138 : decode code 138 = .ok (.iload 4, 2) := by decide +kernel
theorem dN_Law_law_140 : decode code 140 = .ok (.iconst 1, 1) := by decide +kernel
theorem dN_Law_law_141 : decode code 141 = .ok (.iadd, 1) := by decide +kernel
theorem dN_Law_law_142 : decode code 142 = .ok (.iaload, 1) := by decide +kernel
theorem dN_Law_law_143 : decode code 143 = .ok (.aload_n 0, 1) := by decide +kernel
theorem dN_Law_law_144 : decode code 144 = .ok (.iload 4, 2) := by decide +kernel
theorem dN_Law_law_146 : decode code 146 = .ok (.iconst 2, 1) := by decide +kernel
theorem dN_Law_law_147 : decode code 147 = .ok (.iadd, 1) := by decide +kernel
theorem dN_Law_law_148 : decode code 148 = .ok (.iaload, 1) := by decide +kernel
theorem dN_Law_law_149 : decode code 149 = .ok (.aload_n 0, 1) := by decide +kernel
theorem dN_Law_law_150 : decode code 150 = .ok (.iload 4, 2) := by decide +kernel
theorem dN_Law_law_152 : decode code 152 = .ok (.iconst 3, 1) := by decide +kernel
theorem dN_Law_law_153 : decode code 153 = .ok (.iadd, 1) := by decide +kernel
theorem dN_Law_law_154 : decode code 154 = .ok (.iaload, 1) := by decide +kernel
theorem dN_Law_law_155 : decode code 155 = .ok (.aload_n 0, 1) := by decide +kernel
theorem dN_Law_law_156 : decode code 156 = .ok (.iload 4, 2) := by decide +kernel
theorem dN_Law_law_158 : decode code 158 = .ok (.iconst 4, 1) := by decide +kernel
theorem dN_Law_law_159 : decode code 159 = .ok (.iadd, 1) := by decide +kernel
theorem dN_Law_law_160 : decode code 160 = .ok (.iaload, 1) := by decide +kernel
theorem dN_Law_law_161 : decode code 161 = .ok (.aload_n 0, 1) := by decide +kernel
theorem dN_Law_law_162 : decode code 162 = .ok (.iload 4, 2) := by decide +kernel
theorem dN_Law_law_164 : decode code 164 = .ok (.iconst 5, 1) := by decide +kernel
theorem dN_Law_law_165 : decode code 165 = .ok (.iadd, 1) := by decide +kernel
theorem dN_Law_law_166 : decode code 166 = .ok (.iaload, 1) := by decide +kernel
theorem dN_Law_law_167 : decode code 167 = .ok (.invokestatic 49, 3) := by decide +kernel
theorem dN_Law_law_170 : decode code 170 = .ok (.istore 5, 2) := by decide +kernel
theorem dN_Law_law_172 : decode code 172 = .ok (.aload_n 2, 1) := by decide +kernel
theorem dN_Law_law_173 : decode code 173 = .ok (.aload_n 0, 1) := by decide +kernel
theorem dN_Law_law_174 : decode code 174 = .ok (.iload 4, 2) := by decide +kernel
theorem dN_Law_law_176 : decode code 176 = .ok (.iconst 1, 1) := by decide +kernel
theorem dN_Law_law_177 : decode code 177 = .ok (.iadd, 1) := by decide +kernel
theorem dN_Law_law_178 : decode code 178 = .ok (.iaload, 1) := by decide +kernel
theorem dN_Law_law_179 : decode code 179 = .ok (.aload_n 0, 1) := by decide +kernel
theorem dN_Law_law_180 : decode code 180 = .ok (.iload 4, 2) := by decide +kernel
theorem dN_Law_law_182 : decode code 182 = .ok (.iconst 2, 1) := by decide +kernel
theorem dN_Law_law_183 : decode code 183 = .ok (.iadd, 1) := by decide +kernel
theorem dN_Law_law_184 : decode code 184 = .ok (.iaload, 1) := by decide +kernel
theorem dN_Law_law_185 : decode code 185 = .ok (.aload_n 0, 1) := by decide +kernel
theorem dN_Law_law_186 : decode code 186 = .ok (.iload 4, 2) := by decide +kernel
theorem dN_Law_law_188 : decode code 188 = .ok (.iconst 3, 1) := by decide +kernel
theorem dN_Law_law_189 : decode code 189 = .ok (.iadd, 1) := by decide +kernel
theorem dN_Law_law_190 : decode code 190 = .ok (.iaload, 1) := by decide +kernel
theorem dN_Law_law_191 : decode code 191 = .ok (.aload_n 0, 1) := by decide +kernel
theorem dN_Law_law_192 : decode code 192 = .ok (.iload 4, 2) := by decide +kernel
theorem dN_Law_law_194 : decode code 194 = .ok (.iconst 4, 1) := by decide +kernel
theorem dN_Law_law_195 : decode code 195 = .ok (.iadd, 1) := by decide +kernel
theorem dN_Law_law_196 : decode code 196 = .ok (.iaload, 1) := by decide +kernel
theorem dN_Law_law_197 : decode code 197 = .ok (.aload_n 0, 1) := by decide +kernel
theorem dN_Law_law_198 : decode code 198 = .ok (.iload 4, 2) := by decide +kernel
theorem dN_Law_law_200 : decode code 200 = .ok (.iconst 5, 1) := by decide +kernel
theorem dN_Law_law_201 : decode code 201 = .ok (.iadd, 1) := by decide +kernel
theorem dN_Law_law_202 : decode code 202 = .ok (.iaload, 1) := by decide +kernel
theorem dN_Law_law_203 : decode code 203 = .ok (.invokevirtual 52, 3) := by decide +kernel
theorem dN_Law_law_206 : decode code 206 = .ok (.aload_n 2, 1) := by decide +kernel
theorem dN_Law_law_207 : decode code 207 = .ok (.invokevirtual 45, 3) := by decide +kernel
theorem dN_Law_law_210 : decode code 210 = .ok (.iload 5, 2) := by decide +kernel
theorem dN_Law_law_212 : decode code 212 = .ok (.if_icmp .eq 5, 3) := by decide +kernel
theorem dN_Law_law_215 : decode code 215 = .ok (.iconst 0, 1) := by decide +kernel
theorem dN_Law_law_216 : decode code 216 = .ok (.ireturn, 1) := by decide +kernel
theorem dN_Law_law_217 : decode code 217 = .ok (.goto 410, 3) := by decide +kernel
theorem dN_Law_law_220 : decode code 220 = .ok (.aload_n 1, 1) := by decide +kernel
theorem dN_Law_law_221 : decode code 221 = .ok (.aload_n 0, 1) := by decide +kernel
theorem dN_Law_law_222 : decode code 222 = .ok (.iload 4, 2) := by decide +kernel
theorem dN_Law_law_224 : decode code 224 = .ok (.iconst 1, 1) := by decide +kernel
theorem dN_Law_law_225 : decode code 225 = .ok (.iadd, 1) := by decide +kernel
theorem dN_Law_law_226 : decode code 226 = .ok (.iaload, 1) := by decide +kernel
theorem dN_Law_law_227 : decode code 227 = .ok (.invokestatic 53, 3) := by decide +kernel
theorem dN_Law_law_230 : decode code 230 = .ok (.istore 5, 2) := by decide +kernel
theorem dN_Law_law_232 : decode code 232 = .ok (.aload_n 2, 1) := by decide +kernel
theorem dN_Law_law_233 : decode code 233 = .ok (.aload_n 0, 1) := by decide +kernel
theorem dN_Law_law_234 : decode code 234 = .ok (.iload 4, 2) := by decide +kernel
theorem dN_Law_law_236 : decode code 236 = .ok (.iconst 1, 1) := by decide +kernel
theorem dN_Law_law_237 : decode code 237 = .ok (.iadd, 1) := by decide +kernel
theorem dN_Law_law_238 : decode code 238 = .ok (.iaload, 1) := by decide +kernel
theorem dN_Law_law_239 : decode code 239 = .ok (.invokevirtual 55, 3) := by decide +kernel
theorem dN_Law_law_242 : decode code 242 = .ok (.aload_n 2, 1) := by decide +kernel
theorem dN_Law_law_243 : decode code 243 = .ok (.invokevirtual 45, 3) := by decide +kernel
theorem dN_Law_law_246 : decode code 246 = .ok (.iload 5, 2) := by decide +kernel
theorem dN_Law_law_248 : decode code 248 = .ok (.if_icmp .eq 5, 3) := by decide +kernel
theorem dN_Law_law_251 : decode code 251 = .ok (.iconst 0, 1) := by decide +kernel
theorem dN_Law_law_252 : decode code 252 = .ok (.ireturn, 1) := by decide +kernel
theorem dN_Law_law_253 : decode code 253 = .ok (.goto 374, 3) := by decide +kernel
theorem dN_Law_law_256 : decode code 256 = .ok (.aload_n 1, 1) := by decide +kernel
theorem dN_Law_law_257 : decode code 257 = .ok (.aload_n 0, 1) := by decide +kernel
theorem dN_Law_law_258 : decode code 258 = .ok (.iload 4, 2) := by decide +kernel
theorem dN_Law_law_260 : decode code 260 = .ok (.iconst 1, 1) := by decide +kernel
theorem dN_Law_law_261 : decode code 261 = .ok (.iadd, 1) := by decide +kernel
theorem dN_Law_law_262 : decode code 262 = .ok (.iaload, 1) := by decide +kernel
theorem dN_Law_law_263 : decode code 263 = .ok (.i2l, 1) := by decide +kernel
theorem dN_Law_law_264 : decode code 264 = .ok (.bipush 32, 2) := by decide +kernel
theorem dN_Law_law_266 : decode code 266 = .ok (.lshl, 1) := by decide +kernel
theorem dN_Law_law_267 : decode code 267 = .ok (.aload_n 0, 1) := by decide +kernel
theorem dN_Law_law_268 : decode code 268 = .ok (.iload 4, 2) := by decide +kernel
theorem dN_Law_law_270 : decode code 270 = .ok (.iconst 2, 1) := by decide +kernel
theorem dN_Law_law_271 : decode code 271 = .ok (.iadd, 1) := by decide +kernel
theorem dN_Law_law_272 : decode code 272 = .ok (.iaload, 1) := by decide +kernel
theorem dN_Law_law_273 : decode code 273 = .ok (.i2l, 1) := by decide +kernel
theorem dN_Law_law_274 : decode code 274 = .ok (.ldc2_w 56, 3) := by decide +kernel
theorem dN_Law_law_277 : decode code 277 = .ok (.land, 1) := by decide +kernel
theorem dN_Law_law_278 : decode code 278 = .ok (.lor, 1) := by decide +kernel
theorem dN_Law_law_279 : decode code 279 = .ok (.aload_n 0, 1) := by decide +kernel
theorem dN_Law_law_280 : decode code 280 = .ok (.iload 4, 2) := by decide +kernel
theorem dN_Law_law_282 : decode code 282 = .ok (.iconst 3, 1) := by decide +kernel
theorem dN_Law_law_283 : decode code 283 = .ok (.iadd, 1) := by decide +kernel
theorem dN_Law_law_284 : decode code 284 = .ok (.iaload, 1) := by decide +kernel
theorem dN_Law_law_285 : decode code 285 = .ok (.invokevirtual 58, 3) := by decide +kernel
theorem dN_Law_law_288 : decode code 288 = .ok (.aload_n 2, 1) := by decide +kernel
theorem dN_Law_law_289 : decode code 289 = .ok (.aload_n 0, 1) := by decide +kernel
theorem dN_Law_law_290 : decode code 290 = .ok (.iload 4, 2) := by decide +kernel
theorem dN_Law_law_292 : decode code 292 = .ok (.iconst 1, 1) := by decide +kernel
theorem dN_Law_law_293 : decode code 293 = .ok (.iadd, 1) := by decide +kernel
theorem dN_Law_law_294 : decode code 294 = .ok (.iaload, 1) := by decide +kernel
theorem dN_Law_law_295 : decode code 295 = .ok (.i2l, 1) := by decide +kernel
theorem dN_Law_law_296 : decode code 296 = .ok (.bipush 32, 2) := by decide +kernel
theorem dN_Law_law_298 : decode code 298 = .ok (.lshl, 1) := by decide +kernel
theorem dN_Law_law_299 : decode code 299 = .ok (.aload_n 0, 1) := by decide +kernel
theorem dN_Law_law_300 : decode code 300 = .ok (.iload 4, 2) := by decide +kernel
theorem dN_Law_law_302 : decode code 302 = .ok (.iconst 2, 1) := by decide +kernel
theorem dN_Law_law_303 : decode code 303 = .ok (.iadd, 1) := by decide +kernel
theorem dN_Law_law_304 : decode code 304 = .ok (.iaload, 1) := by decide +kernel
theorem dN_Law_law_305 : decode code 305 = .ok (.i2l, 1) := by decide +kernel
theorem dN_Law_law_306 : decode code 306 = .ok (.ldc2_w 56, 3) := by decide +kernel
theorem dN_Law_law_309 : decode code 309 = .ok (.land, 1) := by decide +kernel
theorem dN_Law_law_310 : decode code 310 = .ok (.lor, 1) := by decide +kernel
theorem dN_Law_law_311 : decode code 311 = .ok (.aload_n 0, 1) := by decide +kernel
theorem dN_Law_law_312 : decode code 312 = .ok (.iload 4, 2) := by decide +kernel
theorem dN_Law_law_314 : decode code 314 = .ok (.iconst 3, 1) := by decide +kernel
theorem dN_Law_law_315 : decode code 315 = .ok (.iadd, 1) := by decide +kernel
theorem dN_Law_law_316 : decode code 316 = .ok (.iaload, 1) := by decide +kernel
theorem dN_Law_law_317 : decode code 317 = .ok (.invokevirtual 62, 3) := by decide +kernel
theorem dN_Law_law_320 : decode code 320 = .ok (.if_icmp .eq 307, 3) := by decide +kernel
theorem dN_Law_law_323 : decode code 323 = .ok (.iconst 0, 1) := by decide +kernel
theorem dN_Law_law_324 : decode code 324 = .ok (.ireturn, 1) := by decide +kernel
theorem dN_Law_law_325 : decode code 325 = .ok (.aload_n 1, 1) := by decide +kernel
theorem dN_Law_law_326 : decode code 326 = .ok (.invokevirtual 63, 3) := by decide +kernel
theorem dN_Law_law_329 : decode code 329 = .ok (.aload_n 2, 1) := by decide +kernel
theorem dN_Law_law_330 : decode code 330 = .ok (.invokevirtual 66, 3) := by decide +kernel
theorem dN_Law_law_333 : decode code 333 = .ok (.goto 294, 3) := by decide +kernel
theorem dN_Law_law_336 : decode code 336 = .ok (.aload_n 1, 1) := by decide +kernel
theorem dN_Law_law_337 : decode code 337 = .ok (.aload_n 0, 1) := by decide +kernel
theorem dN_Law_law_338 : decode code 338 = .ok (.iload 4, 2) := by decide +kernel
theorem dN_Law_law_340 : decode code 340 = .ok (.iconst 1, 1) := by decide +kernel
theorem dN_Law_law_341 : decode code 341 = .ok (.iadd, 1) := by decide +kernel
theorem dN_Law_law_342 : decode code 342 = .ok (.iaload, 1) := by decide +kernel
theorem dN_Law_law_343 : decode code 343 = .ok (.aload_n 0, 1) := by decide +kernel
theorem dN_Law_law_344 : decode code 344 = .ok (.iload 4, 2) := by decide +kernel
theorem dN_Law_law_346 : decode code 346 = .ok (.iconst 2, 1) := by decide +kernel
theorem dN_Law_law_347 : decode code 347 = .ok (.iadd, 1) := by decide +kernel
theorem dN_Law_law_348 : decode code 348 = .ok (.iaload, 1) := by decide +kernel
theorem dN_Law_law_349 : decode code 349 = .ok (.ifCond .eq 7, 3) := by decide +kernel
theorem dN_Law_law_352 : decode code 352 = .ok (.iconst 1, 1) := by decide +kernel
theorem dN_Law_law_353 : decode code 353 = .ok (.goto 4, 3) := by decide +kernel
theorem dN_Law_law_356 : decode code 356 = .ok (.iconst 0, 1) := by decide +kernel
theorem dN_Law_law_357 : decode code 357 = .ok (.aload_n 0, 1) := by decide +kernel
theorem dN_Law_law_358 : decode code 358 = .ok (.iload 4, 2) := by decide +kernel
theorem dN_Law_law_360 : decode code 360 = .ok (.iconst 3, 1) := by decide +kernel
theorem dN_Law_law_361 : decode code 361 = .ok (.iadd, 1) := by decide +kernel
theorem dN_Law_law_362 : decode code 362 = .ok (.iaload, 1) := by decide +kernel
theorem dN_Law_law_363 : decode code 363 = .ok (.aload_n 0, 1) := by decide +kernel
theorem dN_Law_law_364 : decode code 364 = .ok (.iload 4, 2) := by decide +kernel
theorem dN_Law_law_366 : decode code 366 = .ok (.iconst 4, 1) := by decide +kernel
theorem dN_Law_law_367 : decode code 367 = .ok (.iadd, 1) := by decide +kernel
theorem dN_Law_law_368 : decode code 368 = .ok (.iaload, 1) := by decide +kernel
theorem dN_Law_law_369 : decode code 369 = .ok (.aload_n 3, 1) := by decide +kernel
theorem dN_Law_law_370 : decode code 370 = .ok (.invokestatic 67, 3) := by decide +kernel
theorem dN_Law_law_373 : decode code 373 = .ok (.istore 5, 2) := by decide +kernel
theorem dN_Law_law_375 : decode code 375 = .ok (.aload_n 2, 1) := by decide +kernel
theorem dN_Law_law_376 : decode code 376 = .ok (.aload_n 0, 1) := by decide +kernel
theorem dN_Law_law_377 : decode code 377 = .ok (.iload 4, 2) := by decide +kernel
theorem dN_Law_law_379 : decode code 379 = .ok (.iconst 1, 1) := by decide +kernel
theorem dN_Law_law_380 : decode code 380 = .ok (.iadd, 1) := by decide +kernel
theorem dN_Law_law_381 : decode code 381 = .ok (.iaload, 1) := by decide +kernel
theorem dN_Law_law_382 : decode code 382 = .ok (.aload_n 0, 1) := by decide +kernel
theorem dN_Law_law_383 : decode code 383 = .ok (.iload 4, 2) := by decide +kernel
theorem dN_Law_law_385 : decode code 385 = .ok (.iconst 2, 1) := by decide +kernel
theorem dN_Law_law_386 : decode code 386 = .ok (.iadd, 1) := by decide +kernel
theorem dN_Law_law_387 : decode code 387 = .ok (.iaload, 1) := by decide +kernel
theorem dN_Law_law_388 : decode code 388 = .ok (.ifCond .eq 7, 3) := by decide +kernel
theorem dN_Law_law_391 : decode code 391 = .ok (.iconst 1, 1) := by decide +kernel
theorem dN_Law_law_392 : decode code 392 = .ok (.goto 4, 3) := by decide +kernel
theorem dN_Law_law_395 : decode code 395 = .ok (.iconst 0, 1) := by decide +kernel
theorem dN_Law_law_396 : decode code 396 = .ok (.aload_n 0, 1) := by decide +kernel
theorem dN_Law_law_397 : decode code 397 = .ok (.iload 4, 2) := by decide +kernel
theorem dN_Law_law_399 : decode code 399 = .ok (.iconst 3, 1) := by decide +kernel
theorem dN_Law_law_400 : decode code 400 = .ok (.iadd, 1) := by decide +kernel
theorem dN_Law_law_401 : decode code 401 = .ok (.iaload, 1) := by decide +kernel
theorem dN_Law_law_402 : decode code 402 = .ok (.aload_n 0, 1) := by decide +kernel
theorem dN_Law_law_403 : decode code 403 = .ok (.iload 4, 2) := by decide +kernel
theorem dN_Law_law_405 : decode code 405 = .ok (.iconst 4, 1) := by decide +kernel
theorem dN_Law_law_406 : decode code 406 = .ok (.iadd, 1) := by decide +kernel
theorem dN_Law_law_407 : decode code 407 = .ok (.iaload, 1) := by decide +kernel
theorem dN_Law_law_408 : decode code 408 = .ok (.invokevirtual 70, 3) := by decide +kernel
theorem dN_Law_law_411 : decode code 411 = .ok (.istore 6, 2) := by decide +kernel
theorem dN_Law_law_413 : decode code 413 = .ok (.aload_n 2, 1) := by decide +kernel
theorem dN_Law_law_414 : decode code 414 = .ok (.invokevirtual 45, 3) := by decide +kernel
theorem dN_Law_law_417 : decode code 417 = .ok (.iload 5, 2) := by decide +kernel
theorem dN_Law_law_419 : decode code 419 = .ok (.if_icmp .eq 5, 3) := by decide +kernel
theorem dN_Law_law_422 : decode code 422 = .ok (.iconst 0, 1) := by decide +kernel
theorem dN_Law_law_423 : decode code 423 = .ok (.ireturn, 1) := by decide +kernel
theorem dN_Law_law_424 : decode code 424 = .ok (.iload 5, 2) := by decide +kernel
theorem dN_Law_law_426 : decode code 426 = .ok (.ifCond .ne 15, 3) := by decide +kernel
theorem dN_Law_law_429 : decode code 429 = .ok (.aload_n 3, 1) := by decide +kernel
theorem dN_Law_law_430 : decode code 430 = .ok (.iconst 0, 1) := by decide +kernel
theorem dN_Law_law_431 : decode code 431 = .ok (.laload, 1) := by decide +kernel
theorem dN_Law_law_432 : decode code 432 = .ok (.iload 6, 2) := by decide +kernel
theorem dN_Law_law_434 : decode code 434 = .ok (.i2l, 1) := by decide +kernel
theorem dN_Law_law_435 : decode code 435 = .ok (.lcmp, 1) := by decide +kernel
theorem dN_Law_law_436 : decode code 436 = .ok (.ifCond .eq 5, 3) := by decide +kernel
theorem dN_Law_law_439 : decode code 439 = .ok (.iconst 0, 1) := by decide +kernel
theorem dN_Law_law_440 : decode code 440 = .ok (.ireturn, 1) := by decide +kernel
theorem dN_Law_law_441 : decode code 441 = .ok (.goto 186, 3) := by decide +kernel
theorem dN_Law_law_444 : decode code 444 = .ok (.aload_n 1, 1) := by decide +kernel
theorem dN_Law_law_445 : decode code 445 = .ok (.aload_n 0, 1) := by decide +kernel
theorem dN_Law_law_446 : decode code 446 = .ok (.iload 4, 2) := by decide +kernel
theorem dN_Law_law_448 : decode code 448 = .ok (.iconst 1, 1) := by decide +kernel
theorem dN_Law_law_449 : decode code 449 = .ok (.iadd, 1) := by decide +kernel
theorem dN_Law_law_450 : decode code 450 = .ok (.iaload, 1) := by decide +kernel
theorem dN_Law_law_451 : decode code 451 = .ok (.invokevirtual 71, 3) := by decide +kernel
theorem dN_Law_law_454 : decode code 454 = .ok (.aload_n 2, 1) := by decide +kernel
theorem dN_Law_law_455 : decode code 455 = .ok (.aload_n 0, 1) := by decide +kernel
theorem dN_Law_law_456 : decode code 456 = .ok (.iload 4, 2) := by decide +kernel
theorem dN_Law_law_458 : decode code 458 = .ok (.iconst 1, 1) := by decide +kernel
theorem dN_Law_law_459 : decode code 459 = .ok (.iadd, 1) := by decide +kernel
theorem dN_Law_law_460 : decode code 460 = .ok (.iaload, 1) := by decide +kernel
theorem dN_Law_law_461 : decode code 461 = .ok (.invokevirtual 75, 3) := by decide +kernel
theorem dN_Law_law_464 : decode code 464 = .ok (.if_icmp .eq 163, 3) := by decide +kernel
theorem dN_Law_law_467 : decode code 467 = .ok (.iconst 0, 1) := by decide +kernel
theorem dN_Law_law_468 : decode code 468 = .ok (.ireturn, 1) := by decide +kernel
theorem dN_Law_law_469 : decode code 469 = .ok (.aload_n 1, 1) := by decide +kernel
theorem dN_Law_law_470 : decode code 470 = .ok (.aload_n 0, 1) := by decide +kernel
theorem dN_Law_law_471 : decode code 471 = .ok (.iload 4, 2) := by decide +kernel
theorem dN_Law_law_473 : decode code 473 = .ok (.iconst 1, 1) := by decide +kernel
theorem dN_Law_law_474 : decode code 474 = .ok (.iadd, 1) := by decide +kernel
theorem dN_Law_law_475 : decode code 475 = .ok (.iaload, 1) := by decide +kernel
theorem dN_Law_law_476 : decode code 476 = .ok (.aload_n 0, 1) := by decide +kernel
theorem dN_Law_law_477 : decode code 477 = .ok (.iload 4, 2) := by decide +kernel
theorem dN_Law_law_479 : decode code 479 = .ok (.iconst 2, 1) := by decide +kernel
theorem dN_Law_law_480 : decode code 480 = .ok (.iadd, 1) := by decide +kernel
theorem dN_Law_law_481 : decode code 481 = .ok (.iaload, 1) := by decide +kernel
theorem dN_Law_law_482 : decode code 482 = .ok (.ifCond .eq 7, 3) := by decide +kernel
theorem dN_Law_law_485 : decode code 485 = .ok (.iconst 1, 1) := by decide +kernel
theorem dN_Law_law_486 : decode code 486 = .ok (.goto 4, 3) := by decide +kernel
theorem dN_Law_law_489 : decode code 489 = .ok (.iconst 0, 1) := by decide +kernel
theorem dN_Law_law_490 : decode code 490 = .ok (.aload_n 0, 1) := by decide +kernel
theorem dN_Law_law_491 : decode code 491 = .ok (.iload 4, 2) := by decide +kernel
theorem dN_Law_law_493 : decode code 493 = .ok (.iconst 3, 1) := by decide +kernel
theorem dN_Law_law_494 : decode code 494 = .ok (.iadd, 1) := by decide +kernel
theorem dN_Law_law_495 : decode code 495 = .ok (.iaload, 1) := by decide +kernel
theorem dN_Law_law_496 : decode code 496 = .ok (.aload_n 3, 1) := by decide +kernel
theorem dN_Law_law_497 : decode code 497 = .ok (.invokestatic 76, 3) := by decide +kernel
theorem dN_Law_law_500 : decode code 500 = .ok (.istore 5, 2) := by decide +kernel
theorem dN_Law_law_502 : decode code 502 = .ok (.aload_n 2, 1) := by decide +kernel
theorem dN_Law_law_503 : decode code 503 = .ok (.aload_n 0, 1) := by decide +kernel
theorem dN_Law_law_504 : decode code 504 = .ok (.iload 4, 2) := by decide +kernel
theorem dN_Law_law_506 : decode code 506 = .ok (.iconst 1, 1) := by decide +kernel
theorem dN_Law_law_507 : decode code 507 = .ok (.iadd, 1) := by decide +kernel
theorem dN_Law_law_508 : decode code 508 = .ok (.iaload, 1) := by decide +kernel
theorem dN_Law_law_509 : decode code 509 = .ok (.aload_n 0, 1) := by decide +kernel
theorem dN_Law_law_510 : decode code 510 = .ok (.iload 4, 2) := by decide +kernel
theorem dN_Law_law_512 : decode code 512 = .ok (.iconst 2, 1) := by decide +kernel
theorem dN_Law_law_513 : decode code 513 = .ok (.iadd, 1) := by decide +kernel
theorem dN_Law_law_514 : decode code 514 = .ok (.iaload, 1) := by decide +kernel
theorem dN_Law_law_515 : decode code 515 = .ok (.ifCond .eq 7, 3) := by decide +kernel
theorem dN_Law_law_518 : decode code 518 = .ok (.iconst 1, 1) := by decide +kernel
theorem dN_Law_law_519 : decode code 519 = .ok (.goto 4, 3) := by decide +kernel
theorem dN_Law_law_522 : decode code 522 = .ok (.iconst 0, 1) := by decide +kernel
theorem dN_Law_law_523 : decode code 523 = .ok (.aload_n 0, 1) := by decide +kernel
theorem dN_Law_law_524 : decode code 524 = .ok (.iload 4, 2) := by decide +kernel
theorem dN_Law_law_526 : decode code 526 = .ok (.iconst 3, 1) := by decide +kernel
theorem dN_Law_law_527 : decode code 527 = .ok (.iadd, 1) := by decide +kernel
theorem dN_Law_law_528 : decode code 528 = .ok (.iaload, 1) := by decide +kernel
theorem dN_Law_law_529 : decode code 529 = .ok (.invokevirtual 79, 3) := by decide +kernel
theorem dN_Law_law_532 : decode code 532 = .ok (.istore 6, 2) := by decide +kernel
theorem dN_Law_law_534 : decode code 534 = .ok (.aload_n 2, 1) := by decide +kernel
theorem dN_Law_law_535 : decode code 535 = .ok (.invokevirtual 45, 3) := by decide +kernel
theorem dN_Law_law_538 : decode code 538 = .ok (.iload 5, 2) := by decide +kernel
theorem dN_Law_law_540 : decode code 540 = .ok (.if_icmp .eq 5, 3) := by decide +kernel
theorem dN_Law_law_543 : decode code 543 = .ok (.iconst 0, 1) := by decide +kernel
theorem dN_Law_law_544 : decode code 544 = .ok (.ireturn, 1) := by decide +kernel
theorem dN_Law_law_545 : decode code 545 = .ok (.iload 5, 2) := by decide +kernel
theorem dN_Law_law_547 : decode code 547 = .ok (.ifCond .ne 15, 3) := by decide +kernel
theorem dN_Law_law_550 : decode code 550 = .ok (.aload_n 3, 1) := by decide +kernel
theorem dN_Law_law_551 : decode code 551 = .ok (.iconst 0, 1) := by decide +kernel
theorem dN_Law_law_552 : decode code 552 = .ok (.laload, 1) := by decide +kernel
theorem dN_Law_law_553 : decode code 553 = .ok (.iload 6, 2) := by decide +kernel
theorem dN_Law_law_555 : decode code 555 = .ok (.i2l, 1) := by decide +kernel
theorem dN_Law_law_556 : decode code 556 = .ok (.lcmp, 1) := by decide +kernel
theorem dN_Law_law_557 : decode code 557 = .ok (.ifCond .eq 5, 3) := by decide +kernel
theorem dN_Law_law_560 : decode code 560 = .ok (.iconst 0, 1) := by decide +kernel
theorem dN_Law_law_561 : decode code 561 = .ok (.ireturn, 1) := by decide +kernel
theorem dN_Law_law_562 : decode code 562 = .ok (.goto 65, 3) := by decide +kernel
theorem dN_Law_law_565 : decode code 565 = .ok (.aload_n 1, 1) := by decide +kernel
theorem dN_Law_law_566 : decode code 566 = .ok (.aload_n 0, 1) := by decide +kernel
theorem dN_Law_law_567 : decode code 567 = .ok (.iload 4, 2) := by decide +kernel
theorem dN_Law_law_569 : decode code 569 = .ok (.iconst 1, 1) := by decide +kernel
theorem dN_Law_law_570 : decode code 570 = .ok (.iadd, 1) := by decide +kernel
theorem dN_Law_law_571 : decode code 571 = .ok (.iaload, 1) := by decide +kernel
theorem dN_Law_law_572 : decode code 572 = .ok (.invokestatic 80, 3) := by decide +kernel
theorem dN_Law_law_575 : decode code 575 = .ok (.istore 5, 2) := by decide +kernel
theorem dN_Law_law_577 : decode code 577 = .ok (.aload_n 2, 1) := by decide +kernel
theorem dN_Law_law_578 : decode code 578 = .ok (.aload_n 0, 1) := by decide +kernel
theorem dN_Law_law_579 : decode code 579 = .ok (.iload 4, 2) := by decide +kernel
theorem dN_Law_law_581 : decode code 581 = .ok (.iconst 1, 1) := by decide +kernel
theorem dN_Law_law_582 : decode code 582 = .ok (.iadd, 1) := by decide +kernel
theorem dN_Law_law_583 : decode code 583 = .ok (.iaload, 1) := by decide +kernel
theorem dN_Law_law_584 : decode code 584 = .ok (.invokevirtual 82, 3) := by decide +kernel
theorem dN_Law_law_587 : decode code 587 = .ok (.aload_n 2, 1) := by decide +kernel
theorem dN_Law_law_588 : decode code 588 = .ok (.invokevirtual 45, 3) := by decide +kernel
theorem dN_Law_law_591 : decode code 591 = .ok (.iload 5, 2) := by decide +kernel
theorem dN_Law_law_593 : decode code 593 = .ok (.if_icmp .eq 5, 3) := by decide +kernel
theorem dN_Law_law_596 : decode code 596 = .ok (.iconst 0, 1) := by decide +kernel
theorem dN_Law_law_597 : decode code 597 = .ok (.ireturn, 1) := by decide +kernel
theorem dN_Law_law_598 : decode code 598 = .ok (.goto 29, 3) := by decide +kernel
theorem dN_Law_law_601 : decode code 601 = .ok (.aload_n 1, 1) := by decide +kernel
theorem dN_Law_law_602 : decode code 602 = .ok (.invokevirtual 83, 3) := by decide +kernel
theorem dN_Law_law_605 : decode code 605 = .ok (.aload_n 2, 1) := by decide +kernel
theorem dN_Law_law_606 : decode code 606 = .ok (.invokevirtual 87, 3) := by decide +kernel
theorem dN_Law_law_609 : decode code 609 = .ok (.if_icmp .eq 18, 3) := by decide +kernel
theorem dN_Law_law_612 : decode code 612 = .ok (.iconst 0, 1) := by decide +kernel
theorem dN_Law_law_613 : decode code 613 = .ok (.ireturn, 1) := by decide +kernel
theorem dN_Law_law_614 : decode code 614 = .ok (.aload_n 1, 1) := by decide +kernel
theorem dN_Law_law_615 : decode code 615 = .ok (.invokevirtual 88, 3) := by decide +kernel
theorem dN_Law_law_618 : decode code 618 = .ok (.aload_n 2, 1) := by decide +kernel
theorem dN_Law_law_619 : decode code 619 = .ok (.invokevirtual 91, 3) := by decide +kernel
theorem dN_Law_law_622 : decode code 622 = .ok (.if_icmp .eq 5, 3) := by decide +kernel
theorem dN_Law_law_625 : decode code 625 = .ok (.iconst 0, 1) := by decide +kernel
theorem dN_Law_law_626 : decode code 626 = .ok (.ireturn, 1) := by decide +kernel
theorem dN_Law_law_627 : decode code 627 = .ok (.iinc 4 6, 3) := by decide +kernel
theorem dN_Law_law_630 : decode code 630 = .ok (.goto (-607), 3) := by decide +kernel
theorem dN_Law_law_633 : decode code 633 = .ok (.iconst 1, 1) := by decide +kernel
theorem dN_Law_law_634 : decode code 634 = .ok (.ireturn, 1) := by decide +kernel

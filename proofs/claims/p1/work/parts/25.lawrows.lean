theorem d_law_0 : decode code 0 = .ok (.new 8, 3) := by decide +kernel
theorem d_law_3 : decode code 3 = .ok (.dup, 1) := by decide +kernel
theorem d_law_4 : decode code 4 = .ok (.invokespecial 26, 3) := by decide +kernel
theorem d_law_7 : decode code 7 = .ok (.astore_n 1, 1) := by decide +kernel
theorem d_law_8 : decode code 8 = .ok (.new 27, 3) := by decide +kernel
theorem d_law_11 : decode code 11 = .ok (.dup, 1) := by decide +kernel
theorem d_law_12 : decode code 12 = .ok (.invokespecial 29, 3) := by decide +kernel
theorem d_law_15 : decode code 15 = .ok (.astore_n 2, 1) := by decide +kernel
theorem d_law_16 : decode code 16 = .ok (.iconst 1, 1) := by decide +kernel
theorem d_law_17 : decode code 17 = .ok (.newarray .long, 2) := by decide +kernel
theorem d_law_19 : decode code 19 = .ok (.astore_n 3, 1) := by decide +kernel
theorem d_law_20 : decode code 20 = .ok (.iconst 0, 1) := by decide +kernel
theorem d_law_21 : decode code 21 = .ok (.istore 4, 2) := by decide +kernel
theorem d_law_23 : decode code 23 = .ok (.iload 4, 2) := by decide +kernel
theorem d_law_25 : decode code 25 = .ok (.aload_n 0, 1) := by decide +kernel
theorem d_law_26 : decode code 26 = .ok (.arraylength, 1) := by decide +kernel
theorem d_law_27 : decode code 27 = .ok (.bipush 6, 2) := by decide +kernel
theorem d_law_29 : decode code 29 = .ok (.isub, 1) := by decide +kernel
theorem d_law_30 : decode code 30 = .ok (.if_icmp .gt 497, 3) := by decide +kernel
theorem d_law_33 : decode code 33 = .ok (.aload_n 0, 1) := by decide +kernel
theorem d_law_34 : decode code 34 = .ok (.iload 4, 2) := by decide +kernel
theorem d_law_36 : decode code 36 = .ok (.iaload, 1) := by decide +kernel
theorem d_law_37 : decode code 37 = .ok (.bipush 15, 2) := by decide +kernel
theorem d_law_39 : decode code 39 = .ok (.iand, 1) := by decide +kernel
theorem d_law_40 : decode code 40 = .ok (.tableswitch 481 0 10 #[60, 131, 156, 169, 225, 281, 294, 350, 406, 431, 456], 60) := by decide +kernel
theorem d_law_100 : decode code 100 = .ok (.aload_n 1, 1) := by decide +kernel
theorem d_law_101 : decode code 101 = .ok (.aload_n 0, 1) := by decide +kernel
theorem d_law_102 : decode code 102 = .ok (.iload 4, 2) := by decide +kernel
theorem d_law_104 : decode code 104 = .ok (.iconst 1, 1) := by decide +kernel
theorem d_law_105 : decode code 105 = .ok (.iadd, 1) := by decide +kernel
theorem d_law_106 : decode code 106 = .ok (.iaload, 1) := by decide +kernel
theorem d_law_107 : decode code 107 = .ok (.aload_n 0, 1) := by decide +kernel
theorem d_law_108 : decode code 108 = .ok (.iload 4, 2) := by decide +kernel
theorem d_law_110 : decode code 110 = .ok (.iconst 2, 1) := by decide +kernel
theorem d_law_111 : decode code 111 = .ok (.iadd, 1) := by decide +kernel
theorem d_law_112 : decode code 112 = .ok (.iaload, 1) := by decide +kernel
theorem d_law_113 : decode code 113 = .ok (.aload_n 0, 1) := by decide +kernel
theorem d_law_114 : decode code 114 = .ok (.iload 4, 2) := by decide +kernel
theorem d_law_116 : decode code 116 = .ok (.iconst 3, 1) := by decide +kernel
theorem d_law_117 : decode code 117 = .ok (.iadd, 1) := by decide +kernel
theorem d_law_118 : decode code 118 = .ok (.iaload, 1) := by decide +kernel
theorem d_law_119 : decode code 119 = .ok (.aload_n 0, 1) := by decide +kernel
theorem d_law_120 : decode code 120 = .ok (.iload 4, 2) := by decide +kernel
theorem d_law_122 : decode code 122 = .ok (.iconst 4, 1) := by decide +kernel
theorem d_law_123 : decode code 123 = .ok (.iadd, 1) := by decide +kernel
theorem d_law_124 : decode code 124 = .ok (.iaload, 1) := by decide +kernel
theorem d_law_125 : decode code 125 = .ok (.aload_n 0, 1) := by decide +kernel
theorem d_law_126 : decode code 126 = .ok (.iload 4, 2) := by decide +kernel
theorem d_law_128 : decode code 128 = .ok (.iconst 5, 1) := by decide +kernel
theorem d_law_129 : decode code 129 = .ok (.iadd, 1) := by decide +kernel
theorem d_law_130 : decode code 130 = .ok (.iaload, 1) := by decide +kernel
theorem d_law_131 : decode code 131 = .ok (.invokevirtual 30, 3) := by decide +kernel
theorem d_law_134 : decode code 134 = .ok (.aload_n 2, 1) := by decide +kernel
theorem d_law_135 : decode code 135 = .ok (.aload_n 0, 1) := by decide +kernel
theorem d_law_136 : decode code 136 = .ok (.iload 4, 2) := by decide +kernel
theorem d_law_138 : decode code 138 = .ok (.iconst 1, 1) := by decide +kernel
theorem d_law_139 : decode code 139 = .ok (.iadd, 1) := by decide +kernel
theorem d_law_140 : decode code 140 = .ok (.iaload, 1) := by decide +kernel
theorem d_law_141 : decode code 141 = .ok (.aload_n 0, 1) := by decide +kernel
theorem d_law_142 : decode code 142 = .ok (.iload 4, 2) := by decide +kernel
theorem d_law_144 : decode code 144 = .ok (.iconst 2, 1) := by decide +kernel
theorem d_law_145 : decode code 145 = .ok (.iadd, 1) := by decide +kernel
theorem d_law_146 : decode code 146 = .ok (.iaload, 1) := by decide +kernel
theorem d_law_147 : decode code 147 = .ok (.aload_n 0, 1) := by decide +kernel
theorem d_law_148 : decode code 148 = .ok (.iload 4, 2) := by decide +kernel
theorem d_law_150 : decode code 150 = .ok (.iconst 3, 1) := by decide +kernel
theorem d_law_151 : decode code 151 = .ok (.iadd, 1) := by decide +kernel
theorem d_law_152 : decode code 152 = .ok (.iaload, 1) := by decide +kernel
theorem d_law_153 : decode code 153 = .ok (.aload_n 0, 1) := by decide +kernel
theorem d_law_154 : decode code 154 = .ok (.iload 4, 2) := by decide +kernel
theorem d_law_156 : decode code 156 = .ok (.iconst 4, 1) := by decide +kernel
theorem d_law_157 : decode code 157 = .ok (.iadd, 1) := by decide +kernel
theorem d_law_158 : decode code 158 = .ok (.iaload, 1) := by decide +kernel
theorem d_law_159 : decode code 159 = .ok (.aload_n 0, 1) := by decide +kernel
theorem d_law_160 : decode code 160 = .ok (.iload 4, 2) := by decide +kernel
theorem d_law_162 : decode code 162 = .ok (.iconst 5, 1) := by decide +kernel
theorem d_law_163 : decode code 163 = .ok (.iadd, 1) := by decide +kernel
theorem d_law_164 : decode code 164 = .ok (.iaload, 1) := by decide +kernel
theorem d_law_165 : decode code 165 = .ok (.invokevirtual 34, 3) := by decide +kernel
theorem d_law_168 : decode code 168 = .ok (.goto 353, 3) := by decide +kernel
theorem d_law_171 : decode code 171 = .ok (.aload_n 1, 1) := by decide +kernel
theorem d_law_172 : decode code 172 = .ok (.aload_n 0, 1) := by decide +kernel
theorem d_law_173 : decode code 173 = .ok (.iload 4, 2) := by decide +kernel
theorem d_law_175 : decode code 175 = .ok (.iconst 1, 1) := by decide +kernel
theorem d_law_176 : decode code 176 = .ok (.iadd, 1) := by decide +kernel
theorem d_law_177 : decode code 177 = .ok (.iaload, 1) := by decide +kernel
theorem d_law_178 : decode code 178 = .ok (.invokevirtual 35, 3) := by decide +kernel
theorem d_law_181 : decode code 181 = .ok (.aload_n 2, 1) := by decide +kernel
theorem d_law_182 : decode code 182 = .ok (.aload_n 0, 1) := by decide +kernel
theorem d_law_183 : decode code 183 = .ok (.iload 4, 2) := by decide +kernel
theorem d_law_185 : decode code 185 = .ok (.iconst 1, 1) := by decide +kernel
theorem d_law_186 : decode code 186 = .ok (.iadd, 1) := by decide +kernel
theorem d_law_187 : decode code 187 = .ok (.iaload, 1) := by decide +kernel
theorem d_law_188 : decode code 188 = .ok (.invokevirtual 38, 3) := by decide +kernel
theorem d_law_191 : decode code 191 = .ok (.if_icmp .eq 330, 3) := by decide +kernel
theorem d_law_194 : decode code 194 = .ok (.iconst 0, 1) := by decide +kernel
theorem d_law_195 : decode code 195 = .ok (.ireturn, 1) := by decide +kernel
theorem d_law_196 : decode code 196 = .ok (.aload_n 1, 1) := by decide +kernel
theorem d_law_197 : decode code 197 = .ok (.invokevirtual 39, 3) := by decide +kernel
theorem d_law_200 : decode code 200 = .ok (.aload_n 2, 1) := by decide +kernel
theorem d_law_201 : decode code 201 = .ok (.invokevirtual 43, 3) := by decide +kernel
theorem d_law_204 : decode code 204 = .ok (.if_icmp .eq 317, 3) := by decide +kernel
theorem d_law_207 : decode code 207 = .ok (.iconst 0, 1) := by decide +kernel
theorem d_law_208 : decode code 208 = .ok (.ireturn, 1) := by decide +kernel
theorem d_law_209 : decode code 209 = .ok (.aload_n 1, 1) := by decide +kernel
theorem d_law_210 : decode code 210 = .ok (.aload_n 0, 1) := by decide +kernel
theorem d_law_211 : decode code 211 = .ok (.iload 4, 2) := by decide +kernel
theorem d_law_213 : decode code 213 = .ok (.iconst 1, 1) := by decide +kernel
theorem d_law_214 : decode code 214 = .ok (.iadd, 1) := by decide +kernel
theorem d_law_215 : decode code 215 = .ok (.iaload, 1) := by decide +kernel
theorem d_law_216 : decode code 216 = .ok (.aload_n 3, 1) := by decide +kernel
theorem d_law_217 : decode code 217 = .ok (.invokestatic 44, 3) := by decide +kernel
theorem d_law_220 : decode code 220 = .ok (.istore 5, 2) := by decide +kernel
theorem d_law_222 : decode code 222 = .ok (.aload_n 2, 1) := by decide +kernel
theorem d_law_223 : decode code 223 = .ok (.aload_n 0, 1) := by decide +kernel
theorem d_law_224 : decode code 224 = .ok (.iload 4, 2) := by decide +kernel
theorem d_law_226 : decode code 226 = .ok (.iconst 1, 1) := by decide +kernel
theorem d_law_227 : decode code 227 = .ok (.iadd, 1) := by decide +kernel
theorem d_law_228 : decode code 228 = .ok (.iaload, 1) := by decide +kernel
theorem d_law_229 : decode code 229 = .ok (.invokevirtual 49, 3) := by decide +kernel
theorem d_law_232 : decode code 232 = .ok (.istore 6, 2) := by decide +kernel
theorem d_law_234 : decode code 234 = .ok (.aload_n 2, 1) := by decide +kernel
theorem d_law_235 : decode code 235 = .ok (.invokevirtual 50, 3) := by decide +kernel
theorem d_law_238 : decode code 238 = .ok (.iload 5, 2) := by decide +kernel
theorem d_law_240 : decode code 240 = .ok (.if_icmp .eq 5, 3) := by decide +kernel
theorem d_law_243 : decode code 243 = .ok (.iconst 0, 1) := by decide +kernel
theorem d_law_244 : decode code 244 = .ok (.ireturn, 1) := by decide +kernel
theorem d_law_245 : decode code 245 = .ok (.iload 5, 2) := by decide +kernel
theorem d_law_247 : decode code 247 = .ok (.ifCond .ne 15, 3) := by decide +kernel
theorem d_law_250 : decode code 250 = .ok (.aload_n 3, 1) := by decide +kernel
theorem d_law_251 : decode code 251 = .ok (.iconst 0, 1) := by decide +kernel
theorem d_law_252 : decode code 252 = .ok (.laload, 1) := by decide +kernel
theorem d_law_253 : decode code 253 = .ok (.iload 6, 2) := by decide +kernel
theorem d_law_255 : decode code 255 = .ok (.i2l, 1) := by decide +kernel
theorem d_law_256 : decode code 256 = .ok (.lcmp, 1) := by decide +kernel
theorem d_law_257 : decode code 257 = .ok (.ifCond .eq 5, 3) := by decide +kernel
theorem d_law_260 : decode code 260 = .ok (.iconst 0, 1) := by decide +kernel
theorem d_law_261 : decode code 261 = .ok (.ireturn, 1) := by decide +kernel
theorem d_law_262 : decode code 262 = .ok (.goto 259, 3) := by decide +kernel
theorem d_law_265 : decode code 265 = .ok (.aload_n 1, 1) := by decide +kernel
theorem d_law_266 : decode code 266 = .ok (.aload_n 0, 1) := by decide +kernel
theorem d_law_267 : decode code 267 = .ok (.iload 4, 2) := by decide +kernel
theorem d_law_269 : decode code 269 = .ok (.iconst 1, 1) := by decide +kernel
theorem d_law_270 : decode code 270 = .ok (.iadd, 1) := by decide +kernel
theorem d_law_271 : decode code 271 = .ok (.iaload, 1) := by decide +kernel
theorem d_law_272 : decode code 272 = .ok (.aload_n 3, 1) := by decide +kernel
theorem d_law_273 : decode code 273 = .ok (.invokestatic 53, 3) := by decide +kernel
theorem d_law_276 : decode code 276 = .ok (.istore 5, 2) := by decide +kernel
theorem d_law_278 : decode code 278 = .ok (.aload_n 2, 1) := by decide +kernel
theorem d_law_279 : decode code 279 = .ok (.aload_n 0, 1) := by decide +kernel
theorem d_law_280 : decode code 280 = .ok (.iload 4, 2) := by decide +kernel
theorem d_law_282 : decode code 282 = .ok (.iconst 1, 1) := by decide +kernel
theorem d_law_283 : decode code 283 = .ok (.iadd, 1) := by decide +kernel
theorem d_law_284 : decode code 284 = .ok (.iaload, 1) := by decide +kernel
theorem d_law_285 : decode code 285 = .ok (.invokevirtual 55, 3) := by decide +kernel
theorem d_law_288 : decode code 288 = .ok (.istore 6, 2) := by decide +kernel
theorem d_law_290 : decode code 290 = .ok (.aload_n 2, 1) := by decide +kernel
theorem d_law_291 : decode code 291 = .ok (.invokevirtual 50, 3) := by decide +kernel
theorem d_law_294 : decode code 294 = .ok (.iload 5, 2) := by decide +kernel
theorem d_law_296 : decode code 296 = .ok (.if_icmp .eq 5, 3) := by decide +kernel
theorem d_law_299 : decode code 299 = .ok (.iconst 0, 1) := by decide +kernel
theorem d_law_300 : decode code 300 = .ok (.ireturn, 1) := by decide +kernel
theorem d_law_301 : decode code 301 = .ok (.iload 5, 2) := by decide +kernel
theorem d_law_303 : decode code 303 = .ok (.ifCond .ne 15, 3) := by decide +kernel
theorem d_law_306 : decode code 306 = .ok (.aload_n 3, 1) := by decide +kernel
theorem d_law_307 : decode code 307 = .ok (.iconst 0, 1) := by decide +kernel
theorem d_law_308 : decode code 308 = .ok (.laload, 1) := by decide +kernel
theorem d_law_309 : decode code 309 = .ok (.iload 6, 2) := by decide +kernel
theorem d_law_311 : decode code 311 = .ok (.i2l, 1) := by decide +kernel
theorem d_law_312 : decode code 312 = .ok (.lcmp, 1) := by decide +kernel
theorem d_law_313 : decode code 313 = .ok (.ifCond .eq 5, 3) := by decide +kernel
theorem d_law_316 : decode code 316 = .ok (.iconst 0, 1) := by decide +kernel
theorem d_law_317 : decode code 317 = .ok (.ireturn, 1) := by decide +kernel
theorem d_law_318 : decode code 318 = .ok (.goto 203, 3) := by decide +kernel
theorem d_law_321 : decode code 321 = .ok (.aload_n 1, 1) := by decide +kernel
theorem d_law_322 : decode code 322 = .ok (.invokevirtual 56, 3) := by decide +kernel
theorem d_law_325 : decode code 325 = .ok (.aload_n 2, 1) := by decide +kernel
theorem d_law_326 : decode code 326 = .ok (.invokevirtual 59, 3) := by decide +kernel
theorem d_law_329 : decode code 329 = .ok (.if_icmp .eq 192, 3) := by decide +kernel
theorem d_law_332 : decode code 332 = .ok (.iconst 0, 1) := by decide +kernel
theorem d_law_333 : decode code 333 = .ok (.ireturn, 1) := by decide +kernel
theorem d_law_334 : decode code 334 = .ok (.aload_n 1, 1) := by decide +kernel
theorem d_law_335 : decode code 335 = .ok (.aload_n 0, 1) := by decide +kernel
theorem d_law_336 : decode code 336 = .ok (.iload 4, 2) := by decide +kernel
theorem d_law_338 : decode code 338 = .ok (.iconst 1, 1) := by decide +kernel
theorem d_law_339 : decode code 339 = .ok (.iadd, 1) := by decide +kernel
theorem d_law_340 : decode code 340 = .ok (.iaload, 1) := by decide +kernel
theorem d_law_341 : decode code 341 = .ok (.aload_n 3, 1) := by decide +kernel
theorem d_law_342 : decode code 342 = .ok (.invokestatic 60, 3) := by decide +kernel
theorem d_law_345 : decode code 345 = .ok (.istore 5, 2) := by decide +kernel
theorem d_law_347 : decode code 347 = .ok (.aload_n 2, 1) := by decide +kernel
theorem d_law_348 : decode code 348 = .ok (.aload_n 0, 1) := by decide +kernel
theorem d_law_349 : decode code 349 = .ok (.iload 4, 2) := by decide +kernel
theorem d_law_351 : decode code 351 = .ok (.iconst 1, 1) := by decide +kernel
theorem d_law_352 : decode code 352 = .ok (.iadd, 1) := by decide +kernel
theorem d_law_353 : decode code 353 = .ok (.iaload, 1) := by decide +kernel
theorem d_law_354 : decode code 354 = .ok (.invokevirtual 62, 3) := by decide +kernel
theorem d_law_357 : decode code 357 = .ok (.istore 6, 2) := by decide +kernel
theorem d_law_359 : decode code 359 = .ok (.aload_n 2, 1) := by decide +kernel
theorem d_law_360 : decode code 360 = .ok (.invokevirtual 50, 3) := by decide +kernel
theorem d_law_363 : decode code 363 = .ok (.iload 5, 2) := by decide +kernel
theorem d_law_365 : decode code 365 = .ok (.if_icmp .eq 5, 3) := by decide +kernel
theorem d_law_368 : decode code 368 = .ok (.iconst 0, 1) := by decide +kernel
theorem d_law_369 : decode code 369 = .ok (.ireturn, 1) := by decide +kernel
theorem d_law_370 : decode code 370 = .ok (.iload 5, 2) := by decide +kernel
theorem d_law_372 : decode code 372 = .ok (.ifCond .ne 15, 3) := by decide +kernel
theorem d_law_375 : decode code 375 = .ok (.aload_n 3, 1) := by decide +kernel
theorem d_law_376 : decode code 376 = .ok (.iconst 0, 1) := by decide +kernel
theorem d_law_377 : decode code 377 = .ok (.laload, 1) := by decide +kernel
theorem d_law_378 : decode code 378 = .ok (.iload 6, 2) := by decide +kernel
theorem d_law_380 : decode code 380 = .ok (.i2l, 1) := by decide +kernel
theorem d_law_381 : decode code 381 = .ok (.lcmp, 1) := by decide +kernel
theorem d_law_382 : decode code 382 = .ok (.ifCond .eq 5, 3) := by decide +kernel
theorem d_law_385 : decode code 385 = .ok (.iconst 0, 1) := by decide +kernel
theorem d_law_386 : decode code 386 = .ok (.ireturn, 1) := by decide +kernel
theorem d_law_387 : decode code 387 = .ok (.goto 134, 3) := by decide +kernel
theorem d_law_390 : decode code 390 = .ok (.aload_n 1, 1) := by decide +kernel
theorem d_law_391 : decode code 391 = .ok (.aload_n 0, 1) := by decide +kernel
theorem d_law_392 : decode code 392 = .ok (.iload 4, 2) := by decide +kernel
theorem d_law_394 : decode code 394 = .ok (.iconst 1, 1) := by decide +kernel
theorem d_law_395 : decode code 395 = .ok (.iadd, 1) := by decide +kernel
theorem d_law_396 : decode code 396 = .ok (.iaload, 1) := by decide +kernel
theorem d_law_397 : decode code 397 = .ok (.aload_n 3, 1) := by decide +kernel
theorem d_law_398 : decode code 398 = .ok (.invokestatic 63, 3) := by decide +kernel
theorem d_law_401 : decode code 401 = .ok (.istore 5, 2) := by decide +kernel
theorem d_law_403 : decode code 403 = .ok (.aload_n 2, 1) := by decide +kernel
theorem d_law_404 : decode code 404 = .ok (.aload_n 0, 1) := by decide +kernel
theorem d_law_405 : decode code 405 = .ok (.iload 4, 2) := by decide +kernel
theorem d_law_407 : decode code 407 = .ok (.iconst 1, 1) := by decide +kernel
theorem d_law_408 : decode code 408 = .ok (.iadd, 1) := by decide +kernel
theorem d_law_409 : decode code 409 = .ok (.iaload, 1) := by decide +kernel
theorem d_law_410 : decode code 410 = .ok (.invokevirtual 65, 3) := by decide +kernel
theorem d_law_413 : decode code 413 = .ok (.istore 6, 2) := by decide +kernel
theorem d_law_415 : decode code 415 = .ok (.aload_n 2, 1) := by decide +kernel
theorem d_law_416 : decode code 416 = .ok (.invokevirtual 50, 3) := by decide +kernel
theorem d_law_419 : decode code 419 = .ok (.iload 5, 2) := by decide +kernel
theorem d_law_421 : decode code 421 = .ok (.if_icmp .eq 5, 3) := by decide +kernel
theorem d_law_424 : decode code 424 = .ok (.iconst 0, 1) := by decide +kernel
theorem d_law_425 : decode code 425 = .ok (.ireturn, 1) := by decide +kernel
theorem d_law_426 : decode code 426 = .ok (.iload 5, 2) := by decide +kernel
theorem d_law_428 : decode code 428 = .ok (.ifCond .ne 15, 3) := by decide +kernel
theorem d_law_431 : decode code 431 = .ok (.aload_n 3, 1) := by decide +kernel
theorem d_law_432 : decode code 432 = .ok (.iconst 0, 1) := by decide +kernel
theorem d_law_433 : decode code 433 = .ok (.laload, 1) := by decide +kernel
theorem d_law_434 : decode code 434 = .ok (.iload 6, 2) := by decide +kernel
theorem d_law_436 : decode code 436 = .ok (.i2l, 1) := by decide +kernel
theorem d_law_437 : decode code 437 = .ok (.lcmp, 1) := by decide +kernel
theorem d_law_438 : decode code 438 = .ok (.ifCond .eq 5, 3) := by decide +kernel
theorem d_law_441 : decode code 441 = .ok (.iconst 0, 1) := by decide +kernel
theorem d_law_442 : decode code 442 = .ok (.ireturn, 1) := by decide +kernel
theorem d_law_443 : decode code 443 = .ok (.goto 78, 3) := by decide +kernel
theorem d_law_446 : decode code 446 = .ok (.aload_n 1, 1) := by decide +kernel
theorem d_law_447 : decode code 447 = .ok (.aload_n 0, 1) := by decide +kernel
theorem d_law_448 : decode code 448 = .ok (.iload 4, 2) := by decide +kernel
theorem d_law_450 : decode code 450 = .ok (.iconst 1, 1) := by decide +kernel
theorem d_law_451 : decode code 451 = .ok (.iadd, 1) := by decide +kernel
theorem d_law_452 : decode code 452 = .ok (.iaload, 1) := by decide +kernel
theorem d_law_453 : decode code 453 = .ok (.invokevirtual 66, 3) := by decide +kernel
theorem d_law_456 : decode code 456 = .ok (.aload_n 2, 1) := by decide +kernel
theorem d_law_457 : decode code 457 = .ok (.aload_n 0, 1) := by decide +kernel
theorem d_law_458 : decode code 458 = .ok (.iload 4, 2) := by decide +kernel
theorem d_law_460 : decode code 460 = .ok (.iconst 1, 1) := by decide +kernel
theorem d_law_461 : decode code 461 = .ok (.iadd, 1) := by decide +kernel
theorem d_law_462 : decode code 462 = .ok (.iaload, 1) := by decide +kernel
theorem d_law_463 : decode code 463 = .ok (.invokevirtual 69, 3) := by decide +kernel
theorem d_law_466 : decode code 466 = .ok (.if_icmp .eq 55, 3) := by decide +kernel
theorem d_law_469 : decode code 469 = .ok (.iconst 0, 1) := by decide +kernel
theorem d_law_470 : decode code 470 = .ok (.ireturn, 1) := by decide +kernel
theorem d_law_471 : decode code 471 = .ok (.aload_n 1, 1) := by decide +kernel
theorem d_law_472 : decode code 472 = .ok (.aload_n 0, 1) := by decide +kernel
theorem d_law_473 : decode code 473 = .ok (.iload 4, 2) := by decide +kernel
theorem d_law_475 : decode code 475 = .ok (.iconst 1, 1) := by decide +kernel
theorem d_law_476 : decode code 476 = .ok (.iadd, 1) := by decide +kernel
theorem d_law_477 : decode code 477 = .ok (.iaload, 1) := by decide +kernel
theorem d_law_478 : decode code 478 = .ok (.invokevirtual 70, 3) := by decide +kernel
theorem d_law_481 : decode code 481 = .ok (.aload_n 2, 1) := by decide +kernel
theorem d_law_482 : decode code 482 = .ok (.aload_n 0, 1) := by decide +kernel
theorem d_law_483 : decode code 483 = .ok (.iload 4, 2) := by decide +kernel
theorem d_law_485 : decode code 485 = .ok (.iconst 1, 1) := by decide +kernel
theorem d_law_486 : decode code 486 = .ok (.iadd, 1) := by decide +kernel
theorem d_law_487 : decode code 487 = .ok (.iaload, 1) := by decide +kernel
theorem d_law_488 : decode code 488 = .ok (.invokevirtual 73, 3) := by decide +kernel
theorem d_law_491 : decode code 491 = .ok (.if_icmp .eq 30, 3) := by decide +kernel
theorem d_law_494 : decode code 494 = .ok (.iconst 0, 1) := by decide +kernel
theorem d_law_495 : decode code 495 = .ok (.ireturn, 1) := by decide +kernel
theorem d_law_496 : decode code 496 = .ok (.aload_n 1, 1) := by decide +kernel
theorem d_law_497 : decode code 497 = .ok (.aload_n 0, 1) := by decide +kernel
theorem d_law_498 : decode code 498 = .ok (.iload 4, 2) := by decide +kernel
theorem d_law_500 : decode code 500 = .ok (.iconst 1, 1) := by decide +kernel
theorem d_law_501 : decode code 501 = .ok (.iadd, 1) := by decide +kernel
theorem d_law_502 : decode code 502 = .ok (.iaload, 1) := by decide +kernel
theorem d_law_503 : decode code 503 = .ok (.invokevirtual 74, 3) := by decide +kernel
theorem d_law_506 : decode code 506 = .ok (.aload_n 2, 1) := by decide +kernel
theorem d_law_507 : decode code 507 = .ok (.aload_n 0, 1) := by decide +kernel
theorem d_law_508 : decode code 508 = .ok (.iload 4, 2) := by decide +kernel
theorem d_law_510 : decode code 510 = .ok (.iconst 1, 1) := by decide +kernel
theorem d_law_511 : decode code 511 = .ok (.iadd, 1) := by decide +kernel
theorem d_law_512 : decode code 512 = .ok (.iaload, 1) := by decide +kernel
theorem d_law_513 : decode code 513 = .ok (.invokevirtual 77, 3) := by decide +kernel
theorem d_law_516 : decode code 516 = .ok (.if_icmp .eq 5, 3) := by decide +kernel
theorem d_law_519 : decode code 519 = .ok (.iconst 0, 1) := by decide +kernel
theorem d_law_520 : decode code 520 = .ok (.ireturn, 1) := by decide +kernel
theorem d_law_521 : decode code 521 = .ok (.iinc 4 6, 3) := by decide +kernel
theorem d_law_524 : decode code 524 = .ok (.goto (-501), 3) := by decide +kernel
theorem d_law_527 : decode code 527 = .ok (.iconst 1, 1) := by decide +kernel
theorem d_law_528 : decode code 528 = .ok (.ireturn, 1) := by decide +kernel
theorem k_66 : Cond.initialized "MailCharactersLaw" ∈ gW := gW_at 66 (by decide +kernel) (by decide +kernel)
theorem k_264 : Cond.methodLink "MailCharactersLaw" 30 ⟨"MailCharacters", "feed", "(IIIII)V"⟩ ∈ gW := gW_at 264 (by decide +kernel) (by decide +kernel)
theorem k_268 : Cond.methodLink "MailCharactersLaw" 35 ⟨"MailCharacters", "end", "(I)I"⟩ ∈ gW := gW_at 268 (by decide +kernel) (by decide +kernel)
theorem k_285 : Cond.methodLink "MailCharactersLaw" 39 ⟨"MailCharacters", "charset", "()I"⟩ ∈ gW := gW_at 285 (by decide +kernel) (by decide +kernel)
theorem k_372 : Cond.methodLink "MailCharactersLaw" 56 ⟨"MailCharacters", "words", "()I"⟩ ∈ gW := gW_at 372 (by decide +kernel) (by decide +kernel)
theorem k_515 : Cond.methodLink "MailCharactersLaw" 66 ⟨"MailCharacters", "byteAt", "(I)I"⟩ ∈ gW := gW_at 515 (by decide +kernel) (by decide +kernel)
theorem k_519 : Cond.methodLink "MailCharactersLaw" 70 ⟨"MailCharacters", "at", "(I)I"⟩ ∈ gW := gW_at 519 (by decide +kernel) (by decide +kernel)
theorem k_523 : Cond.methodLink "MailCharactersLaw" 74 ⟨"MailCharacters", "count", "(I)I"⟩ ∈ gW := gW_at 523 (by decide +kernel) (by decide +kernel)
theorem k_533 : Cond.methodLink "MailCharactersLaw" 44 ⟨"MailCharactersLaw", "uncode", "(LMailCharacters;I[J)I"⟩ ∈ gW := gW_at 533 (by decide +kernel) (by decide +kernel)
theorem k_534 : Cond.static ⟨"MailCharactersLaw", "uncode", "(LMailCharacters;I[J)I"⟩ ∈ gW := gW_at 534 (by decide +kernel) (by decide +kernel)
theorem k_661 : Cond.methodLink "MailCharactersLaw" 53 ⟨"MailCharactersLaw", "read", "(LMailCharacters;I[J)I"⟩ ∈ gW := gW_at 661 (by decide +kernel) (by decide +kernel)
theorem k_662 : Cond.static ⟨"MailCharactersLaw", "read", "(LMailCharacters;I[J)I"⟩ ∈ gW := gW_at 662 (by decide +kernel) (by decide +kernel)
theorem k_672 : Cond.methodLink "MailCharactersLaw" 60 ⟨"MailCharactersLaw", "write", "(LMailCharacters;I[J)I"⟩ ∈ gW := gW_at 672 (by decide +kernel) (by decide +kernel)
theorem k_673 : Cond.static ⟨"MailCharactersLaw", "write", "(LMailCharacters;I[J)I"⟩ ∈ gW := gW_at 673 (by decide +kernel) (by decide +kernel)
theorem k_765 : Cond.methodLink "MailCharactersLaw" 63 ⟨"MailCharactersLaw", "code", "(LMailCharacters;I[J)I"⟩ ∈ gW := gW_at 765 (by decide +kernel) (by decide +kernel)
theorem k_766 : Cond.static ⟨"MailCharactersLaw", "code", "(LMailCharacters;I[J)I"⟩ ∈ gW := gW_at 766 (by decide +kernel) (by decide +kernel)
theorem k_944 : Cond.methodLink "MailCharactersLaw" 50 ⟨"MailCharactersModel", "thrown", "()I"⟩ ∈ gW := gW_at 944 (by decide +kernel) (by decide +kernel)
theorem k_948 : Cond.methodLink "MailCharactersLaw" 34 ⟨"MailCharactersModel", "feed", "(IIIII)V"⟩ ∈ gW := gW_at 948 (by decide +kernel) (by decide +kernel)
theorem k_956 : Cond.methodLink "MailCharactersLaw" 38 ⟨"MailCharactersModel", "end", "(I)I"⟩ ∈ gW := gW_at 956 (by decide +kernel) (by decide +kernel)
theorem k_960 : Cond.methodLink "MailCharactersLaw" 43 ⟨"MailCharactersModel", "charset", "()I"⟩ ∈ gW := gW_at 960 (by decide +kernel) (by decide +kernel)
theorem k_968 : Cond.methodLink "MailCharactersLaw" 49 ⟨"MailCharactersModel", "uncode", "(I)I"⟩ ∈ gW := gW_at 968 (by decide +kernel) (by decide +kernel)
theorem k_1027 : Cond.methodLink "MailCharactersLaw" 55 ⟨"MailCharactersModel", "read", "(I)I"⟩ ∈ gW := gW_at 1027 (by decide +kernel) (by decide +kernel)
theorem k_1096 : Cond.methodLink "MailCharactersLaw" 59 ⟨"MailCharactersModel", "words", "()I"⟩ ∈ gW := gW_at 1096 (by decide +kernel) (by decide +kernel)
theorem k_1120 : Cond.methodLink "MailCharactersLaw" 62 ⟨"MailCharactersModel", "write", "(I)I"⟩ ∈ gW := gW_at 1120 (by decide +kernel) (by decide +kernel)
theorem k_1158 : Cond.methodLink "MailCharactersLaw" 65 ⟨"MailCharactersModel", "code", "(I)I"⟩ ∈ gW := gW_at 1158 (by decide +kernel) (by decide +kernel)
theorem k_1182 : Cond.methodLink "MailCharactersLaw" 69 ⟨"MailCharactersModel", "byteAt", "(I)I"⟩ ∈ gW := gW_at 1182 (by decide +kernel) (by decide +kernel)
theorem k_1186 : Cond.methodLink "MailCharactersLaw" 73 ⟨"MailCharactersModel", "at", "(I)I"⟩ ∈ gW := gW_at 1186 (by decide +kernel) (by decide +kernel)
theorem k_1190 : Cond.methodLink "MailCharactersLaw" 77 ⟨"MailCharactersModel", "count", "(I)I"⟩ ∈ gW := gW_at 1190 (by decide +kernel) (by decide +kernel)
theorem s_rw (n : Nat) (h : n ≤ 3000) : g_rw n (fun _ => 0) [] := ⟨Nat.zero_le _, h, fun i h => absurd h (Nat.not_lt_zero i)⟩
theorem s_cmp (x : Int64) : lg_cmp x x = 0 := by simp [lg_cmp]
theorem s_nn {x : Int32} (h : ¬ x < 0) : 0 ≤ x := by
  rw [Int32.lt_iff_toInt_lt] at h
  rw [Int32.le_iff_toInt_le]
  omega
theorem s_0to3 {x : Int32} (h0 : ¬ x < 0) (h1 : ¬ ¬ x ≤ 3) : x = 0 ∨ x = 1 ∨ x = 2 ∨ x = 3 := by
  obtain ⟨n, hn, rfl⟩ := nI_of h0
  have h2 := Classical.not_not.mp h1
  rw [Int32.le_iff_toInt_le, nI_toInt hn] at h2
  have h3 : (3 : Int32).toInt = 3 := rfl
  rcases (show n = 0 ∨ n = 1 ∨ n = 2 ∨ n = 3 by omega) with rfl | rfl | rfl | rfl <;> simp [nI]
theorem s_0to9 {x : Int32} (h0 : ¬ x < 0) (h1 : ¬ 9 < x) : x = 0 ∨ x = 1 ∨ x = 2 ∨ x = 3 ∨ x = 4 ∨ x = 5 ∨ x = 6 ∨ x = 7 ∨ x = 8 ∨ x = 9 := by
  obtain ⟨n, hn, rfl⟩ := nI_of h0
  rw [Int32.lt_iff_toInt_lt, nI_toInt hn] at h1
  have h3 : (9 : Int32).toInt = 9 := rfl
  rcases (show n = 0 ∨ n = 1 ∨ n = 2 ∨ n = 3 ∨ n = 4 ∨ n = 5 ∨ n = 6 ∨ n = 7 ∨ n = 8 ∨ n = 9 by omega) with rfl | rfl | rfl | rfl | rfl | rfl | rfl | rfl | rfl | rfl <;> simp [nI]
theorem cw_ML_uncode {R : Room} {s : State} {args : Array Value} (hts : ∀ w ∈ gW, w.before args s = true) (htl : ∀ w ∈ lw_tbl, w.before args s = true) (hR : rm_ML_uncode.frames + 1 ≤ R.frames ∧ 8 + (4 + 11) + rm_ML_uncode.locals ≤ R.locals) : gCW R s args "MailCharactersLaw" 44 y_ML_uncode b_ML_uncode 4 (some .int) h_ML_uncode w_ML_uncode rm_ML_uncode 1 6 3 := by
  refine ⟨⟨rfl, rfl⟩, hR, fun w hw a U hW => ?_, List.mem_cons_self, htl _ kw_ML_uncode, hts _ k_66, by decide +kernel, fun sig h => ?_, hts _ k_533, hts _ k_534⟩
  · rcases List.mem_cons.mp hw with rfl | h
    · exact word_at hW (Or.inl rfl) (htl _ kw_ML_uncode)
    · exact word_at hW (gW_ok h).2 (hts _ h)
  · have h9 : (parseMethodDescriptor y_ML_uncode.desc).map (fun d => d.parameters.length) = some 3 := by decide +kernel
    rw [h] at h9
    exact (Option.some.inj h9).symm
theorem cw_ML_read {R : Room} {s : State} {args : Array Value} (hts : ∀ w ∈ gW, w.before args s = true) (htl : ∀ w ∈ lw_tbl, w.before args s = true) (hR : rm_ML_read.frames + 1 ≤ R.frames ∧ 8 + (4 + 11) + rm_ML_read.locals ≤ R.locals) : gCW R s args "MailCharactersLaw" 53 y_ML_read b_ML_read 4 (some .int) h_ML_read w_ML_read rm_ML_read 1 6 3 := by
  refine ⟨⟨rfl, rfl⟩, hR, fun w hw a U hW => ?_, List.mem_cons_self, htl _ kw_ML_read, hts _ k_66, by decide +kernel, fun sig h => ?_, hts _ k_661, hts _ k_662⟩
  · rcases List.mem_cons.mp hw with rfl | h
    · exact word_at hW (Or.inl rfl) (htl _ kw_ML_read)
    · exact word_at hW (gW_ok h).2 (hts _ h)
  · have h9 : (parseMethodDescriptor y_ML_read.desc).map (fun d => d.parameters.length) = some 3 := by decide +kernel
    rw [h] at h9
    exact (Option.some.inj h9).symm
theorem cw_ML_write {R : Room} {s : State} {args : Array Value} (hts : ∀ w ∈ gW, w.before args s = true) (htl : ∀ w ∈ lw_tbl, w.before args s = true) (hR : rm_ML_write.frames + 1 ≤ R.frames ∧ 8 + (4 + 11) + rm_ML_write.locals ≤ R.locals) : gCW R s args "MailCharactersLaw" 60 y_ML_write b_ML_write 4 (some .int) h_ML_write w_ML_write rm_ML_write 1 6 3 := by
  refine ⟨⟨rfl, rfl⟩, hR, fun w hw a U hW => ?_, List.mem_cons_self, htl _ kw_ML_write, hts _ k_66, by decide +kernel, fun sig h => ?_, hts _ k_672, hts _ k_673⟩
  · rcases List.mem_cons.mp hw with rfl | h
    · exact word_at hW (Or.inl rfl) (htl _ kw_ML_write)
    · exact word_at hW (gW_ok h).2 (hts _ h)
  · have h9 : (parseMethodDescriptor y_ML_write.desc).map (fun d => d.parameters.length) = some 3 := by decide +kernel
    rw [h] at h9
    exact (Option.some.inj h9).symm
theorem cw_ML_code {R : Room} {s : State} {args : Array Value} (hts : ∀ w ∈ gW, w.before args s = true) (htl : ∀ w ∈ lw_tbl, w.before args s = true) (hR : rm_ML_code.frames + 1 ≤ R.frames ∧ 8 + (4 + 11) + rm_ML_code.locals ≤ R.locals) : gCW R s args "MailCharactersLaw" 63 y_ML_code b_ML_code 4 (some .int) h_ML_code w_ML_code rm_ML_code 1 6 3 := by
  refine ⟨⟨rfl, rfl⟩, hR, fun w hw a U hW => ?_, List.mem_cons_self, htl _ kw_ML_code, hts _ k_66, by decide +kernel, fun sig h => ?_, hts _ k_765, hts _ k_766⟩
  · rcases List.mem_cons.mp hw with rfl | h
    · exact word_at hW (Or.inl rfl) (htl _ kw_ML_code)
    · exact word_at hW (gW_ok h).2 (hts _ h)
  · have h9 : (parseMethodDescriptor y_ML_code.desc).map (fun d => d.parameters.length) = some 3 := by decide +kernel
    rw [h] at h9
    exact (Option.some.inj h9).symm

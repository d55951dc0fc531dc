theorem d_L_law_0 : decode code 0 = .ok (.new 8, 3) := by decide +kernel
theorem d_L_law_3 : decode code 3 = .ok (.dup, 1) := by decide +kernel
theorem d_L_law_4 : decode code 4 = .ok (.invokespecial 79, 3) := by decide +kernel
theorem d_L_law_7 : decode code 7 = .ok (.astore_n 1, 1) := by decide +kernel
theorem d_L_law_8 : decode code 8 = .ok (.new 80, 3) := by decide +kernel
theorem d_L_law_11 : decode code 11 = .ok (.dup, 1) := by decide +kernel
theorem d_L_law_12 : decode code 12 = .ok (.invokespecial 82, 3) := by decide +kernel
theorem d_L_law_15 : decode code 15 = .ok (.astore_n 2, 1) := by decide +kernel
theorem d_L_law_16 : decode code 16 = .ok (.iconst 1, 1) := by decide +kernel
theorem d_L_law_17 : decode code 17 = .ok (.newarray .long, 2) := by decide +kernel
theorem d_L_law_19 : decode code 19 = .ok (.astore_n 3, 1) := by decide +kernel
theorem d_L_law_20 : decode code 20 = .ok (.iconst 0, 1) := by decide +kernel
theorem d_L_law_21 : decode code 21 = .ok (.istore 4, 2) := by decide +kernel
theorem d_L_law_23 : decode code 23 = .ok (.iload 4, 2) := by decide +kernel
theorem d_L_law_25 : decode code 25 = .ok (.aload_n 0, 1) := by decide +kernel
theorem d_L_law_26 : decode code 26 = .ok (.arraylength, 1) := by decide +kernel
theorem d_L_law_27 : decode code 27 = .ok (.bipush 6, 2) := by decide +kernel
theorem d_L_law_29 : decode code 29 = .ok (.isub, 1) := by decide +kernel
theorem d_L_law_30 : decode code 30 = .ok (.if_icmp .gt 1284, 3) := by decide +kernel
theorem d_L_law_33 : decode code 33 = .ok (.aload_n 0, 1) := by decide +kernel
theorem d_L_law_34 : decode code 34 = .ok (.iload 4, 2) := by decide +kernel
theorem d_L_law_36 : decode code 36 = .ok (.iaload, 1) := by decide +kernel
theorem d_L_law_37 : decode code 37 = .ok (.bipush 31, 2) := by decide +kernel
theorem d_L_law_39 : decode code 39 = .ok (.iand, 1) := by decide +kernel
theorem d_L_law_40 : decode code 40 = .ok (.tableswitch 1268 0 17 #[88, 168, 216, 280, 316, 364, 460, 556, 676, 744, 792, 860, 896, 952, 1020, 1076, 1144, 1212], 88) := by decide +kernel
theorem d_L_law_128 : decode code 128 = .ok (.aload_n 1, 1) := by decide +kernel
theorem d_L_law_129 : decode code 129 = .ok (.aload_n 0, 1) := by decide +kernel
theorem d_L_law_130 : decode code 130 = .ok (.iload 4, 2) := by decide +kernel
theorem d_L_law_132 : decode code 132 = .ok (.iconst 1, 1) := by decide +kernel
theorem d_L_law_133 : decode code 133 = .ok (.iadd, 1) := by decide +kernel
theorem d_L_law_134 : decode code 134 = .ok (.iaload, 1) := by decide +kernel
theorem d_L_law_135 : decode code 135 = .ok (.aload_n 0, 1) := by decide +kernel
theorem d_L_law_136 : decode code 136 = .ok (.iload 4, 2) := by decide +kernel
theorem d_L_law_138 : decode code 138 = .ok (.iconst 2, 1) := by decide +kernel
theorem d_L_law_139 : decode code 139 = .ok (.iadd, 1) := by decide +kernel
theorem d_L_law_140 : decode code 140 = .ok (.iaload, 1) := by decide +kernel
theorem d_L_law_141 : decode code 141 = .ok (.aload_n 0, 1) := by decide +kernel
theorem d_L_law_142 : decode code 142 = .ok (.iload 4, 2) := by decide +kernel
theorem d_L_law_144 : decode code 144 = .ok (.iconst 3, 1) := by decide +kernel
theorem d_L_law_145 : decode code 145 = .ok (.iadd, 1) := by decide +kernel
theorem d_L_law_146 : decode code 146 = .ok (.iaload, 1) := by decide +kernel
theorem d_L_law_147 : decode code 147 = .ok (.aload_n 3, 1) := by decide +kernel
theorem d_L_law_148 : decode code 148 = .ok (.invokestatic 83, 3) := by decide +kernel
theorem d_L_law_151 : decode code 151 = .ok (.istore 5, 2) := by decide +kernel
theorem d_L_law_153 : decode code 153 = .ok (.aload_n 2, 1) := by decide +kernel
theorem d_L_law_154 : decode code 154 = .ok (.aload_n 0, 1) := by decide +kernel
theorem d_L_law_155 : decode code 155 = .ok (.iload 4, 2) := by decide +kernel
theorem d_L_law_157 : decode code 157 = .ok (.iconst 1, 1) := by decide +kernel
theorem d_L_law_158 : decode code 158 = .ok (.iadd, 1) := by decide +kernel
theorem d_L_law_159 : decode code 159 = .ok (.iaload, 1) := by decide +kernel
theorem d_L_law_160 : decode code 160 = .ok (.aload_n 0, 1) := by decide +kernel
theorem d_L_law_161 : decode code 161 = .ok (.iload 4, 2) := by decide +kernel
theorem d_L_law_163 : decode code 163 = .ok (.iconst 2, 1) := by decide +kernel
theorem d_L_law_164 : decode code 164 = .ok (.iadd, 1) := by decide +kernel
theorem d_L_law_165 : decode code 165 = .ok (.iaload, 1) := by decide +kernel
theorem d_L_law_166 : decode code 166 = .ok (.aload_n 0, 1) := by decide +kernel
theorem d_L_law_167 : decode code 167 = .ok (.iload 4, 2) := by decide +kernel
theorem d_L_law_169 : decode code 169 = .ok (.iconst 3, 1) := by decide +kernel
theorem d_L_law_170 : decode code 170 = .ok (.iadd, 1) := by decide +kernel
theorem d_L_law_171 : decode code 171 = .ok (.iaload, 1) := by decide +kernel
theorem d_L_law_172 : decode code 172 = .ok (.invokevirtual 88, 3) := by decide +kernel
theorem d_L_law_175 : decode code 175 = .ok (.istore 6, 2) := by decide +kernel
theorem d_L_law_177 : decode code 177 = .ok (.aload_n 2, 1) := by decide +kernel
theorem d_L_law_178 : decode code 178 = .ok (.invokevirtual 89, 3) := by decide +kernel
theorem d_L_law_181 : decode code 181 = .ok (.iload 5, 2) := by decide +kernel
theorem d_L_law_183 : decode code 183 = .ok (.if_icmp .eq 5, 3) := by decide +kernel
theorem d_L_law_186 : decode code 186 = .ok (.iconst 0, 1) := by decide +kernel
theorem d_L_law_187 : decode code 187 = .ok (.ireturn, 1) := by decide +kernel
theorem d_L_law_188 : decode code 188 = .ok (.iload 5, 2) := by decide +kernel
theorem d_L_law_190 : decode code 190 = .ok (.ifCond .ne 15, 3) := by decide +kernel
theorem d_L_law_193 : decode code 193 = .ok (.aload_n 3, 1) := by decide +kernel
theorem d_L_law_194 : decode code 194 = .ok (.iconst 0, 1) := by decide +kernel
theorem d_L_law_195 : decode code 195 = .ok (.laload, 1) := by decide +kernel
theorem d_L_law_196 : decode code 196 = .ok (.iload 6, 2) := by decide +kernel
theorem d_L_law_198 : decode code 198 = .ok (.i2l, 1) := by decide +kernel
theorem d_L_law_199 : decode code 199 = .ok (.lcmp, 1) := by decide +kernel
theorem d_L_law_200 : decode code 200 = .ok (.ifCond .eq 5, 3) := by decide +kernel
theorem d_L_law_203 : decode code 203 = .ok (.iconst 0, 1) := by decide +kernel
theorem d_L_law_204 : decode code 204 = .ok (.ireturn, 1) := by decide +kernel
theorem d_L_law_205 : decode code 205 = .ok (.goto 1103, 3) := by decide +kernel
theorem d_L_law_208 : decode code 208 = .ok (.aload_n 1, 1) := by decide +kernel
theorem d_L_law_209 : decode code 209 = .ok (.aload_n 0, 1) := by decide +kernel
theorem d_L_law_210 : decode code 210 = .ok (.iload 4, 2) := by decide +kernel
theorem d_L_law_212 : decode code 212 = .ok (.iconst 1, 1) := by decide +kernel
theorem d_L_law_213 : decode code 213 = .ok (.iadd, 1) := by decide +kernel
theorem d_L_law_214 : decode code 214 = .ok (.iaload, 1) := by decide +kernel
theorem d_L_law_215 : decode code 215 = .ok (.aload_n 0, 1) := by decide +kernel
theorem d_L_law_216 : decode code 216 = .ok (.iload 4, 2) := by decide +kernel
theorem d_L_law_218 : decode code 218 = .ok (.iconst 2, 1) := by decide +kernel
theorem d_L_law_219 : decode code 219 = .ok (.iadd, 1) := by decide +kernel
theorem d_L_law_220 : decode code 220 = .ok (.iaload, 1) := by decide +kernel
theorem d_L_law_221 : decode code 221 = .ok (.invokestatic 93, 3) := by decide +kernel
theorem d_L_law_224 : decode code 224 = .ok (.istore 5, 2) := by decide +kernel
theorem d_L_law_226 : decode code 226 = .ok (.aload_n 2, 1) := by decide +kernel
theorem d_L_law_227 : decode code 227 = .ok (.aload_n 0, 1) := by decide +kernel
theorem d_L_law_228 : decode code 228 = .ok (.iload 4, 2) := by decide +kernel
theorem d_L_law_230 : decode code 230 = .ok (.iconst 1, 1) := by decide +kernel
theorem d_L_law_231 : decode code 231 = .ok (.iadd, 1) := by decide +kernel
theorem d_L_law_232 : decode code 232 = .ok (.iaload, 1) := by decide +kernel
theorem d_L_law_233 : decode code 233 = .ok (.aload_n 0, 1) := by decide +kernel
theorem d_L_law_234 : decode code 234 = .ok (.iload 4, 2) := by decide +kernel
theorem d_L_law_236 : decode code 236 = .ok (.iconst 2, 1) := by decide +kernel
theorem d_L_law_237 : decode code 237 = .ok (.iadd, 1) := by decide +kernel
theorem d_L_law_238 : decode code 238 = .ok (.iaload, 1) := by decide +kernel
theorem d_L_law_239 : decode code 239 = .ok (.invokevirtual 96, 3) := by decide +kernel
theorem d_L_law_242 : decode code 242 = .ok (.aload_n 2, 1) := by decide +kernel
theorem d_L_law_243 : decode code 243 = .ok (.invokevirtual 89, 3) := by decide +kernel
theorem d_L_law_246 : decode code 246 = .ok (.iload 5, 2) := by decide +kernel
theorem d_L_law_248 : decode code 248 = .ok (.if_icmp .eq 5, 3) := by decide +kernel
theorem d_L_law_251 : decode code 251 = .ok (.iconst 0, 1) := by decide +kernel
theorem d_L_law_252 : decode code 252 = .ok (.ireturn, 1) := by decide +kernel
theorem d_L_law_253 : decode code 253 = .ok (.goto 1055, 3) := by decide +kernel
theorem d_L_law_256 : decode code 256 = .ok (.aload_n 1, 1) := by decide +kernel
theorem d_L_law_257 : decode code 257 = .ok (.aload_n 0, 1) := by decide +kernel
theorem d_L_law_258 : decode code 258 = .ok (.iload 4, 2) := by decide +kernel
theorem d_L_law_260 : decode code 260 = .ok (.iconst 1, 1) := by decide +kernel
theorem d_L_law_261 : decode code 261 = .ok (.iadd, 1) := by decide +kernel
theorem d_L_law_262 : decode code 262 = .ok (.iaload, 1) := by decide +kernel
theorem d_L_law_263 : decode code 263 = .ok (.aload_n 0, 1) := by decide +kernel
theorem d_L_law_264 : decode code 264 = .ok (.iload 4, 2) := by decide +kernel
theorem d_L_law_266 : decode code 266 = .ok (.iconst 2, 1) := by decide +kernel
theorem d_L_law_267 : decode code 267 = .ok (.iadd, 1) := by decide +kernel
theorem d_L_law_268 : decode code 268 = .ok (.iaload, 1) := by decide +kernel
theorem d_L_law_269 : decode code 269 = .ok (.ifCond .eq 7, 3) := by decide +kernel
theorem d_L_law_272 : decode code 272 = .ok (.iconst 1, 1) := by decide +kernel
theorem d_L_law_273 : decode code 273 = .ok (.goto 4, 3) := by decide +kernel
theorem d_L_law_276 : decode code 276 = .ok (.iconst 0, 1) := by decide +kernel
theorem d_L_law_277 : decode code 277 = .ok (.invokestatic 97, 3) := by decide +kernel
theorem d_L_law_280 : decode code 280 = .ok (.istore 5, 2) := by decide +kernel
theorem d_L_law_282 : decode code 282 = .ok (.aload_n 2, 1) := by decide +kernel
theorem d_L_law_283 : decode code 283 = .ok (.aload_n 0, 1) := by decide +kernel
theorem d_L_law_284 : decode code 284 = .ok (.iload 4, 2) := by decide +kernel
theorem d_L_law_286 : decode code 286 = .ok (.iconst 1, 1) := by decide +kernel
theorem d_L_law_287 : decode code 287 = .ok (.iadd, 1) := by decide +kernel
theorem d_L_law_288 : decode code 288 = .ok (.iaload, 1) := by decide +kernel
theorem d_L_law_289 : decode code 289 = .ok (.aload_n 0, 1) := by decide +kernel
theorem d_L_law_290 : decode code 290 = .ok (.iload 4, 2) := by decide +kernel
theorem d_L_law_292 : decode code 292 = .ok (.iconst 2, 1) := by decide +kernel
theorem d_L_law_293 : decode code 293 = .ok (.iadd, 1) := by decide +kernel
theorem d_L_law_294 : decode code 294 = .ok (.iaload, 1) := by decide +kernel
theorem d_L_law_295 : decode code 295 = .ok (.ifCond .eq 7, 3) := by decide +kernel
theorem d_L_law_298 : decode code 298 = .ok (.iconst 1, 1) := by decide +kernel
theorem d_L_law_299 : decode code 299 = .ok (.goto 4, 3) := by decide +kernel
theorem d_L_law_302 : decode code 302 = .ok (.iconst 0, 1) := by decide +kernel
theorem d_L_law_303 : decode code 303 = .ok (.invokevirtual 100, 3) := by decide +kernel
theorem d_L_law_306 : decode code 306 = .ok (.aload_n 2, 1) := by decide +kernel
theorem d_L_law_307 : decode code 307 = .ok (.invokevirtual 89, 3) := by decide +kernel
theorem d_L_law_310 : decode code 310 = .ok (.iload 5, 2) := by decide +kernel
theorem d_L_law_312 : decode code 312 = .ok (.if_icmp .eq 5, 3) := by decide +kernel
theorem d_L_law_315 : decode code 315 = .ok (.iconst 0, 1) := by decide +kernel
theorem d_L_law_316 : decode code 316 = .ok (.ireturn, 1) := by decide +kernel
theorem d_L_law_317 : decode code 317 = .ok (.goto 991, 3) := by decide +kernel
theorem d_L_law_320 : decode code 320 = .ok (.aload_n 1, 1) := by decide +kernel
theorem d_L_law_321 : decode code 321 = .ok (.aload_n 0, 1) := by decide +kernel
theorem d_L_law_322 : decode code 322 = .ok (.iload 4, 2) := by decide +kernel
theorem d_L_law_324 : decode code 324 = .ok (.iconst 1, 1) := by decide +kernel
theorem d_L_law_325 : decode code 325 = .ok (.iadd, 1) := by decide +kernel
theorem d_L_law_326 : decode code 326 = .ok (.iaload, 1) := by decide +kernel
theorem d_L_law_327 : decode code 327 = .ok (.invokestatic 101, 3) := by decide +kernel
theorem d_L_law_330 : decode code 330 = .ok (.istore 5, 2) := by decide +kernel
theorem d_L_law_332 : decode code 332 = .ok (.aload_n 2, 1) := by decide +kernel
theorem d_L_law_333 : decode code 333 = .ok (.aload_n 0, 1) := by decide +kernel
theorem d_L_law_334 : decode code 334 = .ok (.iload 4, 2) := by decide +kernel
theorem d_L_law_336 : decode code 336 = .ok (.iconst 1, 1) := by decide +kernel
theorem d_L_law_337 : decode code 337 = .ok (.iadd, 1) := by decide +kernel
theorem d_L_law_338 : decode code 338 = .ok (.iaload, 1) := by decide +kernel
theorem d_L_law_339 : decode code 339 = .ok (.invokevirtual 104, 3) := by decide +kernel
theorem d_L_law_342 : decode code 342 = .ok (.aload_n 2, 1) := by decide +kernel
theorem d_L_law_343 : decode code 343 = .ok (.invokevirtual 89, 3) := by decide +kernel
theorem d_L_law_346 : decode code 346 = .ok (.iload 5, 2) := by decide +kernel
theorem d_L_law_348 : decode code 348 = .ok (.if_icmp .eq 5, 3) := by decide +kernel
theorem d_L_law_351 : decode code 351 = .ok (.iconst 0, 1) := by decide +kernel
theorem d_L_law_352 : decode code 352 = .ok (.ireturn, 1) := by decide +kernel
theorem d_L_law_353 : decode code 353 = .ok (.goto 955, 3) := by decide +kernel
theorem d_L_law_356 : decode code 356 = .ok (.aload_n 1, 1) := by decide +kernel
theorem d_L_law_357 : decode code 357 = .ok (.aload_n 0, 1) := by decide +kernel
theorem d_L_law_358 : decode code 358 = .ok (.iload 4, 2) := by decide +kernel
theorem d_L_law_360 : decode code 360 = .ok (.iconst 1, 1) := by decide +kernel
theorem d_L_law_361 : decode code 361 = .ok (.iadd, 1) := by decide +kernel
theorem d_L_law_362 : decode code 362 = .ok (.iaload, 1) := by decide +kernel
theorem d_L_law_363 : decode code 363 = .ok (.aload_n 0, 1) := by decide +kernel
theorem d_L_law_364 : decode code 364 = .ok (.iload 4, 2) := by decide +kernel
theorem d_L_law_366 : decode code 366 = .ok (.iconst 2, 1) := by decide +kernel
theorem d_L_law_367 : decode code 367 = .ok (.iadd, 1) := by decide +kernel
theorem d_L_law_368 : decode code 368 = .ok (.iaload, 1) := by decide +kernel
theorem d_L_law_369 : decode code 369 = .ok (.invokestatic 105, 3) := by decide +kernel
theorem d_L_law_372 : decode code 372 = .ok (.istore 5, 2) := by decide +kernel
theorem d_L_law_374 : decode code 374 = .ok (.aload_n 2, 1) := by decide +kernel
theorem d_L_law_375 : decode code 375 = .ok (.aload_n 0, 1) := by decide +kernel
theorem d_L_law_376 : decode code 376 = .ok (.iload 4, 2) := by decide +kernel
theorem d_L_law_378 : decode code 378 = .ok (.iconst 1, 1) := by decide +kernel
theorem d_L_law_379 : decode code 379 = .ok (.iadd, 1) := by decide +kernel
theorem d_L_law_380 : decode code 380 = .ok (.iaload, 1) := by decide +kernel
theorem d_L_law_381 : decode code 381 = .ok (.aload_n 0, 1) := by decide +kernel
theorem d_L_law_382 : decode code 382 = .ok (.iload 4, 2) := by decide +kernel
theorem d_L_law_384 : decode code 384 = .ok (.iconst 2, 1) := by decide +kernel
theorem d_L_law_385 : decode code 385 = .ok (.iadd, 1) := by decide +kernel
theorem d_L_law_386 : decode code 386 = .ok (.iaload, 1) := by decide +kernel
theorem d_L_law_387 : decode code 387 = .ok (.invokevirtual 107, 3) := by decide +kernel
theorem d_L_law_390 : decode code 390 = .ok (.aload_n 2, 1) := by decide +kernel
theorem d_L_law_391 : decode code 391 = .ok (.invokevirtual 89, 3) := by decide +kernel
theorem d_L_law_394 : decode code 394 = .ok (.iload 5, 2) := by decide +kernel
theorem d_L_law_396 : decode code 396 = .ok (.if_icmp .eq 5, 3) := by decide +kernel
theorem d_L_law_399 : decode code 399 = .ok (.iconst 0, 1) := by decide +kernel
theorem d_L_law_400 : decode code 400 = .ok (.ireturn, 1) := by decide +kernel
theorem d_L_law_401 : decode code 401 = .ok (.goto 907, 3) := by decide +kernel
theorem d_L_law_404 : decode code 404 = .ok (.aload_n 1, 1) := by decide +kernel
theorem d_L_law_405 : decode code 405 = .ok (.aload_n 0, 1) := by decide +kernel
theorem d_L_law_406 : decode code 406 = .ok (.iload 4, 2) := by decide +kernel
theorem d_L_law_408 : decode code 408 = .ok (.iconst 1, 1) := by decide +kernel
theorem d_L_law_409 : decode code 409 = .ok (.iadd, 1) := by decide +kernel
theorem d_L_law_410 : decode code 410 = .ok (.iaload, 1) := by decide +kernel
theorem d_L_law_411 : decode code 411 = .ok (.aload_n 0, 1) := by decide +kernel
theorem d_L_law_412 : decode code 412 = .ok (.iload 4, 2) := by decide +kernel
theorem d_L_law_414 : decode code 414 = .ok (.iconst 2, 1) := by decide +kernel
theorem d_L_law_415 : decode code 415 = .ok (.iadd, 1) := by decide +kernel
theorem d_L_law_416 : decode code 416 = .ok (.iaload, 1) := by decide +kernel
theorem d_L_law_417 : decode code 417 = .ok (.aload_n 0, 1) := by decide +kernel
theorem d_L_law_418 : decode code 418 = .ok (.iload 4, 2) := by decide +kernel
theorem d_L_law_420 : decode code 420 = .ok (.iconst 3, 1) := by decide +kernel
theorem d_L_law_421 : decode code 421 = .ok (.iadd, 1) := by decide +kernel
theorem d_L_law_422 : decode code 422 = .ok (.iaload, 1) := by decide +kernel
theorem d_L_law_423 : decode code 423 = .ok (.ifCond .eq 7, 3) := by decide +kernel
theorem d_L_law_426 : decode code 426 = .ok (.iconst 1, 1) := by decide +kernel
theorem d_L_law_427 : decode code 427 = .ok (.goto 4, 3) := by decide +kernel
theorem d_L_law_430 : decode code 430 = .ok (.iconst 0, 1) := by decide +kernel
theorem d_L_law_431 : decode code 431 = .ok (.aload_n 3, 1) := by decide +kernel
theorem d_L_law_432 : decode code 432 = .ok (.invokestatic 108, 3) := by decide +kernel
theorem d_L_law_435 : decode code 435 = .ok (.istore 5, 2) := by decide +kernel
theorem d_L_law_437 : decode code 437 = .ok (.aload_n 2, 1) := by decide +kernel
theorem d_L_law_438 : decode code 438 = .ok (.aload_n 0, 1) := by decide +kernel
theorem d_L_law_439 : decode code 439 = .ok (.iload 4, 2) := by decide +kernel
theorem d_L_law_441 : decode code 441 = .ok (.iconst 1, 1) := by decide +kernel
theorem d_L_law_442 : decode code 442 = .ok (.iadd, 1) := by decide +kernel
theorem d_L_law_443 : decode code 443 = .ok (.iaload, 1) := by decide +kernel
theorem d_L_law_444 : decode code 444 = .ok (.aload_n 0, 1) := by decide +kernel
theorem d_L_law_445 : decode code 445 = .ok (.iload 4, 2) := by decide +kernel
theorem d_L_law_447 : decode code 447 = .ok (.iconst 2, 1) := by decide +kernel
theorem d_L_law_448 : decode code 448 = .ok (.iadd, 1) := by decide +kernel
theorem d_L_law_449 : decode code 449 = .ok (.iaload, 1) := by decide +kernel
theorem d_L_law_450 : decode code 450 = .ok (.aload_n 0, 1) := by decide +kernel
theorem d_L_law_451 : decode code 451 = .ok (.iload 4, 2) := by decide +kernel
theorem d_L_law_453 : decode code 453 = .ok (.iconst 3, 1) := by decide +kernel
theorem d_L_law_454 : decode code 454 = .ok (.iadd, 1) := by decide +kernel
theorem d_L_law_455 : decode code 455 = .ok (.iaload, 1) := by decide +kernel
theorem d_L_law_456 : decode code 456 = .ok (.ifCond .eq 7, 3) := by decide +kernel
theorem d_L_law_459 : decode code 459 = .ok (.iconst 1, 1) := by decide +kernel
theorem d_L_law_460 : decode code 460 = .ok (.goto 4, 3) := by decide +kernel
theorem d_L_law_463 : decode code 463 = .ok (.iconst 0, 1) := by decide +kernel
theorem d_L_law_464 : decode code 464 = .ok (.invokevirtual 111, 3) := by decide +kernel
theorem lk_L_83 : Cond.methodLink "EntryRowsLaw" 83 y_L_board ∈ er_tbl := er_mt (i := 133) (by decide +kernel) rfl
theorem lk_L_88 : Cond.methodLink "EntryRowsLaw" 88 y_M_board ∈ er_tbl ∨ ∃ host, Cond.methodLinkNest "EntryRowsLaw" 88 y_M_board host ∈ er_tbl := Or.inl (er_mt (i := 601) (by decide +kernel) rfl)
theorem lk_L_89 : Cond.methodLink "EntryRowsLaw" 89 y_M_thrown ∈ er_tbl ∨ ∃ host, Cond.methodLinkNest "EntryRowsLaw" 89 y_M_thrown host ∈ er_tbl := Or.inl (er_mt (i := 597) (by decide +kernel) rfl)
theorem lk_L_93 : Cond.methodLink "EntryRowsLaw" 93 y_L_keep ∈ er_tbl := er_mt (i := 238) (by decide +kernel) rfl
theorem lk_L_96 : Cond.methodLink "EntryRowsLaw" 96 y_M_keep ∈ er_tbl ∨ ∃ host, Cond.methodLinkNest "EntryRowsLaw" 96 y_M_keep host ∈ er_tbl := Or.inl (er_mt (i := 612) (by decide +kernel) rfl)
theorem lk_L_97 : Cond.methodLink "EntryRowsLaw" 97 y_L_right ∈ er_tbl := er_mt (i := 315) (by decide +kernel) rfl
theorem lk_L_100 : Cond.methodLink "EntryRowsLaw" 100 y_M_right ∈ er_tbl ∨ ∃ host, Cond.methodLinkNest "EntryRowsLaw" 100 y_M_right host ∈ er_tbl := Or.inl (er_mt (i := 627) (by decide +kernel) rfl)
theorem lk_L_101 : Cond.methodLink "EntryRowsLaw" 101 y_L_rest ∈ er_tbl := er_mt (i := 322) (by decide +kernel) rfl
theorem lk_L_104 : Cond.methodLink "EntryRowsLaw" 104 y_M_rest ∈ er_tbl ∨ ∃ host, Cond.methodLinkNest "EntryRowsLaw" 104 y_M_rest host ∈ er_tbl := Or.inl (er_mt (i := 631) (by decide +kernel) rfl)
theorem lk_L_105 : Cond.methodLink "EntryRowsLaw" 105 y_L_heat ∈ er_tbl := er_mt (i := 329) (by decide +kernel) rfl
theorem lk_L_107 : Cond.methodLink "EntryRowsLaw" 107 y_M_heat ∈ er_tbl ∨ ∃ host, Cond.methodLinkNest "EntryRowsLaw" 107 y_M_heat host ∈ er_tbl := Or.inl (er_mt (i := 635) (by decide +kernel) rfl)
theorem lk_L_108 : Cond.methodLink "EntryRowsLaw" 108 y_L_member ∈ er_tbl := er_mt (i := 339) (by decide +kernel) rfl
theorem lk_L_111 : Cond.methodLink "EntryRowsLaw" 111 y_M_member ∈ er_tbl ∨ ∃ host, Cond.methodLinkNest "EntryRowsLaw" 111 y_M_member host ∈ er_tbl := Or.inl (er_mt (i := 639) (by decide +kernel) rfl)
theorem lk_L_112 : Cond.methodLink "EntryRowsLaw" 112 y_L_safety ∈ er_tbl := er_mt (i := 354) (by decide +kernel) rfl
theorem lk_L_114 : Cond.methodLink "EntryRowsLaw" 114 y_M_safety ∈ er_tbl ∨ ∃ host, Cond.methodLinkNest "EntryRowsLaw" 114 y_M_safety host ∈ er_tbl := Or.inl (er_mt (i := 650) (by decide +kernel) rfl)
theorem lk_L_115 : Cond.methodLink "EntryRowsLaw" 115 y_L_enter ∈ er_tbl := er_mt (i := 379) (by decide +kernel) rfl
theorem lk_L_118 : Cond.methodLink "EntryRowsLaw" 118 y_M_enter ∈ er_tbl ∨ ∃ host, Cond.methodLinkNest "EntryRowsLaw" 118 y_M_enter host ∈ er_tbl := Or.inl (er_mt (i := 662) (by decide +kernel) rfl)
theorem lk_L_119 : Cond.methodLink "EntryRowsLaw" 119 y_L_out ∈ er_tbl := er_mt (i := 398) (by decide +kernel) rfl
theorem lk_L_122 : Cond.methodLink "EntryRowsLaw" 122 y_M_out ∈ er_tbl ∨ ∃ host, Cond.methodLinkNest "EntryRowsLaw" 122 y_M_out host ∈ er_tbl := Or.inl (er_mt (i := 666) (by decide +kernel) rfl)
theorem lk_L_123 : Cond.methodLink "EntryRowsLaw" 123 y_L_swap ∈ er_tbl := er_mt (i := 410) (by decide +kernel) rfl
theorem lk_L_125 : Cond.methodLink "EntryRowsLaw" 125 y_M_swap ∈ er_tbl ∨ ∃ host, Cond.methodLinkNest "EntryRowsLaw" 125 y_M_swap host ∈ er_tbl := Or.inl (er_mt (i := 670) (by decide +kernel) rfl)
theorem lk_L_126 : Cond.methodLink "EntryRowsLaw" 126 y_L_join ∈ er_tbl := er_mt (i := 417) (by decide +kernel) rfl
theorem lk_L_128 : Cond.methodLink "EntryRowsLaw" 128 y_M_join ∈ er_tbl ∨ ∃ host, Cond.methodLinkNest "EntryRowsLaw" 128 y_M_join host ∈ er_tbl := Or.inl (er_mt (i := 674) (by decide +kernel) rfl)
theorem lk_L_129 : Cond.methodLink "EntryRowsLaw" 129 y_L_close ∈ er_tbl := er_mt (i := 436) (by decide +kernel) rfl
theorem lk_L_131 : Cond.methodLink "EntryRowsLaw" 131 y_M_close ∈ er_tbl ∨ ∃ host, Cond.methodLinkNest "EntryRowsLaw" 131 y_M_close host ∈ er_tbl := Or.inl (er_mt (i := 686) (by decide +kernel) rfl)
theorem lk_L_132 : Cond.methodLink "EntryRowsLaw" 132 y_L_tick ∈ er_tbl := er_mt (i := 443) (by decide +kernel) rfl
theorem lk_L_135 : Cond.methodLink "EntryRowsLaw" 135 y_M_tick ∈ er_tbl ∨ ∃ host, Cond.methodLinkNest "EntryRowsLaw" 135 y_M_tick host ∈ er_tbl := Or.inl (er_mt (i := 690) (by decide +kernel) rfl)
theorem lk_L_136 : Cond.methodLink "EntryRowsLaw" 136 y_L_on ∈ er_tbl := er_mt (i := 455) (by decide +kernel) rfl
theorem lk_L_138 : Cond.methodLink "EntryRowsLaw" 138 y_M_on ∈ er_tbl ∨ ∃ host, Cond.methodLinkNest "EntryRowsLaw" 138 y_M_on host ∈ er_tbl := Or.inl (er_mt (i := 699) (by decide +kernel) rfl)
theorem lk_L_139 : Cond.methodLink "EntryRowsLaw" 139 y_L_late ∈ er_tbl := er_mt (i := 474) (by decide +kernel) rfl
theorem lk_L_141 : Cond.methodLink "EntryRowsLaw" 141 y_M_late ∈ er_tbl ∨ ∃ host, Cond.methodLinkNest "EntryRowsLaw" 141 y_M_late host ∈ er_tbl := Or.inl (er_mt (i := 707) (by decide +kernel) rfl)
theorem lk_L_142 : Cond.methodLink "EntryRowsLaw" 142 y_L_person ∈ er_tbl := er_mt (i := 481) (by decide +kernel) rfl
theorem lk_L_144 : Cond.methodLink "EntryRowsLaw" 144 y_M_person ∈ er_tbl ∨ ∃ host, Cond.methodLinkNest "EntryRowsLaw" 144 y_M_person host ∈ er_tbl := Or.inl (er_mt (i := 711) (by decide +kernel) rfl)
theorem lk_L_145 : Cond.methodLink "EntryRowsLaw" 145 y_L_boardAt ∈ er_tbl := er_mt (i := 489) (by decide +kernel) rfl
theorem lk_L_147 : Cond.methodLink "EntryRowsLaw" 147 y_M_boardAt ∈ er_tbl ∨ ∃ host, Cond.methodLinkNest "EntryRowsLaw" 147 y_M_boardAt host ∈ er_tbl := Or.inl (er_mt (i := 715) (by decide +kernel) rfl)
theorem lk_L_148 : Cond.methodLink "EntryRowsLaw" 148 y_L_count ∈ er_tbl := er_mt (i := 504) (by decide +kernel) rfl
theorem lk_L_150 : Cond.methodLink "EntryRowsLaw" 150 y_M_count ∈ er_tbl ∨ ∃ host, Cond.methodLinkNest "EntryRowsLaw" 150 y_M_count host ∈ er_tbl := Or.inl (er_mt (i := 724) (by decide +kernel) rfl)

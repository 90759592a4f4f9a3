theorem d_La_law_187 : decode b_La_law 187 = .ok (.iconst 5, 1) := by decide +kernel
theorem d_La_law_188 : decode b_La_law 188 = .ok (.iadd, 1) := by decide +kernel
theorem d_La_law_189 : decode b_La_law 189 = .ok (.iaload, 1) := by decide +kernel
theorem d_La_law_190 : decode b_La_law 190 = .ok (.i2l, 1) := by decide +kernel
theorem d_La_law_191 : decode b_La_law 191 = .ok (.ldc2_w 75, 3) := by decide +kernel
theorem d_La_law_194 : decode b_La_law 194 = .ok (.land, 1) := by decide +kernel
theorem d_La_law_195 : decode b_La_law 195 = .ok (.lor, 1) := by decide +kernel
theorem d_La_law_196 : decode b_La_law 196 = .ok (.invokestatic 77, 3) := by decide +kernel
theorem d_La_law_199 : decode b_La_law 199 = .ok (.istore 5, 2) := by decide +kernel
theorem d_La_law_201 : decode b_La_law 201 = .ok (.aload_n 2, 1) := by decide +kernel
theorem d_La_law_202 : decode b_La_law 202 = .ok (.aload_n 0, 1) := by decide +kernel
theorem d_La_law_203 : decode b_La_law 203 = .ok (.iload 4, 2) := by decide +kernel
theorem d_La_law_205 : decode b_La_law 205 = .ok (.iconst 1, 1) := by decide +kernel
theorem d_La_law_206 : decode b_La_law 206 = .ok (.iadd, 1) := by decide +kernel
theorem d_La_law_207 : decode b_La_law 207 = .ok (.iaload, 1) := by decide +kernel
theorem d_La_law_208 : decode b_La_law 208 = .ok (.aload_n 0, 1) := by decide +kernel
theorem d_La_law_209 : decode b_La_law 209 = .ok (.iload 4, 2) := by decide +kernel
theorem d_La_law_211 : decode b_La_law 211 = .ok (.iconst 2, 1) := by decide +kernel
theorem d_La_law_212 : decode b_La_law 212 = .ok (.iadd, 1) := by decide +kernel
theorem d_La_law_213 : decode b_La_law 213 = .ok (.iaload, 1) := by decide +kernel
theorem d_La_law_214 : decode b_La_law 214 = .ok (.i2l, 1) := by decide +kernel
theorem d_La_law_215 : decode b_La_law 215 = .ok (.bipush 32, 2) := by decide +kernel
theorem d_La_law_217 : decode b_La_law 217 = .ok (.lshl, 1) := by decide +kernel
theorem d_La_law_218 : decode b_La_law 218 = .ok (.aload_n 0, 1) := by decide +kernel
theorem d_La_law_219 : decode b_La_law 219 = .ok (.iload 4, 2) := by decide +kernel
theorem d_La_law_221 : decode b_La_law 221 = .ok (.iconst 3, 1) := by decide +kernel
theorem d_La_law_222 : decode b_La_law 222 = .ok (.iadd, 1) := by decide +kernel
theorem d_La_law_223 : decode b_La_law 223 = .ok (.iaload, 1) := by decide +kernel
theorem d_La_law_224 : decode b_La_law 224 = .ok (.i2l, 1) := by decide +kernel
theorem d_La_law_225 : decode b_La_law 225 = .ok (.ldc2_w 75, 3) := by decide +kernel
theorem d_La_law_228 : decode b_La_law 228 = .ok (.land, 1) := by decide +kernel
theorem d_La_law_229 : decode b_La_law 229 = .ok (.lor, 1) := by decide +kernel
theorem d_La_law_230 : decode b_La_law 230 = .ok (.aload_n 0, 1) := by decide +kernel
theorem d_La_law_231 : decode b_La_law 231 = .ok (.iload 4, 2) := by decide +kernel
theorem d_La_law_233 : decode b_La_law 233 = .ok (.iconst 4, 1) := by decide +kernel
theorem d_La_law_234 : decode b_La_law 234 = .ok (.iadd, 1) := by decide +kernel
theorem d_La_law_235 : decode b_La_law 235 = .ok (.iaload, 1) := by decide +kernel
theorem d_La_law_236 : decode b_La_law 236 = .ok (.i2l, 1) := by decide +kernel
theorem d_La_law_237 : decode b_La_law 237 = .ok (.bipush 32, 2) := by decide +kernel
theorem d_La_law_239 : decode b_La_law 239 = .ok (.lshl, 1) := by decide +kernel
theorem d_La_law_240 : decode b_La_law 240 = .ok (.aload_n 0, 1) := by decide +kernel
theorem d_La_law_241 : decode b_La_law 241 = .ok (.iload 4, 2) := by decide +kernel
theorem d_La_law_243 : decode b_La_law 243 = .ok (.iconst 5, 1) := by decide +kernel
theorem d_La_law_244 : decode b_La_law 244 = .ok (.iadd, 1) := by decide +kernel
theorem d_La_law_245 : decode b_La_law 245 = .ok (.iaload, 1) := by decide +kernel
theorem d_La_law_246 : decode b_La_law 246 = .ok (.i2l, 1) := by decide +kernel
theorem d_La_law_247 : decode b_La_law 247 = .ok (.ldc2_w 75, 3) := by decide +kernel
theorem d_La_law_250 : decode b_La_law 250 = .ok (.land, 1) := by decide +kernel
theorem d_La_law_251 : decode b_La_law 251 = .ok (.lor, 1) := by decide +kernel
theorem d_La_law_252 : decode b_La_law 252 = .ok (.invokevirtual 80, 3) := by decide +kernel
theorem d_La_law_255 : decode b_La_law 255 = .ok (.goto 582, 3) := by decide +kernel
theorem d_La_law_258 : decode b_La_law 258 = .ok (.aload_n 1, 1) := by decide +kernel
theorem d_La_law_259 : decode b_La_law 259 = .ok (.aload_n 0, 1) := by decide +kernel
theorem d_La_law_260 : decode b_La_law 260 = .ok (.iload 4, 2) := by decide +kernel
theorem d_La_law_262 : decode b_La_law 262 = .ok (.iconst 1, 1) := by decide +kernel
theorem d_La_law_263 : decode b_La_law 263 = .ok (.iadd, 1) := by decide +kernel
theorem d_La_law_264 : decode b_La_law 264 = .ok (.iaload, 1) := by decide +kernel
theorem d_La_law_265 : decode b_La_law 265 = .ok (.aload_n 0, 1) := by decide +kernel
theorem d_La_law_266 : decode b_La_law 266 = .ok (.iload 4, 2) := by decide +kernel
theorem d_La_law_268 : decode b_La_law 268 = .ok (.iconst 2, 1) := by decide +kernel
theorem d_La_law_269 : decode b_La_law 269 = .ok (.iadd, 1) := by decide +kernel
theorem d_La_law_270 : decode b_La_law 270 = .ok (.iaload, 1) := by decide +kernel
theorem d_La_law_271 : decode b_La_law 271 = .ok (.aload_n 0, 1) := by decide +kernel
theorem d_La_law_272 : decode b_La_law 272 = .ok (.iload 4, 2) := by decide +kernel
theorem d_La_law_274 : decode b_La_law 274 = .ok (.iconst 3, 1) := by decide +kernel
theorem d_La_law_275 : decode b_La_law 275 = .ok (.iadd, 1) := by decide +kernel
theorem d_La_law_276 : decode b_La_law 276 = .ok (.iaload, 1) := by decide +kernel
theorem d_La_law_277 : decode b_La_law 277 = .ok (.i2l, 1) := by decide +kernel
theorem d_La_law_278 : decode b_La_law 278 = .ok (.bipush 32, 2) := by decide +kernel
theorem d_La_law_280 : decode b_La_law 280 = .ok (.lshl, 1) := by decide +kernel
theorem d_La_law_281 : decode b_La_law 281 = .ok (.aload_n 0, 1) := by decide +kernel
theorem d_La_law_282 : decode b_La_law 282 = .ok (.iload 4, 2) := by decide +kernel
theorem d_La_law_284 : decode b_La_law 284 = .ok (.iconst 4, 1) := by decide +kernel
theorem d_La_law_285 : decode b_La_law 285 = .ok (.iadd, 1) := by decide +kernel
theorem d_La_law_286 : decode b_La_law 286 = .ok (.iaload, 1) := by decide +kernel
theorem d_La_law_287 : decode b_La_law 287 = .ok (.i2l, 1) := by decide +kernel
theorem d_La_law_288 : decode b_La_law 288 = .ok (.ldc2_w 75, 3) := by decide +kernel
theorem d_La_law_291 : decode b_La_law 291 = .ok (.land, 1) := by decide +kernel
theorem d_La_law_292 : decode b_La_law 292 = .ok (.lor, 1) := by decide +kernel
theorem d_La_law_293 : decode b_La_law 293 = .ok (.invokestatic 81, 3) := by decide +kernel
theorem d_La_law_296 : decode b_La_law 296 = .ok (.istore 5, 2) := by decide +kernel
theorem d_La_law_298 : decode b_La_law 298 = .ok (.aload_n 2, 1) := by decide +kernel
theorem d_La_law_299 : decode b_La_law 299 = .ok (.aload_n 0, 1) := by decide +kernel
theorem d_La_law_300 : decode b_La_law 300 = .ok (.iload 4, 2) := by decide +kernel
theorem d_La_law_302 : decode b_La_law 302 = .ok (.iconst 1, 1) := by decide +kernel
theorem d_La_law_303 : decode b_La_law 303 = .ok (.iadd, 1) := by decide +kernel
theorem d_La_law_304 : decode b_La_law 304 = .ok (.iaload, 1) := by decide +kernel
theorem d_La_law_305 : decode b_La_law 305 = .ok (.aload_n 0, 1) := by decide +kernel
theorem d_La_law_306 : decode b_La_law 306 = .ok (.iload 4, 2) := by decide +kernel
theorem d_La_law_308 : decode b_La_law 308 = .ok (.iconst 2, 1) := by decide +kernel
theorem d_La_law_309 : decode b_La_law 309 = .ok (.iadd, 1) := by decide +kernel
theorem d_La_law_310 : decode b_La_law 310 = .ok (.iaload, 1) := by decide +kernel
theorem d_La_law_311 : decode b_La_law 311 = .ok (.aload_n 0, 1) := by decide +kernel
theorem d_La_law_312 : decode b_La_law 312 = .ok (.iload 4, 2) := by decide +kernel
theorem d_La_law_314 : decode b_La_law 314 = .ok (.iconst 3, 1) := by decide +kernel
theorem d_La_law_315 : decode b_La_law 315 = .ok (.iadd, 1) := by decide +kernel
theorem d_La_law_316 : decode b_La_law 316 = .ok (.iaload, 1) := by decide +kernel
theorem d_La_law_317 : decode b_La_law 317 = .ok (.i2l, 1) := by decide +kernel
theorem d_La_law_318 : decode b_La_law 318 = .ok (.bipush 32, 2) := by decide +kernel
theorem d_La_law_320 : decode b_La_law 320 = .ok (.lshl, 1) := by decide +kernel
theorem d_La_law_321 : decode b_La_law 321 = .ok (.aload_n 0, 1) := by decide +kernel
theorem d_La_law_322 : decode b_La_law 322 = .ok (.iload 4, 2) := by decide +kernel
theorem d_La_law_324 : decode b_La_law 324 = .ok (.iconst 4, 1) := by decide +kernel
theorem d_La_law_325 : decode b_La_law 325 = .ok (.iadd, 1) := by decide +kernel
theorem d_La_law_326 : decode b_La_law 326 = .ok (.iaload, 1) := by decide +kernel
theorem d_La_law_327 : decode b_La_law 327 = .ok (.i2l, 1) := by decide +kernel
theorem d_La_law_328 : decode b_La_law 328 = .ok (.ldc2_w 75, 3) := by decide +kernel
theorem d_La_law_331 : decode b_La_law 331 = .ok (.land, 1) := by decide +kernel
theorem d_La_law_332 : decode b_La_law 332 = .ok (.lor, 1) := by decide +kernel
theorem d_La_law_333 : decode b_La_law 333 = .ok (.invokevirtual 84, 3) := by decide +kernel
theorem d_La_law_336 : decode b_La_law 336 = .ok (.aload_n 2, 1) := by decide +kernel
theorem d_La_law_337 : decode b_La_law 337 = .ok (.invokevirtual 85, 3) := by decide +kernel
theorem d_La_law_340 : decode b_La_law 340 = .ok (.iload 5, 2) := by decide +kernel
theorem d_La_law_342 : decode b_La_law 342 = .ok (.if_icmp .eq 5, 3) := by decide +kernel
theorem d_La_law_345 : decode b_La_law 345 = .ok (.iconst 0, 1) := by decide +kernel
theorem d_La_law_346 : decode b_La_law 346 = .ok (.ireturn, 1) := by decide +kernel
theorem d_La_law_347 : decode b_La_law 347 = .ok (.goto 490, 3) := by decide +kernel
theorem d_La_law_350 : decode b_La_law 350 = .ok (.aload_n 1, 1) := by decide +kernel
theorem d_La_law_351 : decode b_La_law 351 = .ok (.aload_n 0, 1) := by decide +kernel
theorem d_La_law_352 : decode b_La_law 352 = .ok (.iload 4, 2) := by decide +kernel
theorem d_La_law_354 : decode b_La_law 354 = .ok (.iconst 1, 1) := by decide +kernel
theorem d_La_law_355 : decode b_La_law 355 = .ok (.iadd, 1) := by decide +kernel
theorem d_La_law_356 : decode b_La_law 356 = .ok (.iaload, 1) := by decide +kernel
theorem d_La_law_357 : decode b_La_law 357 = .ok (.invokestatic 89, 3) := by decide +kernel
theorem d_La_law_360 : decode b_La_law 360 = .ok (.istore 5, 2) := by decide +kernel
theorem d_La_law_362 : decode b_La_law 362 = .ok (.aload_n 2, 1) := by decide +kernel
theorem d_La_law_363 : decode b_La_law 363 = .ok (.aload_n 0, 1) := by decide +kernel
theorem d_La_law_364 : decode b_La_law 364 = .ok (.iload 4, 2) := by decide +kernel
theorem d_La_law_366 : decode b_La_law 366 = .ok (.iconst 1, 1) := by decide +kernel
theorem d_La_law_367 : decode b_La_law 367 = .ok (.iadd, 1) := by decide +kernel
theorem d_La_law_368 : decode b_La_law 368 = .ok (.iaload, 1) := by decide +kernel
theorem d_La_law_369 : decode b_La_law 369 = .ok (.invokevirtual 92, 3) := by decide +kernel
theorem d_La_law_372 : decode b_La_law 372 = .ok (.goto 465, 3) := by decide +kernel
theorem d_La_law_375 : decode b_La_law 375 = .ok (.aload_n 1, 1) := by decide +kernel
theorem d_La_law_376 : decode b_La_law 376 = .ok (.aload_n 0, 1) := by decide +kernel
theorem d_La_law_377 : decode b_La_law 377 = .ok (.iload 4, 2) := by decide +kernel
theorem d_La_law_379 : decode b_La_law 379 = .ok (.iconst 1, 1) := by decide +kernel
theorem d_La_law_380 : decode b_La_law 380 = .ok (.iadd, 1) := by decide +kernel
theorem d_La_law_381 : decode b_La_law 381 = .ok (.iaload, 1) := by decide +kernel
theorem d_La_law_382 : decode b_La_law 382 = .ok (.aload_n 3, 1) := by decide +kernel
theorem d_La_law_383 : decode b_La_law 383 = .ok (.invokestatic 93, 3) := by decide +kernel
theorem d_La_law_386 : decode b_La_law 386 = .ok (.istore 5, 2) := by decide +kernel
theorem d_La_law_388 : decode b_La_law 388 = .ok (.aload_n 2, 1) := by decide +kernel
theorem d_La_law_389 : decode b_La_law 389 = .ok (.aload_n 0, 1) := by decide +kernel
theorem d_La_law_390 : decode b_La_law 390 = .ok (.iload 4, 2) := by decide +kernel
theorem d_La_law_392 : decode b_La_law 392 = .ok (.iconst 1, 1) := by decide +kernel
theorem d_La_law_393 : decode b_La_law 393 = .ok (.iadd, 1) := by decide +kernel
theorem d_La_law_394 : decode b_La_law 394 = .ok (.iaload, 1) := by decide +kernel
theorem d_La_law_395 : decode b_La_law 395 = .ok (.invokevirtual 96, 3) := by decide +kernel
theorem d_La_law_398 : decode b_La_law 398 = .ok (.istore 6, 2) := by decide +kernel
theorem d_La_law_400 : decode b_La_law 400 = .ok (.goto 437, 3) := by decide +kernel
theorem d_La_law_403 : decode b_La_law 403 = .ok (.aload_n 1, 1) := by decide +kernel
theorem d_La_law_404 : decode b_La_law 404 = .ok (.aload_n 0, 1) := by decide +kernel
theorem d_La_law_405 : decode b_La_law 405 = .ok (.iload 4, 2) := by decide +kernel
theorem d_La_law_407 : decode b_La_law 407 = .ok (.iconst 1, 1) := by decide +kernel
theorem d_La_law_408 : decode b_La_law 408 = .ok (.iadd, 1) := by decide +kernel
theorem d_La_law_409 : decode b_La_law 409 = .ok (.iaload, 1) := by decide +kernel
theorem d_La_law_410 : decode b_La_law 410 = .ok (.aload_n 0, 1) := by decide +kernel
theorem d_La_law_411 : decode b_La_law 411 = .ok (.iload 4, 2) := by decide +kernel
theorem d_La_law_413 : decode b_La_law 413 = .ok (.iconst 2, 1) := by decide +kernel
theorem d_La_law_414 : decode b_La_law 414 = .ok (.iadd, 1) := by decide +kernel
theorem d_La_law_415 : decode b_La_law 415 = .ok (.iaload, 1) := by decide +kernel
theorem d_La_law_416 : decode b_La_law 416 = .ok (.ifCond .eq 7, 3) := by decide +kernel
theorem d_La_law_419 : decode b_La_law 419 = .ok (.iconst 1, 1) := by decide +kernel
theorem d_La_law_420 : decode b_La_law 420 = .ok (.goto 4, 3) := by decide +kernel
theorem d_La_law_423 : decode b_La_law 423 = .ok (.iconst 0, 1) := by decide +kernel
theorem d_La_law_424 : decode b_La_law 424 = .ok (.aload_n 0, 1) := by decide +kernel
theorem d_La_law_425 : decode b_La_law 425 = .ok (.iload 4, 2) := by decide +kernel
theorem d_La_law_427 : decode b_La_law 427 = .ok (.iconst 3, 1) := by decide +kernel
theorem d_La_law_428 : decode b_La_law 428 = .ok (.iadd, 1) := by decide +kernel
theorem d_La_law_429 : decode b_La_law 429 = .ok (.iaload, 1) := by decide +kernel
theorem d_La_law_430 : decode b_La_law 430 = .ok (.i2l, 1) := by decide +kernel
theorem d_La_law_431 : decode b_La_law 431 = .ok (.bipush 32, 2) := by decide +kernel
theorem d_La_law_433 : decode b_La_law 433 = .ok (.lshl, 1) := by decide +kernel
theorem d_La_law_434 : decode b_La_law 434 = .ok (.aload_n 0, 1) := by decide +kernel
theorem d_La_law_435 : decode b_La_law 435 = .ok (.iload 4, 2) := by decide +kernel
theorem d_La_law_437 : decode b_La_law 437 = .ok (.iconst 4, 1) := by decide +kernel
theorem d_La_law_438 : decode b_La_law 438 = .ok (.iadd, 1) := by decide +kernel
theorem d_La_law_439 : decode b_La_law 439 = .ok (.iaload, 1) := by decide +kernel
theorem d_La_law_440 : decode b_La_law 440 = .ok (.i2l, 1) := by decide +kernel
theorem d_La_law_441 : decode b_La_law 441 = .ok (.ldc2_w 75, 3) := by decide +kernel
theorem d_La_law_444 : decode b_La_law 444 = .ok (.land, 1) := by decide +kernel
theorem d_La_law_445 : decode b_La_law 445 = .ok (.lor, 1) := by decide +kernel
theorem d_La_law_446 : decode b_La_law 446 = .ok (.aload_n 3, 1) := by decide +kernel
theorem d_La_law_447 : decode b_La_law 447 = .ok (.invokestatic 97, 3) := by decide +kernel
theorem d_La_law_450 : decode b_La_law 450 = .ok (.istore 5, 2) := by decide +kernel
theorem d_La_law_452 : decode b_La_law 452 = .ok (.aload_n 2, 1) := by decide +kernel
theorem d_La_law_453 : decode b_La_law 453 = .ok (.aload_n 0, 1) := by decide +kernel
theorem d_La_law_454 : decode b_La_law 454 = .ok (.iload 4, 2) := by decide +kernel
theorem d_La_law_456 : decode b_La_law 456 = .ok (.iconst 1, 1) := by decide +kernel
theorem d_La_law_457 : decode b_La_law 457 = .ok (.iadd, 1) := by decide +kernel
theorem d_La_law_458 : decode b_La_law 458 = .ok (.iaload, 1) := by decide +kernel
theorem d_La_law_459 : decode b_La_law 459 = .ok (.aload_n 0, 1) := by decide +kernel
theorem d_La_law_460 : decode b_La_law 460 = .ok (.iload 4, 2) := by decide +kernel
theorem d_La_law_462 : decode b_La_law 462 = .ok (.iconst 2, 1) := by decide +kernel
theorem d_La_law_463 : decode b_La_law 463 = .ok (.iadd, 1) := by decide +kernel
theorem d_La_law_464 : decode b_La_law 464 = .ok (.iaload, 1) := by decide +kernel
theorem d_La_law_465 : decode b_La_law 465 = .ok (.ifCond .eq 7, 3) := by decide +kernel
theorem d_La_law_468 : decode b_La_law 468 = .ok (.iconst 1, 1) := by decide +kernel
theorem d_La_law_469 : decode b_La_law 469 = .ok (.goto 4, 3) := by decide +kernel
theorem d_La_law_472 : decode b_La_law 472 = .ok (.iconst 0, 1) := by decide +kernel
theorem d_La_law_473 : decode b_La_law 473 = .ok (.aload_n 0, 1) := by decide +kernel
theorem d_La_law_474 : decode b_La_law 474 = .ok (.iload 4, 2) := by decide +kernel
theorem d_La_law_476 : decode b_La_law 476 = .ok (.iconst 3, 1) := by decide +kernel
theorem d_La_law_477 : decode b_La_law 477 = .ok (.iadd, 1) := by decide +kernel
theorem d_La_law_478 : decode b_La_law 478 = .ok (.iaload, 1) := by decide +kernel
theorem d_La_law_479 : decode b_La_law 479 = .ok (.i2l, 1) := by decide +kernel
theorem d_La_law_480 : decode b_La_law 480 = .ok (.bipush 32, 2) := by decide +kernel
theorem d_La_law_482 : decode b_La_law 482 = .ok (.lshl, 1) := by decide +kernel
theorem d_La_law_483 : decode b_La_law 483 = .ok (.aload_n 0, 1) := by decide +kernel
theorem d_La_law_484 : decode b_La_law 484 = .ok (.iload 4, 2) := by decide +kernel
theorem d_La_law_486 : decode b_La_law 486 = .ok (.iconst 4, 1) := by decide +kernel
theorem d_La_law_487 : decode b_La_law 487 = .ok (.iadd, 1) := by decide +kernel
theorem d_La_law_488 : decode b_La_law 488 = .ok (.iaload, 1) := by decide +kernel
theorem d_La_law_489 : decode b_La_law 489 = .ok (.i2l, 1) := by decide +kernel
theorem d_La_law_490 : decode b_La_law 490 = .ok (.ldc2_w 75, 3) := by decide +kernel
theorem d_La_law_493 : decode b_La_law 493 = .ok (.land, 1) := by decide +kernel
theorem d_La_law_494 : decode b_La_law 494 = .ok (.lor, 1) := by decide +kernel
theorem d_La_law_495 : decode b_La_law 495 = .ok (.invokevirtual 100, 3) := by decide +kernel
theorem d_La_law_498 : decode b_La_law 498 = .ok (.lstore 6, 2) := by decide +kernel
theorem d_La_law_500 : decode b_La_law 500 = .ok (.goto 337, 3) := by decide +kernel
theorem d_La_law_503 : decode b_La_law 503 = .ok (.aload_n 1, 1) := by decide +kernel
theorem d_La_law_504 : decode b_La_law 504 = .ok (.aload_n 0, 1) := by decide +kernel
theorem d_La_law_505 : decode b_La_law 505 = .ok (.iload 4, 2) := by decide +kernel
theorem d_La_law_507 : decode b_La_law 507 = .ok (.iconst 1, 1) := by decide +kernel
theorem d_La_law_508 : decode b_La_law 508 = .ok (.iadd, 1) := by decide +kernel
theorem d_La_law_509 : decode b_La_law 509 = .ok (.iaload, 1) := by decide +kernel
theorem d_La_law_510 : decode b_La_law 510 = .ok (.aload_n 0, 1) := by decide +kernel
theorem d_La_law_511 : decode b_La_law 511 = .ok (.iload 4, 2) := by decide +kernel
theorem d_La_law_513 : decode b_La_law 513 = .ok (.iconst 2, 1) := by decide +kernel
theorem d_La_law_514 : decode b_La_law 514 = .ok (.iadd, 1) := by decide +kernel
theorem d_La_law_515 : decode b_La_law 515 = .ok (.iaload, 1) := by decide +kernel
theorem d_La_law_516 : decode b_La_law 516 = .ok (.aload_n 3, 1) := by decide +kernel
theorem d_La_law_517 : decode b_La_law 517 = .ok (.invokestatic 101, 3) := by decide +kernel
theorem d_La_law_520 : decode b_La_law 520 = .ok (.istore 5, 2) := by decide +kernel
theorem d_La_law_522 : decode b_La_law 522 = .ok (.aload_n 2, 1) := by decide +kernel
theorem d_La_law_523 : decode b_La_law 523 = .ok (.aload_n 0, 1) := by decide +kernel
theorem d_La_law_524 : decode b_La_law 524 = .ok (.iload 4, 2) := by decide +kernel
theorem d_La_law_526 : decode b_La_law 526 = .ok (.iconst 1, 1) := by decide +kernel
theorem d_La_law_527 : decode b_La_law 527 = .ok (.iadd, 1) := by decide +kernel
theorem d_La_law_528 : decode b_La_law 528 = .ok (.iaload, 1) := by decide +kernel
theorem d_La_law_529 : decode b_La_law 529 = .ok (.aload_n 0, 1) := by decide +kernel
theorem d_La_law_530 : decode b_La_law 530 = .ok (.iload 4, 2) := by decide +kernel
theorem d_La_law_532 : decode b_La_law 532 = .ok (.iconst 2, 1) := by decide +kernel
theorem d_La_law_533 : decode b_La_law 533 = .ok (.iadd, 1) := by decide +kernel
theorem d_La_law_534 : decode b_La_law 534 = .ok (.iaload, 1) := by decide +kernel
theorem d_La_law_535 : decode b_La_law 535 = .ok (.invokevirtual 104, 3) := by decide +kernel
theorem d_La_law_538 : decode b_La_law 538 = .ok (.istore 6, 2) := by decide +kernel
theorem d_La_law_540 : decode b_La_law 540 = .ok (.goto 297, 3) := by decide +kernel
theorem d_La_law_543 : decode b_La_law 543 = .ok (.aload_n 1, 1) := by decide +kernel
theorem d_La_law_544 : decode b_La_law 544 = .ok (.aload_n 0, 1) := by decide +kernel
theorem d_La_law_545 : decode b_La_law 545 = .ok (.iload 4, 2) := by decide +kernel
theorem d_La_law_547 : decode b_La_law 547 = .ok (.iconst 1, 1) := by decide +kernel
theorem d_La_law_548 : decode b_La_law 548 = .ok (.iadd, 1) := by decide +kernel
theorem d_La_law_549 : decode b_La_law 549 = .ok (.iaload, 1) := by decide +kernel
theorem d_La_law_550 : decode b_La_law 550 = .ok (.aload_n 0, 1) := by decide +kernel
theorem d_La_law_551 : decode b_La_law 551 = .ok (.iload 4, 2) := by decide +kernel
theorem d_La_law_553 : decode b_La_law 553 = .ok (.iconst 2, 1) := by decide +kernel
theorem d_La_law_554 : decode b_La_law 554 = .ok (.iadd, 1) := by decide +kernel
theorem d_La_law_555 : decode b_La_law 555 = .ok (.iaload, 1) := by decide +kernel
theorem d_La_law_556 : decode b_La_law 556 = .ok (.invokestatic 105, 3) := by decide +kernel
theorem d_La_law_559 : decode b_La_law 559 = .ok (.istore 5, 2) := by decide +kernel
theorem d_La_law_561 : decode b_La_law 561 = .ok (.aload_n 2, 1) := by decide +kernel
theorem d_La_law_562 : decode b_La_law 562 = .ok (.aload_n 0, 1) := by decide +kernel
theorem d_La_law_563 : decode b_La_law 563 = .ok (.iload 4, 2) := by decide +kernel
theorem d_La_law_565 : decode b_La_law 565 = .ok (.iconst 1, 1) := by decide +kernel
theorem d_La_law_566 : decode b_La_law 566 = .ok (.iadd, 1) := by decide +kernel
theorem d_La_law_567 : decode b_La_law 567 = .ok (.iaload, 1) := by decide +kernel
theorem d_La_law_568 : decode b_La_law 568 = .ok (.aload_n 0, 1) := by decide +kernel
theorem d_La_law_569 : decode b_La_law 569 = .ok (.iload 4, 2) := by decide +kernel
theorem d_La_law_571 : decode b_La_law 571 = .ok (.iconst 2, 1) := by decide +kernel
theorem d_La_law_572 : decode b_La_law 572 = .ok (.iadd, 1) := by decide +kernel
theorem d_La_law_573 : decode b_La_law 573 = .ok (.iaload, 1) := by decide +kernel
theorem d_La_law_574 : decode b_La_law 574 = .ok (.invokevirtual 107, 3) := by decide +kernel
theorem d_La_law_577 : decode b_La_law 577 = .ok (.goto 260, 3) := by decide +kernel
theorem d_La_law_580 : decode b_La_law 580 = .ok (.aload_n 1, 1) := by decide +kernel
theorem d_La_law_581 : decode b_La_law 581 = .ok (.aload_n 0, 1) := by decide +kernel
theorem d_La_law_582 : decode b_La_law 582 = .ok (.iload 4, 2) := by decide +kernel
theorem d_La_law_584 : decode b_La_law 584 = .ok (.iconst 1, 1) := by decide +kernel
theorem d_La_law_585 : decode b_La_law 585 = .ok (.iadd, 1) := by decide +kernel
theorem d_La_law_586 : decode b_La_law 586 = .ok (.iaload, 1) := by decide +kernel
theorem d_La_law_587 : decode b_La_law 587 = .ok (.aload_n 3, 1) := by decide +kernel
theorem d_La_law_588 : decode b_La_law 588 = .ok (.invokestatic 108, 3) := by decide +kernel
theorem d_La_law_591 : decode b_La_law 591 = .ok (.istore 5, 2) := by decide +kernel
theorem d_La_law_593 : decode b_La_law 593 = .ok (.aload_n 2, 1) := by decide +kernel
theorem d_La_law_594 : decode b_La_law 594 = .ok (.aload_n 0, 1) := by decide +kernel
theorem d_La_law_595 : decode b_La_law 595 = .ok (.iload 4, 2) := by decide +kernel
theorem d_La_law_597 : decode b_La_law 597 = .ok (.iconst 1, 1) := by decide +kernel
theorem d_La_law_598 : decode b_La_law 598 = .ok (.iadd, 1) := by decide +kernel
theorem d_La_law_599 : decode b_La_law 599 = .ok (.iaload, 1) := by decide +kernel
theorem d_La_law_600 : decode b_La_law 600 = .ok (.invokevirtual 110, 3) := by decide +kernel
theorem d_La_law_603 : decode b_La_law 603 = .ok (.istore 6, 2) := by decide +kernel
theorem d_La_law_605 : decode b_La_law 605 = .ok (.goto 232, 3) := by decide +kernel
theorem d_La_law_608 : decode b_La_law 608 = .ok (.aload_n 1, 1) := by decide +kernel
theorem d_La_law_609 : decode b_La_law 609 = .ok (.aload_n 0, 1) := by decide +kernel
theorem d_La_law_610 : decode b_La_law 610 = .ok (.iload 4, 2) := by decide +kernel
theorem d_La_law_612 : decode b_La_law 612 = .ok (.iconst 1, 1) := by decide +kernel
theorem d_La_law_613 : decode b_La_law 613 = .ok (.iadd, 1) := by decide +kernel
theorem d_La_law_614 : decode b_La_law 614 = .ok (.iaload, 1) := by decide +kernel
theorem d_La_law_615 : decode b_La_law 615 = .ok (.aload_n 0, 1) := by decide +kernel
theorem d_La_law_616 : decode b_La_law 616 = .ok (.iload 4, 2) := by decide +kernel
theorem d_La_law_618 : decode b_La_law 618 = .ok (.iconst 2, 1) := by decide +kernel
theorem d_La_law_619 : decode b_La_law 619 = .ok (.iadd, 1) := by decide +kernel
theorem d_La_law_620 : decode b_La_law 620 = .ok (.iaload, 1) := by decide +kernel
theorem d_La_law_621 : decode b_La_law 621 = .ok (.ifCond .eq 7, 3) := by decide +kernel
theorem d_La_law_624 : decode b_La_law 624 = .ok (.iconst 1, 1) := by decide +kernel
theorem d_La_law_625 : decode b_La_law 625 = .ok (.goto 4, 3) := by decide +kernel
theorem d_La_law_628 : decode b_La_law 628 = .ok (.iconst 0, 1) := by decide +kernel
theorem d_La_law_629 : decode b_La_law 629 = .ok (.aload_n 0, 1) := by decide +kernel
theorem d_La_law_630 : decode b_La_law 630 = .ok (.iload 4, 2) := by decide +kernel
theorem d_La_law_632 : decode b_La_law 632 = .ok (.iconst 3, 1) := by decide +kernel
theorem d_La_law_633 : decode b_La_law 633 = .ok (.iadd, 1) := by decide +kernel
theorem d_La_law_634 : decode b_La_law 634 = .ok (.iaload, 1) := by decide +kernel
theorem d_La_law_635 : decode b_La_law 635 = .ok (.aload_n 0, 1) := by decide +kernel
theorem d_La_law_636 : decode b_La_law 636 = .ok (.iload 4, 2) := by decide +kernel
theorem d_La_law_638 : decode b_La_law 638 = .ok (.iconst 4, 1) := by decide +kernel
theorem d_La_law_639 : decode b_La_law 639 = .ok (.iadd, 1) := by decide +kernel
theorem d_La_law_640 : decode b_La_law 640 = .ok (.iaload, 1) := by decide +kernel
theorem d_La_law_641 : decode b_La_law 641 = .ok (.aload_n 3, 1) := by decide +kernel
theorem d_La_law_642 : decode b_La_law 642 = .ok (.invokestatic 111, 3) := by decide +kernel
theorem d_La_law_645 : decode b_La_law 645 = .ok (.istore 5, 2) := by decide +kernel
theorem d_La_law_647 : decode b_La_law 647 = .ok (.aload_n 2, 1) := by decide +kernel
theorem d_La_law_648 : decode b_La_law 648 = .ok (.aload_n 0, 1) := by decide +kernel
theorem d_La_law_649 : decode b_La_law 649 = .ok (.iload 4, 2) := by decide +kernel
theorem d_La_law_651 : decode b_La_law 651 = .ok (.iconst 1, 1) := by decide +kernel
theorem d_La_law_652 : decode b_La_law 652 = .ok (.iadd, 1) := by decide +kernel
theorem d_La_law_653 : decode b_La_law 653 = .ok (.iaload, 1) := by decide +kernel
theorem d_La_law_654 : decode b_La_law 654 = .ok (.aload_n 0, 1) := by decide +kernel
theorem d_La_law_655 : decode b_La_law 655 = .ok (.iload 4, 2) := by decide +kernel
theorem d_La_law_657 : decode b_La_law 657 = .ok (.iconst 2, 1) := by decide +kernel
theorem d_La_law_658 : decode b_La_law 658 = .ok (.iadd, 1) := by decide +kernel
theorem d_La_law_659 : decode b_La_law 659 = .ok (.iaload, 1) := by decide +kernel
theorem d_La_law_660 : decode b_La_law 660 = .ok (.ifCond .eq 7, 3) := by decide +kernel
theorem d_La_law_663 : decode b_La_law 663 = .ok (.iconst 1, 1) := by decide +kernel
theorem d_La_law_664 : decode b_La_law 664 = .ok (.goto 4, 3) := by decide +kernel
theorem d_La_law_667 : decode b_La_law 667 = .ok (.iconst 0, 1) := by decide +kernel
theorem d_La_law_668 : decode b_La_law 668 = .ok (.aload_n 0, 1) := by decide +kernel
theorem d_La_law_669 : decode b_La_law 669 = .ok (.iload 4, 2) := by decide +kernel
theorem d_La_law_671 : decode b_La_law 671 = .ok (.iconst 3, 1) := by decide +kernel
theorem d_La_law_672 : decode b_La_law 672 = .ok (.iadd, 1) := by decide +kernel
theorem d_La_law_673 : decode b_La_law 673 = .ok (.iaload, 1) := by decide +kernel
theorem d_La_law_674 : decode b_La_law 674 = .ok (.aload_n 0, 1) := by decide +kernel
theorem d_La_law_675 : decode b_La_law 675 = .ok (.iload 4, 2) := by decide +kernel
theorem d_La_law_677 : decode b_La_law 677 = .ok (.iconst 4, 1) := by decide +kernel
theorem d_La_law_678 : decode b_La_law 678 = .ok (.iadd, 1) := by decide +kernel
theorem d_La_law_679 : decode b_La_law 679 = .ok (.iaload, 1) := by decide +kernel
theorem d_La_law_680 : decode b_La_law 680 = .ok (.invokevirtual 114, 3) := by decide +kernel
theorem d_La_law_683 : decode b_La_law 683 = .ok (.istore 6, 2) := by decide +kernel
theorem d_La_law_685 : decode b_La_law 685 = .ok (.goto 152, 3) := by decide +kernel
theorem d_La_law_688 : decode b_La_law 688 = .ok (.aload_n 1, 1) := by decide +kernel
theorem d_La_law_689 : decode b_La_law 689 = .ok (.aload_n 0, 1) := by decide +kernel
theorem d_La_law_690 : decode b_La_law 690 = .ok (.iload 4, 2) := by decide +kernel
theorem d_La_law_692 : decode b_La_law 692 = .ok (.iconst 1, 1) := by decide +kernel
theorem d_La_law_693 : decode b_La_law 693 = .ok (.iadd, 1) := by decide +kernel
theorem d_La_law_694 : decode b_La_law 694 = .ok (.iaload, 1) := by decide +kernel
theorem d_La_law_695 : decode b_La_law 695 = .ok (.aload_n 0, 1) := by decide +kernel
theorem d_La_law_696 : decode b_La_law 696 = .ok (.iload 4, 2) := by decide +kernel
theorem d_La_law_698 : decode b_La_law 698 = .ok (.iconst 2, 1) := by decide +kernel
theorem d_La_law_699 : decode b_La_law 699 = .ok (.iadd, 1) := by decide +kernel
theorem d_La_law_700 : decode b_La_law 700 = .ok (.iaload, 1) := by decide +kernel
theorem d_La_law_701 : decode b_La_law 701 = .ok (.i2l, 1) := by decide +kernel
theorem d_La_law_702 : decode b_La_law 702 = .ok (.bipush 32, 2) := by decide +kernel
theorem d_La_law_704 : decode b_La_law 704 = .ok (.lshl, 1) := by decide +kernel
theorem d_La_law_705 : decode b_La_law 705 = .ok (.aload_n 0, 1) := by decide +kernel
theorem d_La_law_706 : decode b_La_law 706 = .ok (.iload 4, 2) := by decide +kernel
theorem d_La_law_708 : decode b_La_law 708 = .ok (.iconst 3, 1) := by decide +kernel
theorem d_La_law_709 : decode b_La_law 709 = .ok (.iadd, 1) := by decide +kernel
theorem d_La_law_710 : decode b_La_law 710 = .ok (.iaload, 1) := by decide +kernel
theorem d_La_law_711 : decode b_La_law 711 = .ok (.i2l, 1) := by decide +kernel
theorem d_La_law_712 : decode b_La_law 712 = .ok (.ldc2_w 75, 3) := by decide +kernel
theorem d_La_law_715 : decode b_La_law 715 = .ok (.land, 1) := by decide +kernel
theorem d_La_law_716 : decode b_La_law 716 = .ok (.lor, 1) := by decide +kernel
theorem d_La_law_717 : decode b_La_law 717 = .ok (.invokestatic 115, 3) := by decide +kernel
theorem d_La_law_720 : decode b_La_law 720 = .ok (.istore 5, 2) := by decide +kernel
theorem d_La_law_722 : decode b_La_law 722 = .ok (.aload_n 2, 1) := by decide +kernel
theorem d_La_law_723 : decode b_La_law 723 = .ok (.aload_n 0, 1) := by decide +kernel
theorem d_La_law_724 : decode b_La_law 724 = .ok (.iload 4, 2) := by decide +kernel
theorem d_La_law_726 : decode b_La_law 726 = .ok (.iconst 1, 1) := by decide +kernel
theorem d_La_law_727 : decode b_La_law 727 = .ok (.iadd, 1) := by decide +kernel
theorem d_La_law_728 : decode b_La_law 728 = .ok (.iaload, 1) := by decide +kernel
theorem d_La_law_729 : decode b_La_law 729 = .ok (.aload_n 0, 1) := by decide +kernel
theorem d_La_law_730 : decode b_La_law 730 = .ok (.iload 4, 2) := by decide +kernel
theorem d_La_law_732 : decode b_La_law 732 = .ok (.iconst 2, 1) := by decide +kernel
theorem d_La_law_733 : decode b_La_law 733 = .ok (.iadd, 1) := by decide +kernel
theorem d_La_law_734 : decode b_La_law 734 = .ok (.iaload, 1) := by decide +kernel
theorem d_La_law_735 : decode b_La_law 735 = .ok (.i2l, 1) := by decide +kernel
theorem d_La_law_736 : decode b_La_law 736 = .ok (.bipush 32, 2) := by decide +kernel
theorem d_La_law_738 : decode b_La_law 738 = .ok (.lshl, 1) := by decide +kernel
theorem d_La_law_739 : decode b_La_law 739 = .ok (.aload_n 0, 1) := by decide +kernel
theorem d_La_law_740 : decode b_La_law 740 = .ok (.iload 4, 2) := by decide +kernel
theorem d_La_law_742 : decode b_La_law 742 = .ok (.iconst 3, 1) := by decide +kernel
theorem d_La_law_743 : decode b_La_law 743 = .ok (.iadd, 1) := by decide +kernel
theorem d_La_law_744 : decode b_La_law 744 = .ok (.iaload, 1) := by decide +kernel
theorem d_La_law_745 : decode b_La_law 745 = .ok (.i2l, 1) := by decide +kernel
theorem d_La_law_746 : decode b_La_law 746 = .ok (.ldc2_w 75, 3) := by decide +kernel
theorem d_La_law_749 : decode b_La_law 749 = .ok (.land, 1) := by decide +kernel
theorem d_La_law_750 : decode b_La_law 750 = .ok (.lor, 1) := by decide +kernel
theorem d_La_law_751 : decode b_La_law 751 = .ok (.invokevirtual 118, 3) := by decide +kernel
theorem d_La_law_754 : decode b_La_law 754 = .ok (.goto 83, 3) := by decide +kernel
theorem d_La_law_757 : decode b_La_law 757 = .ok (.aload_n 1, 1) := by decide +kernel

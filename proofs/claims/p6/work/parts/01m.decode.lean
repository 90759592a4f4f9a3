theorem d_La_law_187 : decode b_La_law 187 = .ok (.iconst 5, 1) := by decide +kernel
theorem d_La_law_188 : decode b_La_law 188 = .ok (.iadd, 1) := by decide +kernel
theorem d_La_law_189 : decode b_La_law 189 = .ok (.iaload, 1) := by decide +kernel
theorem d_La_law_190 : decode b_La_law 190 = .ok (.i2l, 1) := by decide +kernel
theorem d_La_law_191 : decode b_La_law 191 = .ok (.ldc2_w 75, 3) := by decide +kernel
theorem d_La_law_194 : decode b_La_law 194 = .ok (.land, 1) := by decide +kernel
theorem d_La_law_195 : decode b_La_law 195 = .ok (.lor, 1) := by decide +kernel
theorem d_La_law_196 : decode b_La_law 196 = .ok (.invokestatic 77, 3) := by decide +kernel
theorem d_La_law_199 : decode b_La_law 199 = .ok (.istore 5, 2) := by decide +kernel
theorem d_La_law_201 : decode b_La_law 201 = .ok (.aload_n 2, 1) := by decide +kernel
theorem d_La_law_202 : decode b_La_law 202 = .ok (.aload_n 0, 1) := by decide +kernel
theorem d_La_law_203 : decode b_La_law 203 = .ok (.iload 4, 2) := by decide +kernel
theorem d_La_law_205 : decode b_La_law 205 = .ok (.iconst 1, 1) := by decide +kernel
theorem d_La_law_206 : decode b_La_law 206 = .ok (.iadd, 1) := by decide +kernel
theorem d_La_law_207 : decode b_La_law 207 = .ok (.iaload, 1) := by decide +kernel
theorem d_La_law_208 : decode b_La_law 208 = .ok (.aload_n 0, 1) := by decide +kernel
theorem d_La_law_209 : decode b_La_law 209 = .ok (.iload 4, 2) := by decide +kernel
theorem d_La_law_211 : decode b_La_law 211 = .ok (.iconst 2, 1) := by decide +kernel
theorem d_La_law_212 : decode b_La_law 212 = .ok (.iadd, 1) := by decide +kernel
theorem d_La_law_213 : decode b_La_law 213 = .ok (.iaload, 1) := by decide +kernel
theorem d_La_law_214 : decode b_La_law 214 = .ok (.i2l, 1) := by decide +kernel
theorem d_La_law_215 : decode b_La_law 215 = .ok (.bipush 32, 2) := by decide +kernel
theorem d_La_law_217 : decode b_La_law 217 = .ok (.lshl, 1) := by decide +kernel
theorem d_La_law_218 : decode b_La_law 218 = .ok (.aload_n 0, 1) := by decide +kernel
theorem d_La_law_219 : decode b_La_law 219 = .ok (.iload 4, 2) := by decide +kernel
theorem d_La_law_221 : decode b_La_law 221 = .ok (.iconst 3, 1) := by decide +kernel
theorem d_La_law_222 : decode b_La_law 222 = .ok (.iadd, 1) := by decide +kernel
theorem d_La_law_223 : decode b_La_law 223 = .ok (.iaload, 1) := by decide +kernel
theorem d_La_law_224 : decode b_La_law 224 = .ok (.i2l, 1) := by decide +kernel
theorem d_La_law_225 : decode b_La_law 225 = .ok (.ldc2_w 75, 3) := by decide +kernel
theorem d_La_law_228 : decode b_La_law 228 = .ok (.land, 1) := by decide +kernel
theorem d_La_law_229 : decode b_La_law 229 = .ok (.lor, 1) := by decide +kernel
theorem d_La_law_230 : decode b_La_law 230 = .ok (.aload_n 0, 1) := by decide +kernel
theorem d_La_law_231 : decode b_La_law 231 = .ok (.iload 4, 2) := by decide +kernel
theorem d_La_law_233 : decode b_La_law 233 = .ok (.iconst 4, 1) := by decide +kernel
theorem d_La_law_234 : decode b_La_law 234 = .ok (.iadd, 1) := by decide +kernel
theorem d_La_law_235 : decode b_La_law 235 = .ok (.iaload, 1) := by decide +kernel
theorem d_La_law_236 : decode b_La_law 236 = .ok (.i2l, 1) := by decide +kernel
theorem d_La_law_237 : decode b_La_law 237 = .ok (.bipush 32, 2) := by decide +kernel
theorem d_La_law_239 : decode b_La_law 239 = .ok (.lshl, 1) := by decide +kernel
theorem d_La_law_240 : decode b_La_law 240 = .ok (.aload_n 0, 1) := by decide +kernel
theorem d_La_law_241 : decode b_La_law 241 = .ok (.iload 4, 2) := by decide +kernel
theorem d_La_law_243 : decode b_La_law 243 = .ok (.iconst 5, 1) := by decide +kernel
theorem d_La_law_244 : decode b_La_law 244 = .ok (.iadd, 1) := by decide +kernel
theorem d_La_law_245 : decode b_La_law 245 = .ok (.iaload, 1) := by decide +kernel
theorem d_La_law_246 : decode b_La_law 246 = .ok (.i2l, 1) := by decide +kernel
theorem d_La_law_247 : decode b_La_law 247 = .ok (.ldc2_w 75, 3) := by decide +kernel
theorem d_La_law_250 : decode b_La_law 250 = .ok (.land, 1) := by decide +kernel
theorem d_La_law_251 : decode b_La_law 251 = .ok (.lor, 1) := by decide +kernel
theorem d_La_law_252 : decode b_La_law 252 = .ok (.invokevirtual 80, 3) := by decide +kernel
theorem d_La_law_255 : decode b_La_law 255 = .ok (.goto 599, 3) := by decide +kernel
theorem d_La_law_258 : decode b_La_law 258 = .ok (.aload_n 1, 1) := by decide +kernel
theorem d_La_law_259 : decode b_La_law 259 = .ok (.aload_n 0, 1) := by decide +kernel
theorem d_La_law_260 : decode b_La_law 260 = .ok (.iload 4, 2) := by decide +kernel
theorem d_La_law_262 : decode b_La_law 262 = .ok (.iconst 1, 1) := by decide +kernel
theorem d_La_law_263 : decode b_La_law 263 = .ok (.iadd, 1) := by decide +kernel
theorem d_La_law_264 : decode b_La_law 264 = .ok (.iaload, 1) := by decide +kernel
theorem d_La_law_265 : decode b_La_law 265 = .ok (.aload_n 0, 1) := by decide +kernel
theorem d_La_law_266 : decode b_La_law 266 = .ok (.iload 4, 2) := by decide +kernel
theorem d_La_law_268 : decode b_La_law 268 = .ok (.iconst 2, 1) := by decide +kernel
theorem d_La_law_269 : decode b_La_law 269 = .ok (.iadd, 1) := by decide +kernel
theorem d_La_law_270 : decode b_La_law 270 = .ok (.iaload, 1) := by decide +kernel
theorem d_La_law_271 : decode b_La_law 271 = .ok (.aload_n 0, 1) := by decide +kernel
theorem d_La_law_272 : decode b_La_law 272 = .ok (.iload 4, 2) := by decide +kernel
theorem d_La_law_274 : decode b_La_law 274 = .ok (.iconst 3, 1) := by decide +kernel
theorem d_La_law_275 : decode b_La_law 275 = .ok (.iadd, 1) := by decide +kernel
theorem d_La_law_276 : decode b_La_law 276 = .ok (.iaload, 1) := by decide +kernel
theorem d_La_law_277 : decode b_La_law 277 = .ok (.i2l, 1) := by decide +kernel
theorem d_La_law_278 : decode b_La_law 278 = .ok (.bipush 32, 2) := by decide +kernel
theorem d_La_law_280 : decode b_La_law 280 = .ok (.lshl, 1) := by decide +kernel
theorem d_La_law_281 : decode b_La_law 281 = .ok (.aload_n 0, 1) := by decide +kernel
theorem d_La_law_282 : decode b_La_law 282 = .ok (.iload 4, 2) := by decide +kernel
theorem d_La_law_284 : decode b_La_law 284 = .ok (.iconst 4, 1) := by decide +kernel
theorem d_La_law_285 : decode b_La_law 285 = .ok (.iadd, 1) := by decide +kernel
theorem d_La_law_286 : decode b_La_law 286 = .ok (.iaload, 1) := by decide +kernel
theorem d_La_law_287 : decode b_La_law 287 = .ok (.i2l, 1) := by decide +kernel
theorem d_La_law_288 : decode b_La_law 288 = .ok (.ldc2_w 75, 3) := by decide +kernel
theorem d_La_law_291 : decode b_La_law 291 = .ok (.land, 1) := by decide +kernel
theorem d_La_law_292 : decode b_La_law 292 = .ok (.lor, 1) := by decide +kernel
theorem d_La_law_293 : decode b_La_law 293 = .ok (.invokestatic 81, 3) := by decide +kernel
theorem d_La_law_296 : decode b_La_law 296 = .ok (.istore 5, 2) := by decide +kernel
theorem d_La_law_298 : decode b_La_law 298 = .ok (.aload_n 2, 1) := by decide +kernel
theorem d_La_law_299 : decode b_La_law 299 = .ok (.aload_n 0, 1) := by decide +kernel
theorem d_La_law_300 : decode b_La_law 300 = .ok (.iload 4, 2) := by decide +kernel
theorem d_La_law_302 : decode b_La_law 302 = .ok (.iconst 1, 1) := by decide +kernel
theorem d_La_law_303 : decode b_La_law 303 = .ok (.iadd, 1) := by decide +kernel
theorem d_La_law_304 : decode b_La_law 304 = .ok (.iaload, 1) := by decide +kernel
theorem d_La_law_305 : decode b_La_law 305 = .ok (.aload_n 0, 1) := by decide +kernel
theorem d_La_law_306 : decode b_La_law 306 = .ok (.iload 4, 2) := by decide +kernel
theorem d_La_law_308 : decode b_La_law 308 = .ok (.iconst 2, 1) := by decide +kernel
theorem d_La_law_309 : decode b_La_law 309 = .ok (.iadd, 1) := by decide +kernel
theorem d_La_law_310 : decode b_La_law 310 = .ok (.iaload, 1) := by decide +kernel
theorem d_La_law_311 : decode b_La_law 311 = .ok (.aload_n 0, 1) := by decide +kernel
theorem d_La_law_312 : decode b_La_law 312 = .ok (.iload 4, 2) := by decide +kernel
theorem d_La_law_314 : decode b_La_law 314 = .ok (.iconst 3, 1) := by decide +kernel
theorem d_La_law_315 : decode b_La_law 315 = .ok (.iadd, 1) := by decide +kernel
theorem d_La_law_316 : decode b_La_law 316 = .ok (.iaload, 1) := by decide +kernel
theorem d_La_law_317 : decode b_La_law 317 = .ok (.i2l, 1) := by decide +kernel
theorem d_La_law_318 : decode b_La_law 318 = .ok (.bipush 32, 2) := by decide +kernel
theorem d_La_law_320 : decode b_La_law 320 = .ok (.lshl, 1) := by decide +kernel
theorem d_La_law_321 : decode b_La_law 321 = .ok (.aload_n 0, 1) := by decide +kernel
theorem d_La_law_322 : decode b_La_law 322 = .ok (.iload 4, 2) := by decide +kernel
theorem d_La_law_324 : decode b_La_law 324 = .ok (.iconst 4, 1) := by decide +kernel
theorem d_La_law_325 : decode b_La_law 325 = .ok (.iadd, 1) := by decide +kernel
theorem d_La_law_326 : decode b_La_law 326 = .ok (.iaload, 1) := by decide +kernel
theorem d_La_law_327 : decode b_La_law 327 = .ok (.i2l, 1) := by decide +kernel
theorem d_La_law_328 : decode b_La_law 328 = .ok (.ldc2_w 75, 3) := by decide +kernel
theorem d_La_law_331 : decode b_La_law 331 = .ok (.land, 1) := by decide +kernel
theorem d_La_law_332 : decode b_La_law 332 = .ok (.lor, 1) := by decide +kernel
theorem d_La_law_333 : decode b_La_law 333 = .ok (.invokevirtual 84, 3) := by decide +kernel
theorem d_La_law_336 : decode b_La_law 336 = .ok (.goto 518, 3) := by decide +kernel
theorem d_La_law_339 : decode b_La_law 339 = .ok (.aload_n 1, 1) := by decide +kernel
theorem d_La_law_340 : decode b_La_law 340 = .ok (.aload_n 0, 1) := by decide +kernel
theorem d_La_law_341 : decode b_La_law 341 = .ok (.iload 4, 2) := by decide +kernel
theorem d_La_law_343 : decode b_La_law 343 = .ok (.iconst 1, 1) := by decide +kernel
theorem d_La_law_344 : decode b_La_law 344 = .ok (.iadd, 1) := by decide +kernel
theorem d_La_law_345 : decode b_La_law 345 = .ok (.iaload, 1) := by decide +kernel
theorem d_La_law_346 : decode b_La_law 346 = .ok (.invokestatic 85, 3) := by decide +kernel
theorem d_La_law_349 : decode b_La_law 349 = .ok (.istore 5, 2) := by decide +kernel
theorem d_La_law_351 : decode b_La_law 351 = .ok (.aload_n 2, 1) := by decide +kernel
theorem d_La_law_352 : decode b_La_law 352 = .ok (.aload_n 0, 1) := by decide +kernel
theorem d_La_law_353 : decode b_La_law 353 = .ok (.iload 4, 2) := by decide +kernel
theorem d_La_law_355 : decode b_La_law 355 = .ok (.iconst 1, 1) := by decide +kernel
theorem d_La_law_356 : decode b_La_law 356 = .ok (.iadd, 1) := by decide +kernel
theorem d_La_law_357 : decode b_La_law 357 = .ok (.iaload, 1) := by decide +kernel
theorem d_La_law_358 : decode b_La_law 358 = .ok (.invokevirtual 88, 3) := by decide +kernel
theorem d_La_law_361 : decode b_La_law 361 = .ok (.goto 493, 3) := by decide +kernel
theorem d_La_law_364 : decode b_La_law 364 = .ok (.aload_n 1, 1) := by decide +kernel
theorem d_La_law_365 : decode b_La_law 365 = .ok (.aload_n 0, 1) := by decide +kernel
theorem d_La_law_366 : decode b_La_law 366 = .ok (.iload 4, 2) := by decide +kernel
theorem d_La_law_368 : decode b_La_law 368 = .ok (.iconst 1, 1) := by decide +kernel
theorem d_La_law_369 : decode b_La_law 369 = .ok (.iadd, 1) := by decide +kernel
theorem d_La_law_370 : decode b_La_law 370 = .ok (.iaload, 1) := by decide +kernel
theorem d_La_law_371 : decode b_La_law 371 = .ok (.aload_n 3, 1) := by decide +kernel
theorem d_La_law_372 : decode b_La_law 372 = .ok (.invokestatic 89, 3) := by decide +kernel
theorem d_La_law_375 : decode b_La_law 375 = .ok (.istore 5, 2) := by decide +kernel
theorem d_La_law_377 : decode b_La_law 377 = .ok (.aload_n 2, 1) := by decide +kernel
theorem d_La_law_378 : decode b_La_law 378 = .ok (.aload_n 0, 1) := by decide +kernel
theorem d_La_law_379 : decode b_La_law 379 = .ok (.iload 4, 2) := by decide +kernel
theorem d_La_law_381 : decode b_La_law 381 = .ok (.iconst 1, 1) := by decide +kernel
theorem d_La_law_382 : decode b_La_law 382 = .ok (.iadd, 1) := by decide +kernel
theorem d_La_law_383 : decode b_La_law 383 = .ok (.iaload, 1) := by decide +kernel
theorem d_La_law_384 : decode b_La_law 384 = .ok (.invokevirtual 92, 3) := by decide +kernel
theorem d_La_law_387 : decode b_La_law 387 = .ok (.istore 6, 2) := by decide +kernel
theorem d_La_law_389 : decode b_La_law 389 = .ok (.aload_n 2, 1) := by decide +kernel
theorem d_La_law_390 : decode b_La_law 390 = .ok (.invokevirtual 93, 3) := by decide +kernel
theorem d_La_law_393 : decode b_La_law 393 = .ok (.iload 5, 2) := by decide +kernel
theorem d_La_law_395 : decode b_La_law 395 = .ok (.if_icmp .eq 5, 3) := by decide +kernel
theorem d_La_law_398 : decode b_La_law 398 = .ok (.iconst 0, 1) := by decide +kernel
theorem d_La_law_399 : decode b_La_law 399 = .ok (.ireturn, 1) := by decide +kernel
theorem d_La_law_400 : decode b_La_law 400 = .ok (.iload 5, 2) := by decide +kernel
theorem d_La_law_402 : decode b_La_law 402 = .ok (.ifCond .ne 15, 3) := by decide +kernel
theorem d_La_law_405 : decode b_La_law 405 = .ok (.aload_n 3, 1) := by decide +kernel
theorem d_La_law_406 : decode b_La_law 406 = .ok (.iconst 0, 1) := by decide +kernel
theorem d_La_law_407 : decode b_La_law 407 = .ok (.laload, 1) := by decide +kernel
theorem d_La_law_408 : decode b_La_law 408 = .ok (.iload 6, 2) := by decide +kernel
theorem d_La_law_410 : decode b_La_law 410 = .ok (.i2l, 1) := by decide +kernel
theorem d_La_law_411 : decode b_La_law 411 = .ok (.lcmp, 1) := by decide +kernel
theorem d_La_law_412 : decode b_La_law 412 = .ok (.ifCond .eq 5, 3) := by decide +kernel
theorem d_La_law_415 : decode b_La_law 415 = .ok (.iconst 0, 1) := by decide +kernel
theorem d_La_law_416 : decode b_La_law 416 = .ok (.ireturn, 1) := by decide +kernel
theorem d_La_law_417 : decode b_La_law 417 = .ok (.goto 437, 3) := by decide +kernel
theorem d_La_law_420 : decode b_La_law 420 = .ok (.aload_n 1, 1) := by decide +kernel
theorem d_La_law_421 : decode b_La_law 421 = .ok (.aload_n 0, 1) := by decide +kernel
theorem d_La_law_422 : decode b_La_law 422 = .ok (.iload 4, 2) := by decide +kernel
theorem d_La_law_424 : decode b_La_law 424 = .ok (.iconst 1, 1) := by decide +kernel
theorem d_La_law_425 : decode b_La_law 425 = .ok (.iadd, 1) := by decide +kernel
theorem d_La_law_426 : decode b_La_law 426 = .ok (.iaload, 1) := by decide +kernel
theorem d_La_law_427 : decode b_La_law 427 = .ok (.aload_n 0, 1) := by decide +kernel
theorem d_La_law_428 : decode b_La_law 428 = .ok (.iload 4, 2) := by decide +kernel
theorem d_La_law_430 : decode b_La_law 430 = .ok (.iconst 2, 1) := by decide +kernel
theorem d_La_law_431 : decode b_La_law 431 = .ok (.iadd, 1) := by decide +kernel
theorem d_La_law_432 : decode b_La_law 432 = .ok (.iaload, 1) := by decide +kernel
theorem d_La_law_433 : decode b_La_law 433 = .ok (.ifCond .eq 7, 3) := by decide +kernel
theorem d_La_law_436 : decode b_La_law 436 = .ok (.iconst 1, 1) := by decide +kernel
theorem d_La_law_437 : decode b_La_law 437 = .ok (.goto 4, 3) := by decide +kernel
theorem d_La_law_440 : decode b_La_law 440 = .ok (.iconst 0, 1) := by decide +kernel
theorem d_La_law_441 : decode b_La_law 441 = .ok (.aload_n 0, 1) := by decide +kernel
theorem d_La_law_442 : decode b_La_law 442 = .ok (.iload 4, 2) := by decide +kernel
theorem d_La_law_444 : decode b_La_law 444 = .ok (.iconst 3, 1) := by decide +kernel
theorem d_La_law_445 : decode b_La_law 445 = .ok (.iadd, 1) := by decide +kernel
theorem d_La_law_446 : decode b_La_law 446 = .ok (.iaload, 1) := by decide +kernel
theorem d_La_law_447 : decode b_La_law 447 = .ok (.i2l, 1) := by decide +kernel
theorem d_La_law_448 : decode b_La_law 448 = .ok (.bipush 32, 2) := by decide +kernel
theorem d_La_law_450 : decode b_La_law 450 = .ok (.lshl, 1) := by decide +kernel
theorem d_La_law_451 : decode b_La_law 451 = .ok (.aload_n 0, 1) := by decide +kernel
theorem d_La_law_452 : decode b_La_law 452 = .ok (.iload 4, 2) := by decide +kernel
theorem d_La_law_454 : decode b_La_law 454 = .ok (.iconst 4, 1) := by decide +kernel
theorem d_La_law_455 : decode b_La_law 455 = .ok (.iadd, 1) := by decide +kernel
theorem d_La_law_456 : decode b_La_law 456 = .ok (.iaload, 1) := by decide +kernel
theorem d_La_law_457 : decode b_La_law 457 = .ok (.i2l, 1) := by decide +kernel
theorem d_La_law_458 : decode b_La_law 458 = .ok (.ldc2_w 75, 3) := by decide +kernel
theorem d_La_law_461 : decode b_La_law 461 = .ok (.land, 1) := by decide +kernel
theorem d_La_law_462 : decode b_La_law 462 = .ok (.lor, 1) := by decide +kernel
theorem d_La_law_463 : decode b_La_law 463 = .ok (.aload_n 3, 1) := by decide +kernel
theorem d_La_law_464 : decode b_La_law 464 = .ok (.invokestatic 97, 3) := by decide +kernel
theorem d_La_law_467 : decode b_La_law 467 = .ok (.istore 5, 2) := by decide +kernel
theorem d_La_law_469 : decode b_La_law 469 = .ok (.aload_n 2, 1) := by decide +kernel
theorem d_La_law_470 : decode b_La_law 470 = .ok (.aload_n 0, 1) := by decide +kernel
theorem d_La_law_471 : decode b_La_law 471 = .ok (.iload 4, 2) := by decide +kernel
theorem d_La_law_473 : decode b_La_law 473 = .ok (.iconst 1, 1) := by decide +kernel
theorem d_La_law_474 : decode b_La_law 474 = .ok (.iadd, 1) := by decide +kernel
theorem d_La_law_475 : decode b_La_law 475 = .ok (.iaload, 1) := by decide +kernel
theorem d_La_law_476 : decode b_La_law 476 = .ok (.aload_n 0, 1) := by decide +kernel
theorem d_La_law_477 : decode b_La_law 477 = .ok (.iload 4, 2) := by decide +kernel
theorem d_La_law_479 : decode b_La_law 479 = .ok (.iconst 2, 1) := by decide +kernel
theorem d_La_law_480 : decode b_La_law 480 = .ok (.iadd, 1) := by decide +kernel
theorem d_La_law_481 : decode b_La_law 481 = .ok (.iaload, 1) := by decide +kernel
theorem d_La_law_482 : decode b_La_law 482 = .ok (.ifCond .eq 7, 3) := by decide +kernel
theorem d_La_law_485 : decode b_La_law 485 = .ok (.iconst 1, 1) := by decide +kernel
theorem d_La_law_486 : decode b_La_law 486 = .ok (.goto 4, 3) := by decide +kernel
theorem d_La_law_489 : decode b_La_law 489 = .ok (.iconst 0, 1) := by decide +kernel
theorem d_La_law_490 : decode b_La_law 490 = .ok (.aload_n 0, 1) := by decide +kernel
theorem d_La_law_491 : decode b_La_law 491 = .ok (.iload 4, 2) := by decide +kernel
theorem d_La_law_493 : decode b_La_law 493 = .ok (.iconst 3, 1) := by decide +kernel
theorem d_La_law_494 : decode b_La_law 494 = .ok (.iadd, 1) := by decide +kernel
theorem d_La_law_495 : decode b_La_law 495 = .ok (.iaload, 1) := by decide +kernel
theorem d_La_law_496 : decode b_La_law 496 = .ok (.i2l, 1) := by decide +kernel
theorem d_La_law_497 : decode b_La_law 497 = .ok (.bipush 32, 2) := by decide +kernel
theorem d_La_law_499 : decode b_La_law 499 = .ok (.lshl, 1) := by decide +kernel
theorem d_La_law_500 : decode b_La_law 500 = .ok (.aload_n 0, 1) := by decide +kernel
theorem d_La_law_501 : decode b_La_law 501 = .ok (.iload 4, 2) := by decide +kernel
theorem d_La_law_503 : decode b_La_law 503 = .ok (.iconst 4, 1) := by decide +kernel
theorem d_La_law_504 : decode b_La_law 504 = .ok (.iadd, 1) := by decide +kernel
theorem d_La_law_505 : decode b_La_law 505 = .ok (.iaload, 1) := by decide +kernel
theorem d_La_law_506 : decode b_La_law 506 = .ok (.i2l, 1) := by decide +kernel
theorem d_La_law_507 : decode b_La_law 507 = .ok (.ldc2_w 75, 3) := by decide +kernel
theorem d_La_law_510 : decode b_La_law 510 = .ok (.land, 1) := by decide +kernel
theorem d_La_law_511 : decode b_La_law 511 = .ok (.lor, 1) := by decide +kernel
theorem d_La_law_512 : decode b_La_law 512 = .ok (.invokevirtual 100, 3) := by decide +kernel
theorem d_La_law_515 : decode b_La_law 515 = .ok (.lstore 6, 2) := by decide +kernel
theorem d_La_law_517 : decode b_La_law 517 = .ok (.goto 337, 3) := by decide +kernel
theorem d_La_law_520 : decode b_La_law 520 = .ok (.aload_n 1, 1) := by decide +kernel
theorem d_La_law_521 : decode b_La_law 521 = .ok (.aload_n 0, 1) := by decide +kernel
theorem d_La_law_522 : decode b_La_law 522 = .ok (.iload 4, 2) := by decide +kernel
theorem d_La_law_524 : decode b_La_law 524 = .ok (.iconst 1, 1) := by decide +kernel
theorem d_La_law_525 : decode b_La_law 525 = .ok (.iadd, 1) := by decide +kernel
theorem d_La_law_526 : decode b_La_law 526 = .ok (.iaload, 1) := by decide +kernel
theorem d_La_law_527 : decode b_La_law 527 = .ok (.aload_n 0, 1) := by decide +kernel
theorem d_La_law_528 : decode b_La_law 528 = .ok (.iload 4, 2) := by decide +kernel
theorem d_La_law_530 : decode b_La_law 530 = .ok (.iconst 2, 1) := by decide +kernel
theorem d_La_law_531 : decode b_La_law 531 = .ok (.iadd, 1) := by decide +kernel
theorem d_La_law_532 : decode b_La_law 532 = .ok (.iaload, 1) := by decide +kernel
theorem d_La_law_533 : decode b_La_law 533 = .ok (.aload_n 3, 1) := by decide +kernel
theorem d_La_law_534 : decode b_La_law 534 = .ok (.invokestatic 101, 3) := by decide +kernel
theorem d_La_law_537 : decode b_La_law 537 = .ok (.istore 5, 2) := by decide +kernel
theorem d_La_law_539 : decode b_La_law 539 = .ok (.aload_n 2, 1) := by decide +kernel
theorem d_La_law_540 : decode b_La_law 540 = .ok (.aload_n 0, 1) := by decide +kernel
theorem d_La_law_541 : decode b_La_law 541 = .ok (.iload 4, 2) := by decide +kernel
theorem d_La_law_543 : decode b_La_law 543 = .ok (.iconst 1, 1) := by decide +kernel
theorem d_La_law_544 : decode b_La_law 544 = .ok (.iadd, 1) := by decide +kernel
theorem d_La_law_545 : decode b_La_law 545 = .ok (.iaload, 1) := by decide +kernel
theorem d_La_law_546 : decode b_La_law 546 = .ok (.aload_n 0, 1) := by decide +kernel
theorem d_La_law_547 : decode b_La_law 547 = .ok (.iload 4, 2) := by decide +kernel
theorem d_La_law_549 : decode b_La_law 549 = .ok (.iconst 2, 1) := by decide +kernel
theorem d_La_law_550 : decode b_La_law 550 = .ok (.iadd, 1) := by decide +kernel
theorem d_La_law_551 : decode b_La_law 551 = .ok (.iaload, 1) := by decide +kernel
theorem d_La_law_552 : decode b_La_law 552 = .ok (.invokevirtual 104, 3) := by decide +kernel
theorem d_La_law_555 : decode b_La_law 555 = .ok (.istore 6, 2) := by decide +kernel
theorem d_La_law_557 : decode b_La_law 557 = .ok (.goto 297, 3) := by decide +kernel
theorem d_La_law_560 : decode b_La_law 560 = .ok (.aload_n 1, 1) := by decide +kernel
theorem d_La_law_561 : decode b_La_law 561 = .ok (.aload_n 0, 1) := by decide +kernel
theorem d_La_law_562 : decode b_La_law 562 = .ok (.iload 4, 2) := by decide +kernel
theorem d_La_law_564 : decode b_La_law 564 = .ok (.iconst 1, 1) := by decide +kernel
theorem d_La_law_565 : decode b_La_law 565 = .ok (.iadd, 1) := by decide +kernel
theorem d_La_law_566 : decode b_La_law 566 = .ok (.iaload, 1) := by decide +kernel
theorem d_La_law_567 : decode b_La_law 567 = .ok (.aload_n 0, 1) := by decide +kernel
theorem d_La_law_568 : decode b_La_law 568 = .ok (.iload 4, 2) := by decide +kernel
theorem d_La_law_570 : decode b_La_law 570 = .ok (.iconst 2, 1) := by decide +kernel
theorem d_La_law_571 : decode b_La_law 571 = .ok (.iadd, 1) := by decide +kernel
theorem d_La_law_572 : decode b_La_law 572 = .ok (.iaload, 1) := by decide +kernel
theorem d_La_law_573 : decode b_La_law 573 = .ok (.invokestatic 105, 3) := by decide +kernel
theorem d_La_law_576 : decode b_La_law 576 = .ok (.istore 5, 2) := by decide +kernel
theorem d_La_law_578 : decode b_La_law 578 = .ok (.aload_n 2, 1) := by decide +kernel
theorem d_La_law_579 : decode b_La_law 579 = .ok (.aload_n 0, 1) := by decide +kernel
theorem d_La_law_580 : decode b_La_law 580 = .ok (.iload 4, 2) := by decide +kernel
theorem d_La_law_582 : decode b_La_law 582 = .ok (.iconst 1, 1) := by decide +kernel
theorem d_La_law_583 : decode b_La_law 583 = .ok (.iadd, 1) := by decide +kernel
theorem d_La_law_584 : decode b_La_law 584 = .ok (.iaload, 1) := by decide +kernel
theorem d_La_law_585 : decode b_La_law 585 = .ok (.aload_n 0, 1) := by decide +kernel
theorem d_La_law_586 : decode b_La_law 586 = .ok (.iload 4, 2) := by decide +kernel
theorem d_La_law_588 : decode b_La_law 588 = .ok (.iconst 2, 1) := by decide +kernel
theorem d_La_law_589 : decode b_La_law 589 = .ok (.iadd, 1) := by decide +kernel
theorem d_La_law_590 : decode b_La_law 590 = .ok (.iaload, 1) := by decide +kernel
theorem d_La_law_591 : decode b_La_law 591 = .ok (.invokevirtual 107, 3) := by decide +kernel
theorem d_La_law_594 : decode b_La_law 594 = .ok (.goto 260, 3) := by decide +kernel
theorem d_La_law_597 : decode b_La_law 597 = .ok (.aload_n 1, 1) := by decide +kernel
theorem d_La_law_598 : decode b_La_law 598 = .ok (.aload_n 0, 1) := by decide +kernel
theorem d_La_law_599 : decode b_La_law 599 = .ok (.iload 4, 2) := by decide +kernel
theorem d_La_law_601 : decode b_La_law 601 = .ok (.iconst 1, 1) := by decide +kernel
theorem d_La_law_602 : decode b_La_law 602 = .ok (.iadd, 1) := by decide +kernel
theorem d_La_law_603 : decode b_La_law 603 = .ok (.iaload, 1) := by decide +kernel
theorem d_La_law_604 : decode b_La_law 604 = .ok (.aload_n 3, 1) := by decide +kernel
theorem d_La_law_605 : decode b_La_law 605 = .ok (.invokestatic 108, 3) := by decide +kernel
theorem d_La_law_608 : decode b_La_law 608 = .ok (.istore 5, 2) := by decide +kernel
theorem d_La_law_610 : decode b_La_law 610 = .ok (.aload_n 2, 1) := by decide +kernel
theorem d_La_law_611 : decode b_La_law 611 = .ok (.aload_n 0, 1) := by decide +kernel
theorem d_La_law_612 : decode b_La_law 612 = .ok (.iload 4, 2) := by decide +kernel
theorem d_La_law_614 : decode b_La_law 614 = .ok (.iconst 1, 1) := by decide +kernel
theorem d_La_law_615 : decode b_La_law 615 = .ok (.iadd, 1) := by decide +kernel
theorem d_La_law_616 : decode b_La_law 616 = .ok (.iaload, 1) := by decide +kernel
theorem d_La_law_617 : decode b_La_law 617 = .ok (.invokevirtual 110, 3) := by decide +kernel
theorem d_La_law_620 : decode b_La_law 620 = .ok (.istore 6, 2) := by decide +kernel
theorem d_La_law_622 : decode b_La_law 622 = .ok (.goto 232, 3) := by decide +kernel
theorem d_La_law_625 : decode b_La_law 625 = .ok (.aload_n 1, 1) := by decide +kernel
theorem d_La_law_626 : decode b_La_law 626 = .ok (.aload_n 0, 1) := by decide +kernel
theorem d_La_law_627 : decode b_La_law 627 = .ok (.iload 4, 2) := by decide +kernel
theorem d_La_law_629 : decode b_La_law 629 = .ok (.iconst 1, 1) := by decide +kernel
theorem d_La_law_630 : decode b_La_law 630 = .ok (.iadd, 1) := by decide +kernel
theorem d_La_law_631 : decode b_La_law 631 = .ok (.iaload, 1) := by decide +kernel
theorem d_La_law_632 : decode b_La_law 632 = .ok (.aload_n 0, 1) := by decide +kernel
theorem d_La_law_633 : decode b_La_law 633 = .ok (.iload 4, 2) := by decide +kernel
theorem d_La_law_635 : decode b_La_law 635 = .ok (.iconst 2, 1) := by decide +kernel
theorem d_La_law_636 : decode b_La_law 636 = .ok (.iadd, 1) := by decide +kernel
theorem d_La_law_637 : decode b_La_law 637 = .ok (.iaload, 1) := by decide +kernel
theorem d_La_law_638 : decode b_La_law 638 = .ok (.ifCond .eq 7, 3) := by decide +kernel
theorem d_La_law_641 : decode b_La_law 641 = .ok (.iconst 1, 1) := by decide +kernel
theorem d_La_law_642 : decode b_La_law 642 = .ok (.goto 4, 3) := by decide +kernel
theorem d_La_law_645 : decode b_La_law 645 = .ok (.iconst 0, 1) := by decide +kernel
theorem d_La_law_646 : decode b_La_law 646 = .ok (.aload_n 0, 1) := by decide +kernel
theorem d_La_law_647 : decode b_La_law 647 = .ok (.iload 4, 2) := by decide +kernel
theorem d_La_law_649 : decode b_La_law 649 = .ok (.iconst 3, 1) := by decide +kernel
theorem d_La_law_650 : decode b_La_law 650 = .ok (.iadd, 1) := by decide +kernel
theorem d_La_law_651 : decode b_La_law 651 = .ok (.iaload, 1) := by decide +kernel
theorem d_La_law_652 : decode b_La_law 652 = .ok (.aload_n 0, 1) := by decide +kernel
theorem d_La_law_653 : decode b_La_law 653 = .ok (.iload 4, 2) := by decide +kernel
theorem d_La_law_655 : decode b_La_law 655 = .ok (.iconst 4, 1) := by decide +kernel
theorem d_La_law_656 : decode b_La_law 656 = .ok (.iadd, 1) := by decide +kernel
theorem d_La_law_657 : decode b_La_law 657 = .ok (.iaload, 1) := by decide +kernel
theorem d_La_law_658 : decode b_La_law 658 = .ok (.aload_n 3, 1) := by decide +kernel
theorem d_La_law_659 : decode b_La_law 659 = .ok (.invokestatic 111, 3) := by decide +kernel
theorem d_La_law_662 : decode b_La_law 662 = .ok (.istore 5, 2) := by decide +kernel
theorem d_La_law_664 : decode b_La_law 664 = .ok (.aload_n 2, 1) := by decide +kernel
theorem d_La_law_665 : decode b_La_law 665 = .ok (.aload_n 0, 1) := by decide +kernel
theorem d_La_law_666 : decode b_La_law 666 = .ok (.iload 4, 2) := by decide +kernel
theorem d_La_law_668 : decode b_La_law 668 = .ok (.iconst 1, 1) := by decide +kernel
theorem d_La_law_669 : decode b_La_law 669 = .ok (.iadd, 1) := by decide +kernel
theorem d_La_law_670 : decode b_La_law 670 = .ok (.iaload, 1) := by decide +kernel
theorem d_La_law_671 : decode b_La_law 671 = .ok (.aload_n 0, 1) := by decide +kernel
theorem d_La_law_672 : decode b_La_law 672 = .ok (.iload 4, 2) := by decide +kernel
theorem d_La_law_674 : decode b_La_law 674 = .ok (.iconst 2, 1) := by decide +kernel
theorem d_La_law_675 : decode b_La_law 675 = .ok (.iadd, 1) := by decide +kernel
theorem d_La_law_676 : decode b_La_law 676 = .ok (.iaload, 1) := by decide +kernel
theorem d_La_law_677 : decode b_La_law 677 = .ok (.ifCond .eq 7, 3) := by decide +kernel
theorem d_La_law_680 : decode b_La_law 680 = .ok (.iconst 1, 1) := by decide +kernel
theorem d_La_law_681 : decode b_La_law 681 = .ok (.goto 4, 3) := by decide +kernel
theorem d_La_law_684 : decode b_La_law 684 = .ok (.iconst 0, 1) := by decide +kernel
theorem d_La_law_685 : decode b_La_law 685 = .ok (.aload_n 0, 1) := by decide +kernel
theorem d_La_law_686 : decode b_La_law 686 = .ok (.iload 4, 2) := by decide +kernel
theorem d_La_law_688 : decode b_La_law 688 = .ok (.iconst 3, 1) := by decide +kernel
theorem d_La_law_689 : decode b_La_law 689 = .ok (.iadd, 1) := by decide +kernel
theorem d_La_law_690 : decode b_La_law 690 = .ok (.iaload, 1) := by decide +kernel
theorem d_La_law_691 : decode b_La_law 691 = .ok (.aload_n 0, 1) := by decide +kernel
theorem d_La_law_692 : decode b_La_law 692 = .ok (.iload 4, 2) := by decide +kernel
theorem d_La_law_694 : decode b_La_law 694 = .ok (.iconst 4, 1) := by decide +kernel
theorem d_La_law_695 : decode b_La_law 695 = .ok (.iadd, 1) := by decide +kernel
theorem d_La_law_696 : decode b_La_law 696 = .ok (.iaload, 1) := by decide +kernel
theorem d_La_law_697 : decode b_La_law 697 = .ok (.invokevirtual 114, 3) := by decide +kernel
theorem d_La_law_700 : decode b_La_law 700 = .ok (.istore 6, 2) := by decide +kernel
theorem d_La_law_702 : decode b_La_law 702 = .ok (.goto 152, 3) := by decide +kernel
theorem d_La_law_705 : decode b_La_law 705 = .ok (.aload_n 1, 1) := by decide +kernel
theorem d_La_law_706 : decode b_La_law 706 = .ok (.aload_n 0, 1) := by decide +kernel
theorem d_La_law_707 : decode b_La_law 707 = .ok (.iload 4, 2) := by decide +kernel
theorem d_La_law_709 : decode b_La_law 709 = .ok (.iconst 1, 1) := by decide +kernel
theorem d_La_law_710 : decode b_La_law 710 = .ok (.iadd, 1) := by decide +kernel
theorem d_La_law_711 : decode b_La_law 711 = .ok (.iaload, 1) := by decide +kernel
theorem d_La_law_712 : decode b_La_law 712 = .ok (.aload_n 0, 1) := by decide +kernel
theorem d_La_law_713 : decode b_La_law 713 = .ok (.iload 4, 2) := by decide +kernel
theorem d_La_law_715 : decode b_La_law 715 = .ok (.iconst 2, 1) := by decide +kernel
theorem d_La_law_716 : decode b_La_law 716 = .ok (.iadd, 1) := by decide +kernel
theorem d_La_law_717 : decode b_La_law 717 = .ok (.iaload, 1) := by decide +kernel
theorem d_La_law_718 : decode b_La_law 718 = .ok (.i2l, 1) := by decide +kernel
theorem d_La_law_719 : decode b_La_law 719 = .ok (.bipush 32, 2) := by decide +kernel
theorem d_La_law_721 : decode b_La_law 721 = .ok (.lshl, 1) := by decide +kernel
theorem d_La_law_722 : decode b_La_law 722 = .ok (.aload_n 0, 1) := by decide +kernel
theorem d_La_law_723 : decode b_La_law 723 = .ok (.iload 4, 2) := by decide +kernel
theorem d_La_law_725 : decode b_La_law 725 = .ok (.iconst 3, 1) := by decide +kernel
theorem d_La_law_726 : decode b_La_law 726 = .ok (.iadd, 1) := by decide +kernel
theorem d_La_law_727 : decode b_La_law 727 = .ok (.iaload, 1) := by decide +kernel
theorem d_La_law_728 : decode b_La_law 728 = .ok (.i2l, 1) := by decide +kernel
theorem d_La_law_729 : decode b_La_law 729 = .ok (.ldc2_w 75, 3) := by decide +kernel
theorem d_La_law_732 : decode b_La_law 732 = .ok (.land, 1) := by decide +kernel
theorem d_La_law_733 : decode b_La_law 733 = .ok (.lor, 1) := by decide +kernel
theorem d_La_law_734 : decode b_La_law 734 = .ok (.invokestatic 115, 3) := by decide +kernel
theorem d_La_law_737 : decode b_La_law 737 = .ok (.istore 5, 2) := by decide +kernel
theorem d_La_law_739 : decode b_La_law 739 = .ok (.aload_n 2, 1) := by decide +kernel
theorem d_La_law_740 : decode b_La_law 740 = .ok (.aload_n 0, 1) := by decide +kernel
theorem d_La_law_741 : decode b_La_law 741 = .ok (.iload 4, 2) := by decide +kernel
theorem d_La_law_743 : decode b_La_law 743 = .ok (.iconst 1, 1) := by decide +kernel
theorem d_La_law_744 : decode b_La_law 744 = .ok (.iadd, 1) := by decide +kernel
theorem d_La_law_745 : decode b_La_law 745 = .ok (.iaload, 1) := by decide +kernel
theorem d_La_law_746 : decode b_La_law 746 = .ok (.aload_n 0, 1) := by decide +kernel
theorem d_La_law_747 : decode b_La_law 747 = .ok (.iload 4, 2) := by decide +kernel
theorem d_La_law_749 : decode b_La_law 749 = .ok (.iconst 2, 1) := by decide +kernel
theorem d_La_law_750 : decode b_La_law 750 = .ok (.iadd, 1) := by decide +kernel
theorem d_La_law_751 : decode b_La_law 751 = .ok (.iaload, 1) := by decide +kernel
theorem d_La_law_752 : decode b_La_law 752 = .ok (.i2l, 1) := by decide +kernel
theorem d_La_law_753 : decode b_La_law 753 = .ok (.bipush 32, 2) := by decide +kernel
theorem d_La_law_755 : decode b_La_law 755 = .ok (.lshl, 1) := by decide +kernel
theorem d_La_law_756 : decode b_La_law 756 = .ok (.aload_n 0, 1) := by decide +kernel

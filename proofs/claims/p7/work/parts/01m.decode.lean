theorem d_La_law_187 : decode b_La_law 187 = .ok (.iconst 5, 1) := by decide +kernel
theorem d_La_law_188 : decode b_La_law 188 = .ok (.iadd, 1) := by decide +kernel
theorem d_La_law_189 : decode b_La_law 189 = .ok (.iaload, 1) := by decide +kernel
theorem d_La_law_190 : decode b_La_law 190 = .ok (.i2l, 1) := by decide +kernel
theorem d_La_law_191 : decode b_La_law 191 = .ok (.ldc2_w 75, 3) := by decide +kernel
theorem d_La_law_194 : decode b_La_law 194 = .ok (.land, 1) := by decide +kernel
theorem d_La_law_195 : decode b_La_law 195 = .ok (.lor, 1) := by decide +kernel
theorem d_La_law_196 : decode b_La_law 196 = .ok (.invokestatic 77, 3) := by decide +kernel
theorem d_La_law_199 : decode b_La_law 199 = .ok (.istore 5, 2) := by decide +kernel
theorem d_La_law_201 : decode b_La_law 201 = .ok (.aload_n 2, 1) := by decide +kernel
theorem d_La_law_202 : decode b_La_law 202 = .ok (.aload_n 0, 1) := by decide +kernel
theorem d_La_law_203 : decode b_La_law 203 = .ok (.iload 4, 2) := by decide +kernel
theorem d_La_law_205 : decode b_La_law 205 = .ok (.iconst 1, 1) := by decide +kernel
theorem d_La_law_206 : decode b_La_law 206 = .ok (.iadd, 1) := by decide +kernel
theorem d_La_law_207 : decode b_La_law 207 = .ok (.iaload, 1) := by decide +kernel
theorem d_La_law_208 : decode b_La_law 208 = .ok (.aload_n 0, 1) := by decide +kernel
theorem d_La_law_209 : decode b_La_law 209 = .ok (.iload 4, 2) := by decide +kernel
theorem d_La_law_211 : decode b_La_law 211 = .ok (.iconst 2, 1) := by decide +kernel
theorem d_La_law_212 : decode b_La_law 212 = .ok (.iadd, 1) := by decide +kernel
theorem d_La_law_213 : decode b_La_law 213 = .ok (.iaload, 1) := by decide +kernel
theorem d_La_law_214 : decode b_La_law 214 = .ok (.i2l, 1) := by decide +kernel
theorem d_La_law_215 : decode b_La_law 215 = .ok (.bipush 32, 2) := by decide +kernel
theorem d_La_law_217 : decode b_La_law 217 = .ok (.lshl, 1) := by decide +kernel
theorem d_La_law_218 : decode b_La_law 218 = .ok (.aload_n 0, 1) := by decide +kernel
theorem d_La_law_219 : decode b_La_law 219 = .ok (.iload 4, 2) := by decide +kernel
theorem d_La_law_221 : decode b_La_law 221 = .ok (.iconst 3, 1) := by decide +kernel
theorem d_La_law_222 : decode b_La_law 222 = .ok (.iadd, 1) := by decide +kernel
theorem d_La_law_223 : decode b_La_law 223 = .ok (.iaload, 1) := by decide +kernel
theorem d_La_law_224 : decode b_La_law 224 = .ok (.i2l, 1) := by decide +kernel
theorem d_La_law_225 : decode b_La_law 225 = .ok (.ldc2_w 75, 3) := by decide +kernel
theorem d_La_law_228 : decode b_La_law 228 = .ok (.land, 1) := by decide +kernel
theorem d_La_law_229 : decode b_La_law 229 = .ok (.lor, 1) := by decide +kernel
theorem d_La_law_230 : decode b_La_law 230 = .ok (.aload_n 0, 1) := by decide +kernel
theorem d_La_law_231 : decode b_La_law 231 = .ok (.iload 4, 2) := by decide +kernel
theorem d_La_law_233 : decode b_La_law 233 = .ok (.iconst 4, 1) := by decide +kernel
theorem d_La_law_234 : decode b_La_law 234 = .ok (.iadd, 1) := by decide +kernel
theorem d_La_law_235 : decode b_La_law 235 = .ok (.iaload, 1) := by decide +kernel
theorem d_La_law_236 : decode b_La_law 236 = .ok (.i2l, 1) := by decide +kernel
theorem d_La_law_237 : decode b_La_law 237 = .ok (.bipush 32, 2) := by decide +kernel
theorem d_La_law_239 : decode b_La_law 239 = .ok (.lshl, 1) := by decide +kernel
theorem d_La_law_240 : decode b_La_law 240 = .ok (.aload_n 0, 1) := by decide +kernel
theorem d_La_law_241 : decode b_La_law 241 = .ok (.iload 4, 2) := by decide +kernel
theorem d_La_law_243 : decode b_La_law 243 = .ok (.iconst 5, 1) := by decide +kernel
theorem d_La_law_244 : decode b_La_law 244 = .ok (.iadd, 1) := by decide +kernel
theorem d_La_law_245 : decode b_La_law 245 = .ok (.iaload, 1) := by decide +kernel
theorem d_La_law_246 : decode b_La_law 246 = .ok (.i2l, 1) := by decide +kernel
theorem d_La_law_247 : decode b_La_law 247 = .ok (.ldc2_w 75, 3) := by decide +kernel
theorem d_La_law_250 : decode b_La_law 250 = .ok (.land, 1) := by decide +kernel
theorem d_La_law_251 : decode b_La_law 251 = .ok (.lor, 1) := by decide +kernel
theorem d_La_law_252 : decode b_La_law 252 = .ok (.invokevirtual 80, 3) := by decide +kernel
theorem d_La_law_255 : decode b_La_law 255 = .ok (.goto 598, 3) := by decide +kernel
theorem d_La_law_258 : decode b_La_law 258 = .ok (.aload_n 1, 1) := by decide +kernel
theorem d_La_law_259 : decode b_La_law 259 = .ok (.aload_n 0, 1) := by decide +kernel
theorem d_La_law_260 : decode b_La_law 260 = .ok (.iload 4, 2) := by decide +kernel
theorem d_La_law_262 : decode b_La_law 262 = .ok (.iconst 1, 1) := by decide +kernel
theorem d_La_law_263 : decode b_La_law 263 = .ok (.iadd, 1) := by decide +kernel
theorem d_La_law_264 : decode b_La_law 264 = .ok (.iaload, 1) := by decide +kernel
theorem d_La_law_265 : decode b_La_law 265 = .ok (.aload_n 0, 1) := by decide +kernel
theorem d_La_law_266 : decode b_La_law 266 = .ok (.iload 4, 2) := by decide +kernel
theorem d_La_law_268 : decode b_La_law 268 = .ok (.iconst 2, 1) := by decide +kernel
theorem d_La_law_269 : decode b_La_law 269 = .ok (.iadd, 1) := by decide +kernel
theorem d_La_law_270 : decode b_La_law 270 = .ok (.iaload, 1) := by decide +kernel
theorem d_La_law_271 : decode b_La_law 271 = .ok (.aload_n 0, 1) := by decide +kernel
theorem d_La_law_272 : decode b_La_law 272 = .ok (.iload 4, 2) := by decide +kernel
theorem d_La_law_274 : decode b_La_law 274 = .ok (.iconst 3, 1) := by decide +kernel
theorem d_La_law_275 : decode b_La_law 275 = .ok (.iadd, 1) := by decide +kernel
theorem d_La_law_276 : decode b_La_law 276 = .ok (.iaload, 1) := by decide +kernel
theorem d_La_law_277 : decode b_La_law 277 = .ok (.i2l, 1) := by decide +kernel
theorem d_La_law_278 : decode b_La_law 278 = .ok (.bipush 32, 2) := by decide +kernel
theorem d_La_law_280 : decode b_La_law 280 = .ok (.lshl, 1) := by decide +kernel
theorem d_La_law_281 : decode b_La_law 281 = .ok (.aload_n 0, 1) := by decide +kernel
theorem d_La_law_282 : decode b_La_law 282 = .ok (.iload 4, 2) := by decide +kernel
theorem d_La_law_284 : decode b_La_law 284 = .ok (.iconst 4, 1) := by decide +kernel
theorem d_La_law_285 : decode b_La_law 285 = .ok (.iadd, 1) := by decide +kernel
theorem d_La_law_286 : decode b_La_law 286 = .ok (.iaload, 1) := by decide +kernel
theorem d_La_law_287 : decode b_La_law 287 = .ok (.i2l, 1) := by decide +kernel
theorem d_La_law_288 : decode b_La_law 288 = .ok (.ldc2_w 75, 3) := by decide +kernel
theorem d_La_law_291 : decode b_La_law 291 = .ok (.land, 1) := by decide +kernel
theorem d_La_law_292 : decode b_La_law 292 = .ok (.lor, 1) := by decide +kernel
theorem d_La_law_293 : decode b_La_law 293 = .ok (.invokestatic 81, 3) := by decide +kernel
theorem d_La_law_296 : decode b_La_law 296 = .ok (.istore 5, 2) := by decide +kernel
theorem d_La_law_298 : decode b_La_law 298 = .ok (.aload_n 2, 1) := by decide +kernel
theorem d_La_law_299 : decode b_La_law 299 = .ok (.aload_n 0, 1) := by decide +kernel
theorem d_La_law_300 : decode b_La_law 300 = .ok (.iload 4, 2) := by decide +kernel
theorem d_La_law_302 : decode b_La_law 302 = .ok (.iconst 1, 1) := by decide +kernel
theorem d_La_law_303 : decode b_La_law 303 = .ok (.iadd, 1) := by decide +kernel
theorem d_La_law_304 : decode b_La_law 304 = .ok (.iaload, 1) := by decide +kernel
theorem d_La_law_305 : decode b_La_law 305 = .ok (.aload_n 0, 1) := by decide +kernel
theorem d_La_law_306 : decode b_La_law 306 = .ok (.iload 4, 2) := by decide +kernel
theorem d_La_law_308 : decode b_La_law 308 = .ok (.iconst 2, 1) := by decide +kernel
theorem d_La_law_309 : decode b_La_law 309 = .ok (.iadd, 1) := by decide +kernel
theorem d_La_law_310 : decode b_La_law 310 = .ok (.iaload, 1) := by decide +kernel
theorem d_La_law_311 : decode b_La_law 311 = .ok (.aload_n 0, 1) := by decide +kernel
theorem d_La_law_312 : decode b_La_law 312 = .ok (.iload 4, 2) := by decide +kernel
theorem d_La_law_314 : decode b_La_law 314 = .ok (.iconst 3, 1) := by decide +kernel
theorem d_La_law_315 : decode b_La_law 315 = .ok (.iadd, 1) := by decide +kernel
theorem d_La_law_316 : decode b_La_law 316 = .ok (.iaload, 1) := by decide +kernel
theorem d_La_law_317 : decode b_La_law 317 = .ok (.i2l, 1) := by decide +kernel
theorem d_La_law_318 : decode b_La_law 318 = .ok (.bipush 32, 2) := by decide +kernel
theorem d_La_law_320 : decode b_La_law 320 = .ok (.lshl, 1) := by decide +kernel
theorem d_La_law_321 : decode b_La_law 321 = .ok (.aload_n 0, 1) := by decide +kernel
theorem d_La_law_322 : decode b_La_law 322 = .ok (.iload 4, 2) := by decide +kernel
theorem d_La_law_324 : decode b_La_law 324 = .ok (.iconst 4, 1) := by decide +kernel
theorem d_La_law_325 : decode b_La_law 325 = .ok (.iadd, 1) := by decide +kernel
theorem d_La_law_326 : decode b_La_law 326 = .ok (.iaload, 1) := by decide +kernel
theorem d_La_law_327 : decode b_La_law 327 = .ok (.i2l, 1) := by decide +kernel
theorem d_La_law_328 : decode b_La_law 328 = .ok (.ldc2_w 75, 3) := by decide +kernel
theorem d_La_law_331 : decode b_La_law 331 = .ok (.land, 1) := by decide +kernel
theorem d_La_law_332 : decode b_La_law 332 = .ok (.lor, 1) := by decide +kernel
theorem d_La_law_333 : decode b_La_law 333 = .ok (.invokevirtual 84, 3) := by decide +kernel
theorem d_La_law_336 : decode b_La_law 336 = .ok (.goto 517, 3) := by decide +kernel
theorem d_La_law_339 : decode b_La_law 339 = .ok (.aload_n 1, 1) := by decide +kernel
theorem d_La_law_340 : decode b_La_law 340 = .ok (.aload_n 0, 1) := by decide +kernel
theorem d_La_law_341 : decode b_La_law 341 = .ok (.iload 4, 2) := by decide +kernel
theorem d_La_law_343 : decode b_La_law 343 = .ok (.iconst 1, 1) := by decide +kernel
theorem d_La_law_344 : decode b_La_law 344 = .ok (.iadd, 1) := by decide +kernel
theorem d_La_law_345 : decode b_La_law 345 = .ok (.iaload, 1) := by decide +kernel
theorem d_La_law_346 : decode b_La_law 346 = .ok (.invokestatic 85, 3) := by decide +kernel
theorem d_La_law_349 : decode b_La_law 349 = .ok (.istore 5, 2) := by decide +kernel
theorem d_La_law_351 : decode b_La_law 351 = .ok (.aload_n 2, 1) := by decide +kernel
theorem d_La_law_352 : decode b_La_law 352 = .ok (.aload_n 0, 1) := by decide +kernel
theorem d_La_law_353 : decode b_La_law 353 = .ok (.iload 4, 2) := by decide +kernel
theorem d_La_law_355 : decode b_La_law 355 = .ok (.iconst 1, 1) := by decide +kernel
theorem d_La_law_356 : decode b_La_law 356 = .ok (.iadd, 1) := by decide +kernel
theorem d_La_law_357 : decode b_La_law 357 = .ok (.iaload, 1) := by decide +kernel
theorem d_La_law_358 : decode b_La_law 358 = .ok (.invokevirtual 88, 3) := by decide +kernel
theorem d_La_law_361 : decode b_La_law 361 = .ok (.goto 492, 3) := by decide +kernel
theorem d_La_law_364 : decode b_La_law 364 = .ok (.aload_n 1, 1) := by decide +kernel
theorem d_La_law_365 : decode b_La_law 365 = .ok (.aload_n 0, 1) := by decide +kernel
theorem d_La_law_366 : decode b_La_law 366 = .ok (.iload 4, 2) := by decide +kernel
theorem d_La_law_368 : decode b_La_law 368 = .ok (.iconst 1, 1) := by decide +kernel
theorem d_La_law_369 : decode b_La_law 369 = .ok (.iadd, 1) := by decide +kernel
theorem d_La_law_370 : decode b_La_law 370 = .ok (.iaload, 1) := by decide +kernel
theorem d_La_law_371 : decode b_La_law 371 = .ok (.aload_n 3, 1) := by decide +kernel
theorem d_La_law_372 : decode b_La_law 372 = .ok (.invokestatic 89, 3) := by decide +kernel
theorem d_La_law_375 : decode b_La_law 375 = .ok (.istore 5, 2) := by decide +kernel
theorem d_La_law_377 : decode b_La_law 377 = .ok (.aload_n 2, 1) := by decide +kernel
theorem d_La_law_378 : decode b_La_law 378 = .ok (.aload_n 0, 1) := by decide +kernel
theorem d_La_law_379 : decode b_La_law 379 = .ok (.iload 4, 2) := by decide +kernel
theorem d_La_law_381 : decode b_La_law 381 = .ok (.iconst 1, 1) := by decide +kernel
theorem d_La_law_382 : decode b_La_law 382 = .ok (.iadd, 1) := by decide +kernel
theorem d_La_law_383 : decode b_La_law 383 = .ok (.iaload, 1) := by decide +kernel
theorem d_La_law_384 : decode b_La_law 384 = .ok (.invokevirtual 92, 3) := by decide +kernel
theorem d_La_law_387 : decode b_La_law 387 = .ok (.istore 6, 2) := by decide +kernel
theorem d_La_law_389 : decode b_La_law 389 = .ok (.goto 464, 3) := by decide +kernel
theorem d_La_law_392 : decode b_La_law 392 = .ok (.aload_n 1, 1) := by decide +kernel
theorem d_La_law_393 : decode b_La_law 393 = .ok (.aload_n 0, 1) := by decide +kernel
theorem d_La_law_394 : decode b_La_law 394 = .ok (.iload 4, 2) := by decide +kernel
theorem d_La_law_396 : decode b_La_law 396 = .ok (.iconst 1, 1) := by decide +kernel
theorem d_La_law_397 : decode b_La_law 397 = .ok (.iadd, 1) := by decide +kernel
theorem d_La_law_398 : decode b_La_law 398 = .ok (.iaload, 1) := by decide +kernel
theorem d_La_law_399 : decode b_La_law 399 = .ok (.aload_n 0, 1) := by decide +kernel
theorem d_La_law_400 : decode b_La_law 400 = .ok (.iload 4, 2) := by decide +kernel
theorem d_La_law_402 : decode b_La_law 402 = .ok (.iconst 2, 1) := by decide +kernel
theorem d_La_law_403 : decode b_La_law 403 = .ok (.iadd, 1) := by decide +kernel
theorem d_La_law_404 : decode b_La_law 404 = .ok (.iaload, 1) := by decide +kernel
theorem d_La_law_405 : decode b_La_law 405 = .ok (.ifCond .eq 7, 3) := by decide +kernel
theorem d_La_law_408 : decode b_La_law 408 = .ok (.iconst 1, 1) := by decide +kernel
theorem d_La_law_409 : decode b_La_law 409 = .ok (.goto 4, 3) := by decide +kernel
theorem d_La_law_412 : decode b_La_law 412 = .ok (.iconst 0, 1) := by decide +kernel
theorem d_La_law_413 : decode b_La_law 413 = .ok (.aload_n 0, 1) := by decide +kernel
theorem d_La_law_414 : decode b_La_law 414 = .ok (.iload 4, 2) := by decide +kernel
theorem d_La_law_416 : decode b_La_law 416 = .ok (.iconst 3, 1) := by decide +kernel
theorem d_La_law_417 : decode b_La_law 417 = .ok (.iadd, 1) := by decide +kernel
theorem d_La_law_418 : decode b_La_law 418 = .ok (.iaload, 1) := by decide +kernel
theorem d_La_law_419 : decode b_La_law 419 = .ok (.i2l, 1) := by decide +kernel
theorem d_La_law_420 : decode b_La_law 420 = .ok (.bipush 32, 2) := by decide +kernel
theorem d_La_law_422 : decode b_La_law 422 = .ok (.lshl, 1) := by decide +kernel
theorem d_La_law_423 : decode b_La_law 423 = .ok (.aload_n 0, 1) := by decide +kernel
theorem d_La_law_424 : decode b_La_law 424 = .ok (.iload 4, 2) := by decide +kernel
theorem d_La_law_426 : decode b_La_law 426 = .ok (.iconst 4, 1) := by decide +kernel
theorem d_La_law_427 : decode b_La_law 427 = .ok (.iadd, 1) := by decide +kernel
theorem d_La_law_428 : decode b_La_law 428 = .ok (.iaload, 1) := by decide +kernel
theorem d_La_law_429 : decode b_La_law 429 = .ok (.i2l, 1) := by decide +kernel
theorem d_La_law_430 : decode b_La_law 430 = .ok (.ldc2_w 75, 3) := by decide +kernel
theorem d_La_law_433 : decode b_La_law 433 = .ok (.land, 1) := by decide +kernel
theorem d_La_law_434 : decode b_La_law 434 = .ok (.lor, 1) := by decide +kernel
theorem d_La_law_435 : decode b_La_law 435 = .ok (.aload_n 3, 1) := by decide +kernel
theorem d_La_law_436 : decode b_La_law 436 = .ok (.invokestatic 93, 3) := by decide +kernel
theorem d_La_law_439 : decode b_La_law 439 = .ok (.istore 5, 2) := by decide +kernel
theorem d_La_law_441 : decode b_La_law 441 = .ok (.aload_n 2, 1) := by decide +kernel
theorem d_La_law_442 : decode b_La_law 442 = .ok (.aload_n 0, 1) := by decide +kernel
theorem d_La_law_443 : decode b_La_law 443 = .ok (.iload 4, 2) := by decide +kernel
theorem d_La_law_445 : decode b_La_law 445 = .ok (.iconst 1, 1) := by decide +kernel
theorem d_La_law_446 : decode b_La_law 446 = .ok (.iadd, 1) := by decide +kernel
theorem d_La_law_447 : decode b_La_law 447 = .ok (.iaload, 1) := by decide +kernel
theorem d_La_law_448 : decode b_La_law 448 = .ok (.aload_n 0, 1) := by decide +kernel
theorem d_La_law_449 : decode b_La_law 449 = .ok (.iload 4, 2) := by decide +kernel
theorem d_La_law_451 : decode b_La_law 451 = .ok (.iconst 2, 1) := by decide +kernel
theorem d_La_law_452 : decode b_La_law 452 = .ok (.iadd, 1) := by decide +kernel
theorem d_La_law_453 : decode b_La_law 453 = .ok (.iaload, 1) := by decide +kernel
theorem d_La_law_454 : decode b_La_law 454 = .ok (.ifCond .eq 7, 3) := by decide +kernel
theorem d_La_law_457 : decode b_La_law 457 = .ok (.iconst 1, 1) := by decide +kernel
theorem d_La_law_458 : decode b_La_law 458 = .ok (.goto 4, 3) := by decide +kernel
theorem d_La_law_461 : decode b_La_law 461 = .ok (.iconst 0, 1) := by decide +kernel
theorem d_La_law_462 : decode b_La_law 462 = .ok (.aload_n 0, 1) := by decide +kernel
theorem d_La_law_463 : decode b_La_law 463 = .ok (.iload 4, 2) := by decide +kernel
theorem d_La_law_465 : decode b_La_law 465 = .ok (.iconst 3, 1) := by decide +kernel
theorem d_La_law_466 : decode b_La_law 466 = .ok (.iadd, 1) := by decide +kernel
theorem d_La_law_467 : decode b_La_law 467 = .ok (.iaload, 1) := by decide +kernel
theorem d_La_law_468 : decode b_La_law 468 = .ok (.i2l, 1) := by decide +kernel
theorem d_La_law_469 : decode b_La_law 469 = .ok (.bipush 32, 2) := by decide +kernel
theorem d_La_law_471 : decode b_La_law 471 = .ok (.lshl, 1) := by decide +kernel
theorem d_La_law_472 : decode b_La_law 472 = .ok (.aload_n 0, 1) := by decide +kernel
theorem d_La_law_473 : decode b_La_law 473 = .ok (.iload 4, 2) := by decide +kernel
theorem d_La_law_475 : decode b_La_law 475 = .ok (.iconst 4, 1) := by decide +kernel
theorem d_La_law_476 : decode b_La_law 476 = .ok (.iadd, 1) := by decide +kernel
theorem d_La_law_477 : decode b_La_law 477 = .ok (.iaload, 1) := by decide +kernel
theorem d_La_law_478 : decode b_La_law 478 = .ok (.i2l, 1) := by decide +kernel
theorem d_La_law_479 : decode b_La_law 479 = .ok (.ldc2_w 75, 3) := by decide +kernel
theorem d_La_law_482 : decode b_La_law 482 = .ok (.land, 1) := by decide +kernel
theorem d_La_law_483 : decode b_La_law 483 = .ok (.lor, 1) := by decide +kernel
theorem d_La_law_484 : decode b_La_law 484 = .ok (.invokevirtual 96, 3) := by decide +kernel
theorem d_La_law_487 : decode b_La_law 487 = .ok (.lstore 6, 2) := by decide +kernel
theorem d_La_law_489 : decode b_La_law 489 = .ok (.aload_n 2, 1) := by decide +kernel
theorem d_La_law_490 : decode b_La_law 490 = .ok (.invokevirtual 97, 3) := by decide +kernel
theorem d_La_law_493 : decode b_La_law 493 = .ok (.iload 5, 2) := by decide +kernel
theorem d_La_law_495 : decode b_La_law 495 = .ok (.if_icmp .eq 5, 3) := by decide +kernel
theorem d_La_law_498 : decode b_La_law 498 = .ok (.iconst 0, 1) := by decide +kernel
theorem d_La_law_499 : decode b_La_law 499 = .ok (.ireturn, 1) := by decide +kernel
theorem d_La_law_500 : decode b_La_law 500 = .ok (.iload 5, 2) := by decide +kernel
theorem d_La_law_502 : decode b_La_law 502 = .ok (.ifCond .ne 14, 3) := by decide +kernel
theorem d_La_law_505 : decode b_La_law 505 = .ok (.aload_n 3, 1) := by decide +kernel
theorem d_La_law_506 : decode b_La_law 506 = .ok (.iconst 0, 1) := by decide +kernel
theorem d_La_law_507 : decode b_La_law 507 = .ok (.laload, 1) := by decide +kernel
theorem d_La_law_508 : decode b_La_law 508 = .ok (.lload 6, 2) := by decide +kernel
theorem d_La_law_510 : decode b_La_law 510 = .ok (.lcmp, 1) := by decide +kernel
theorem d_La_law_511 : decode b_La_law 511 = .ok (.ifCond .eq 5, 3) := by decide +kernel
theorem d_La_law_514 : decode b_La_law 514 = .ok (.iconst 0, 1) := by decide +kernel
theorem d_La_law_515 : decode b_La_law 515 = .ok (.ireturn, 1) := by decide +kernel
theorem d_La_law_516 : decode b_La_law 516 = .ok (.goto 337, 3) := by decide +kernel
theorem d_La_law_519 : decode b_La_law 519 = .ok (.aload_n 1, 1) := by decide +kernel
theorem d_La_law_520 : decode b_La_law 520 = .ok (.aload_n 0, 1) := by decide +kernel
theorem d_La_law_521 : decode b_La_law 521 = .ok (.iload 4, 2) := by decide +kernel
theorem d_La_law_523 : decode b_La_law 523 = .ok (.iconst 1, 1) := by decide +kernel
theorem d_La_law_524 : decode b_La_law 524 = .ok (.iadd, 1) := by decide +kernel
theorem d_La_law_525 : decode b_La_law 525 = .ok (.iaload, 1) := by decide +kernel
theorem d_La_law_526 : decode b_La_law 526 = .ok (.aload_n 0, 1) := by decide +kernel
theorem d_La_law_527 : decode b_La_law 527 = .ok (.iload 4, 2) := by decide +kernel
theorem d_La_law_529 : decode b_La_law 529 = .ok (.iconst 2, 1) := by decide +kernel
theorem d_La_law_530 : decode b_La_law 530 = .ok (.iadd, 1) := by decide +kernel
theorem d_La_law_531 : decode b_La_law 531 = .ok (.iaload, 1) := by decide +kernel
theorem d_La_law_532 : decode b_La_law 532 = .ok (.aload_n 3, 1) := by decide +kernel
theorem d_La_law_533 : decode b_La_law 533 = .ok (.invokestatic 101, 3) := by decide +kernel
theorem d_La_law_536 : decode b_La_law 536 = .ok (.istore 5, 2) := by decide +kernel
theorem d_La_law_538 : decode b_La_law 538 = .ok (.aload_n 2, 1) := by decide +kernel
theorem d_La_law_539 : decode b_La_law 539 = .ok (.aload_n 0, 1) := by decide +kernel
theorem d_La_law_540 : decode b_La_law 540 = .ok (.iload 4, 2) := by decide +kernel
theorem d_La_law_542 : decode b_La_law 542 = .ok (.iconst 1, 1) := by decide +kernel
theorem d_La_law_543 : decode b_La_law 543 = .ok (.iadd, 1) := by decide +kernel
theorem d_La_law_544 : decode b_La_law 544 = .ok (.iaload, 1) := by decide +kernel
theorem d_La_law_545 : decode b_La_law 545 = .ok (.aload_n 0, 1) := by decide +kernel
theorem d_La_law_546 : decode b_La_law 546 = .ok (.iload 4, 2) := by decide +kernel
theorem d_La_law_548 : decode b_La_law 548 = .ok (.iconst 2, 1) := by decide +kernel
theorem d_La_law_549 : decode b_La_law 549 = .ok (.iadd, 1) := by decide +kernel
theorem d_La_law_550 : decode b_La_law 550 = .ok (.iaload, 1) := by decide +kernel
theorem d_La_law_551 : decode b_La_law 551 = .ok (.invokevirtual 104, 3) := by decide +kernel
theorem d_La_law_554 : decode b_La_law 554 = .ok (.istore 6, 2) := by decide +kernel
theorem d_La_law_556 : decode b_La_law 556 = .ok (.goto 297, 3) := by decide +kernel
theorem d_La_law_559 : decode b_La_law 559 = .ok (.aload_n 1, 1) := by decide +kernel
theorem d_La_law_560 : decode b_La_law 560 = .ok (.aload_n 0, 1) := by decide +kernel
theorem d_La_law_561 : decode b_La_law 561 = .ok (.iload 4, 2) := by decide +kernel
theorem d_La_law_563 : decode b_La_law 563 = .ok (.iconst 1, 1) := by decide +kernel
theorem d_La_law_564 : decode b_La_law 564 = .ok (.iadd, 1) := by decide +kernel
theorem d_La_law_565 : decode b_La_law 565 = .ok (.iaload, 1) := by decide +kernel
theorem d_La_law_566 : decode b_La_law 566 = .ok (.aload_n 0, 1) := by decide +kernel
theorem d_La_law_567 : decode b_La_law 567 = .ok (.iload 4, 2) := by decide +kernel
theorem d_La_law_569 : decode b_La_law 569 = .ok (.iconst 2, 1) := by decide +kernel
theorem d_La_law_570 : decode b_La_law 570 = .ok (.iadd, 1) := by decide +kernel
theorem d_La_law_571 : decode b_La_law 571 = .ok (.iaload, 1) := by decide +kernel
theorem d_La_law_572 : decode b_La_law 572 = .ok (.invokestatic 105, 3) := by decide +kernel
theorem d_La_law_575 : decode b_La_law 575 = .ok (.istore 5, 2) := by decide +kernel
theorem d_La_law_577 : decode b_La_law 577 = .ok (.aload_n 2, 1) := by decide +kernel
theorem d_La_law_578 : decode b_La_law 578 = .ok (.aload_n 0, 1) := by decide +kernel
theorem d_La_law_579 : decode b_La_law 579 = .ok (.iload 4, 2) := by decide +kernel
theorem d_La_law_581 : decode b_La_law 581 = .ok (.iconst 1, 1) := by decide +kernel
theorem d_La_law_582 : decode b_La_law 582 = .ok (.iadd, 1) := by decide +kernel
theorem d_La_law_583 : decode b_La_law 583 = .ok (.iaload, 1) := by decide +kernel
theorem d_La_law_584 : decode b_La_law 584 = .ok (.aload_n 0, 1) := by decide +kernel
theorem d_La_law_585 : decode b_La_law 585 = .ok (.iload 4, 2) := by decide +kernel
theorem d_La_law_587 : decode b_La_law 587 = .ok (.iconst 2, 1) := by decide +kernel
theorem d_La_law_588 : decode b_La_law 588 = .ok (.iadd, 1) := by decide +kernel
theorem d_La_law_589 : decode b_La_law 589 = .ok (.iaload, 1) := by decide +kernel
theorem d_La_law_590 : decode b_La_law 590 = .ok (.invokevirtual 107, 3) := by decide +kernel
theorem d_La_law_593 : decode b_La_law 593 = .ok (.goto 260, 3) := by decide +kernel
theorem d_La_law_596 : decode b_La_law 596 = .ok (.aload_n 1, 1) := by decide +kernel
theorem d_La_law_597 : decode b_La_law 597 = .ok (.aload_n 0, 1) := by decide +kernel
theorem d_La_law_598 : decode b_La_law 598 = .ok (.iload 4, 2) := by decide +kernel
theorem d_La_law_600 : decode b_La_law 600 = .ok (.iconst 1, 1) := by decide +kernel
theorem d_La_law_601 : decode b_La_law 601 = .ok (.iadd, 1) := by decide +kernel
theorem d_La_law_602 : decode b_La_law 602 = .ok (.iaload, 1) := by decide +kernel
theorem d_La_law_603 : decode b_La_law 603 = .ok (.aload_n 3, 1) := by decide +kernel
theorem d_La_law_604 : decode b_La_law 604 = .ok (.invokestatic 108, 3) := by decide +kernel
theorem d_La_law_607 : decode b_La_law 607 = .ok (.istore 5, 2) := by decide +kernel
theorem d_La_law_609 : decode b_La_law 609 = .ok (.aload_n 2, 1) := by decide +kernel
theorem d_La_law_610 : decode b_La_law 610 = .ok (.aload_n 0, 1) := by decide +kernel
theorem d_La_law_611 : decode b_La_law 611 = .ok (.iload 4, 2) := by decide +kernel
theorem d_La_law_613 : decode b_La_law 613 = .ok (.iconst 1, 1) := by decide +kernel
theorem d_La_law_614 : decode b_La_law 614 = .ok (.iadd, 1) := by decide +kernel
theorem d_La_law_615 : decode b_La_law 615 = .ok (.iaload, 1) := by decide +kernel
theorem d_La_law_616 : decode b_La_law 616 = .ok (.invokevirtual 110, 3) := by decide +kernel
theorem d_La_law_619 : decode b_La_law 619 = .ok (.istore 6, 2) := by decide +kernel
theorem d_La_law_621 : decode b_La_law 621 = .ok (.goto 232, 3) := by decide +kernel
theorem d_La_law_624 : decode b_La_law 624 = .ok (.aload_n 1, 1) := by decide +kernel
theorem d_La_law_625 : decode b_La_law 625 = .ok (.aload_n 0, 1) := by decide +kernel
theorem d_La_law_626 : decode b_La_law 626 = .ok (.iload 4, 2) := by decide +kernel
theorem d_La_law_628 : decode b_La_law 628 = .ok (.iconst 1, 1) := by decide +kernel
theorem d_La_law_629 : decode b_La_law 629 = .ok (.iadd, 1) := by decide +kernel
theorem d_La_law_630 : decode b_La_law 630 = .ok (.iaload, 1) := by decide +kernel
theorem d_La_law_631 : decode b_La_law 631 = .ok (.aload_n 0, 1) := by decide +kernel
theorem d_La_law_632 : decode b_La_law 632 = .ok (.iload 4, 2) := by decide +kernel
theorem d_La_law_634 : decode b_La_law 634 = .ok (.iconst 2, 1) := by decide +kernel
theorem d_La_law_635 : decode b_La_law 635 = .ok (.iadd, 1) := by decide +kernel
theorem d_La_law_636 : decode b_La_law 636 = .ok (.iaload, 1) := by decide +kernel
theorem d_La_law_637 : decode b_La_law 637 = .ok (.ifCond .eq 7, 3) := by decide +kernel
theorem d_La_law_640 : decode b_La_law 640 = .ok (.iconst 1, 1) := by decide +kernel
theorem d_La_law_641 : decode b_La_law 641 = .ok (.goto 4, 3) := by decide +kernel
theorem d_La_law_644 : decode b_La_law 644 = .ok (.iconst 0, 1) := by decide +kernel
theorem d_La_law_645 : decode b_La_law 645 = .ok (.aload_n 0, 1) := by decide +kernel
theorem d_La_law_646 : decode b_La_law 646 = .ok (.iload 4, 2) := by decide +kernel
theorem d_La_law_648 : decode b_La_law 648 = .ok (.iconst 3, 1) := by decide +kernel
theorem d_La_law_649 : decode b_La_law 649 = .ok (.iadd, 1) := by decide +kernel
theorem d_La_law_650 : decode b_La_law 650 = .ok (.iaload, 1) := by decide +kernel
theorem d_La_law_651 : decode b_La_law 651 = .ok (.aload_n 0, 1) := by decide +kernel
theorem d_La_law_652 : decode b_La_law 652 = .ok (.iload 4, 2) := by decide +kernel
theorem d_La_law_654 : decode b_La_law 654 = .ok (.iconst 4, 1) := by decide +kernel
theorem d_La_law_655 : decode b_La_law 655 = .ok (.iadd, 1) := by decide +kernel
theorem d_La_law_656 : decode b_La_law 656 = .ok (.iaload, 1) := by decide +kernel
theorem d_La_law_657 : decode b_La_law 657 = .ok (.aload_n 3, 1) := by decide +kernel
theorem d_La_law_658 : decode b_La_law 658 = .ok (.invokestatic 111, 3) := by decide +kernel
theorem d_La_law_661 : decode b_La_law 661 = .ok (.istore 5, 2) := by decide +kernel
theorem d_La_law_663 : decode b_La_law 663 = .ok (.aload_n 2, 1) := by decide +kernel
theorem d_La_law_664 : decode b_La_law 664 = .ok (.aload_n 0, 1) := by decide +kernel
theorem d_La_law_665 : decode b_La_law 665 = .ok (.iload 4, 2) := by decide +kernel
theorem d_La_law_667 : decode b_La_law 667 = .ok (.iconst 1, 1) := by decide +kernel
theorem d_La_law_668 : decode b_La_law 668 = .ok (.iadd, 1) := by decide +kernel
theorem d_La_law_669 : decode b_La_law 669 = .ok (.iaload, 1) := by decide +kernel
theorem d_La_law_670 : decode b_La_law 670 = .ok (.aload_n 0, 1) := by decide +kernel
theorem d_La_law_671 : decode b_La_law 671 = .ok (.iload 4, 2) := by decide +kernel
theorem d_La_law_673 : decode b_La_law 673 = .ok (.iconst 2, 1) := by decide +kernel
theorem d_La_law_674 : decode b_La_law 674 = .ok (.iadd, 1) := by decide +kernel
theorem d_La_law_675 : decode b_La_law 675 = .ok (.iaload, 1) := by decide +kernel
theorem d_La_law_676 : decode b_La_law 676 = .ok (.ifCond .eq 7, 3) := by decide +kernel
theorem d_La_law_679 : decode b_La_law 679 = .ok (.iconst 1, 1) := by decide +kernel
theorem d_La_law_680 : decode b_La_law 680 = .ok (.goto 4, 3) := by decide +kernel
theorem d_La_law_683 : decode b_La_law 683 = .ok (.iconst 0, 1) := by decide +kernel
theorem d_La_law_684 : decode b_La_law 684 = .ok (.aload_n 0, 1) := by decide +kernel
theorem d_La_law_685 : decode b_La_law 685 = .ok (.iload 4, 2) := by decide +kernel
theorem d_La_law_687 : decode b_La_law 687 = .ok (.iconst 3, 1) := by decide +kernel
theorem d_La_law_688 : decode b_La_law 688 = .ok (.iadd, 1) := by decide +kernel
theorem d_La_law_689 : decode b_La_law 689 = .ok (.iaload, 1) := by decide +kernel
theorem d_La_law_690 : decode b_La_law 690 = .ok (.aload_n 0, 1) := by decide +kernel
theorem d_La_law_691 : decode b_La_law 691 = .ok (.iload 4, 2) := by decide +kernel
theorem d_La_law_693 : decode b_La_law 693 = .ok (.iconst 4, 1) := by decide +kernel
theorem d_La_law_694 : decode b_La_law 694 = .ok (.iadd, 1) := by decide +kernel
theorem d_La_law_695 : decode b_La_law 695 = .ok (.iaload, 1) := by decide +kernel
theorem d_La_law_696 : decode b_La_law 696 = .ok (.invokevirtual 114, 3) := by decide +kernel
theorem d_La_law_699 : decode b_La_law 699 = .ok (.istore 6, 2) := by decide +kernel
theorem d_La_law_701 : decode b_La_law 701 = .ok (.goto 152, 3) := by decide +kernel
theorem d_La_law_704 : decode b_La_law 704 = .ok (.aload_n 1, 1) := by decide +kernel
theorem d_La_law_705 : decode b_La_law 705 = .ok (.aload_n 0, 1) := by decide +kernel
theorem d_La_law_706 : decode b_La_law 706 = .ok (.iload 4, 2) := by decide +kernel
theorem d_La_law_708 : decode b_La_law 708 = .ok (.iconst 1, 1) := by decide +kernel
theorem d_La_law_709 : decode b_La_law 709 = .ok (.iadd, 1) := by decide +kernel
theorem d_La_law_710 : decode b_La_law 710 = .ok (.iaload, 1) := by decide +kernel
theorem d_La_law_711 : decode b_La_law 711 = .ok (.aload_n 0, 1) := by decide +kernel
theorem d_La_law_712 : decode b_La_law 712 = .ok (.iload 4, 2) := by decide +kernel
theorem d_La_law_714 : decode b_La_law 714 = .ok (.iconst 2, 1) := by decide +kernel
theorem d_La_law_715 : decode b_La_law 715 = .ok (.iadd, 1) := by decide +kernel
theorem d_La_law_716 : decode b_La_law 716 = .ok (.iaload, 1) := by decide +kernel
theorem d_La_law_717 : decode b_La_law 717 = .ok (.i2l, 1) := by decide +kernel
theorem d_La_law_718 : decode b_La_law 718 = .ok (.bipush 32, 2) := by decide +kernel
theorem d_La_law_720 : decode b_La_law 720 = .ok (.lshl, 1) := by decide +kernel
theorem d_La_law_721 : decode b_La_law 721 = .ok (.aload_n 0, 1) := by decide +kernel
theorem d_La_law_722 : decode b_La_law 722 = .ok (.iload 4, 2) := by decide +kernel
theorem d_La_law_724 : decode b_La_law 724 = .ok (.iconst 3, 1) := by decide +kernel
theorem d_La_law_725 : decode b_La_law 725 = .ok (.iadd, 1) := by decide +kernel
theorem d_La_law_726 : decode b_La_law 726 = .ok (.iaload, 1) := by decide +kernel
theorem d_La_law_727 : decode b_La_law 727 = .ok (.i2l, 1) := by decide +kernel
theorem d_La_law_728 : decode b_La_law 728 = .ok (.ldc2_w 75, 3) := by decide +kernel
theorem d_La_law_731 : decode b_La_law 731 = .ok (.land, 1) := by decide +kernel
theorem d_La_law_732 : decode b_La_law 732 = .ok (.lor, 1) := by decide +kernel
theorem d_La_law_733 : decode b_La_law 733 = .ok (.invokestatic 115, 3) := by decide +kernel
theorem d_La_law_736 : decode b_La_law 736 = .ok (.istore 5, 2) := by decide +kernel
theorem d_La_law_738 : decode b_La_law 738 = .ok (.aload_n 2, 1) := by decide +kernel
theorem d_La_law_739 : decode b_La_law 739 = .ok (.aload_n 0, 1) := by decide +kernel
theorem d_La_law_740 : decode b_La_law 740 = .ok (.iload 4, 2) := by decide +kernel
theorem d_La_law_742 : decode b_La_law 742 = .ok (.iconst 1, 1) := by decide +kernel
theorem d_La_law_743 : decode b_La_law 743 = .ok (.iadd, 1) := by decide +kernel
theorem d_La_law_744 : decode b_La_law 744 = .ok (.iaload, 1) := by decide +kernel
theorem d_La_law_745 : decode b_La_law 745 = .ok (.aload_n 0, 1) := by decide +kernel
theorem d_La_law_746 : decode b_La_law 746 = .ok (.iload 4, 2) := by decide +kernel
theorem d_La_law_748 : decode b_La_law 748 = .ok (.iconst 2, 1) := by decide +kernel
theorem d_La_law_749 : decode b_La_law 749 = .ok (.iadd, 1) := by decide +kernel
theorem d_La_law_750 : decode b_La_law 750 = .ok (.iaload, 1) := by decide +kernel
theorem d_La_law_751 : decode b_La_law 751 = .ok (.i2l, 1) := by decide +kernel
theorem d_La_law_752 : decode b_La_law 752 = .ok (.bipush 32, 2) := by decide +kernel
theorem d_La_law_754 : decode b_La_law 754 = .ok (.lshl, 1) := by decide +kernel
theorem d_La_law_755 : decode b_La_law 755 = .ok (.aload_n 0, 1) := by decide +kernel
theorem d_La_law_756 : decode b_La_law 756 = .ok (.iload 4, 2) := by decide +kernel

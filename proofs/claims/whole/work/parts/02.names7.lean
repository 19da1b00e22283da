theorem dL_law_178 : decode cL_law 178 = .ok (.iaload, 1) := by decide +kernel
theorem dL_law_179 : decode cL_law 179 = .ok (.aload_n 0, 1) := by decide +kernel
theorem dL_law_180 : decode cL_law 180 = .ok (.iload 5, 2) := by decide +kernel
theorem dL_law_182 : decode cL_law 182 = .ok (.iconst 3, 1) := by decide +kernel
theorem dL_law_183 : decode cL_law 183 = .ok (.iadd, 1) := by decide +kernel
theorem dL_law_184 : decode cL_law 184 = .ok (.iaload, 1) := by decide +kernel
theorem dL_law_185 : decode cL_law 185 = .ok (.aload_n 0, 1) := by decide +kernel
theorem dL_law_186 : decode cL_law 186 = .ok (.iload 5, 2) := by decide +kernel
theorem dL_law_188 : decode cL_law 188 = .ok (.iconst 4, 1) := by decide +kernel
theorem dL_law_189 : decode cL_law 189 = .ok (.iadd, 1) := by decide +kernel
theorem dL_law_190 : decode cL_law 190 = .ok (.iaload, 1) := by decide +kernel
theorem dL_law_191 : decode cL_law 191 = .ok (.invokevirtual 64, 3) := by decide +kernel
theorem dL_law_194 : decode cL_law 194 = .ok (.aload_n 2, 1) := by decide +kernel
theorem dL_law_195 : decode cL_law 195 = .ok (.invokevirtual 57, 3) := by decide +kernel
theorem dL_law_198 : decode cL_law 198 = .ok (.iload 6, 2) := by decide +kernel
theorem dL_law_200 : decode cL_law 200 = .ok (.if_icmp .eq 5, 3) := by decide +kernel
theorem dL_law_203 : decode cL_law 203 = .ok (.iconst 0, 1) := by decide +kernel
theorem dL_law_204 : decode cL_law 204 = .ok (.ireturn, 1) := by decide +kernel
theorem dL_law_205 : decode cL_law 205 = .ok (.goto 596, 3) := by decide +kernel
theorem dL_law_208 : decode cL_law 208 = .ok (.aload_n 1, 1) := by decide +kernel
theorem dL_law_209 : decode cL_law 209 = .ok (.aload_n 0, 1) := by decide +kernel
theorem dL_law_210 : decode cL_law 210 = .ok (.iload 5, 2) := by decide +kernel
theorem dL_law_212 : decode cL_law 212 = .ok (.iconst 1, 1) := by decide +kernel
theorem dL_law_213 : decode cL_law 213 = .ok (.iadd, 1) := by decide +kernel
theorem dL_law_214 : decode cL_law 214 = .ok (.iaload, 1) := by decide +kernel
theorem dL_law_215 : decode cL_law 215 = .ok (.aload_n 0, 1) := by decide +kernel
theorem dL_law_216 : decode cL_law 216 = .ok (.iload 5, 2) := by decide +kernel
theorem dL_law_218 : decode cL_law 218 = .ok (.iconst 2, 1) := by decide +kernel
theorem dL_law_219 : decode cL_law 219 = .ok (.iadd, 1) := by decide +kernel
theorem dL_law_220 : decode cL_law 220 = .ok (.iaload, 1) := by decide +kernel
theorem dL_law_221 : decode cL_law 221 = .ok (.i2d, 1) := by decide +kernel
theorem dL_law_222 : decode cL_law 222 = .ok (.ldc2_w 65, 3) := by decide +kernel
theorem dL_law_225 : decode cL_law 225 = .ok (.dmul, 1) := by decide +kernel
theorem dL_law_226 : decode cL_law 226 = .ok (.aload_n 0, 1) := by decide +kernel
theorem dL_law_227 : decode cL_law 227 = .ok (.iload 5, 2) := by decide +kernel
theorem dL_law_229 : decode cL_law 229 = .ok (.iconst 3, 1) := by decide +kernel
theorem dL_law_230 : decode cL_law 230 = .ok (.iadd, 1) := by decide +kernel
theorem dL_law_231 : decode cL_law 231 = .ok (.iaload, 1) := by decide +kernel
theorem dL_law_232 : decode cL_law 232 = .ok (.i2d, 1) := by decide +kernel
theorem dL_law_233 : decode cL_law 233 = .ok (.ldc2_w 65, 3) := by decide +kernel
theorem dL_law_236 : decode cL_law 236 = .ok (.dmul, 1) := by decide +kernel
theorem dL_law_237 : decode cL_law 237 = .ok (.invokestatic 67, 3) := by decide +kernel
theorem dL_law_240 : decode cL_law 240 = .ok (.istore 6, 2) := by decide +kernel
theorem dL_law_242 : decode cL_law 242 = .ok (.aload_n 2, 1) := by decide +kernel
theorem dL_law_243 : decode cL_law 243 = .ok (.aload_n 0, 1) := by decide +kernel
theorem dL_law_244 : decode cL_law 244 = .ok (.iload 5, 2) := by decide +kernel
theorem dL_law_246 : decode cL_law 246 = .ok (.iconst 1, 1) := by decide +kernel
theorem dL_law_247 : decode cL_law 247 = .ok (.iadd, 1) := by decide +kernel
theorem dL_law_248 : decode cL_law 248 = .ok (.iaload, 1) := by decide +kernel
theorem dL_law_249 : decode cL_law 249 = .ok (.aload_n 0, 1) := by decide +kernel
theorem dL_law_250 : decode cL_law 250 = .ok (.iload 5, 2) := by decide +kernel
theorem dL_law_252 : decode cL_law 252 = .ok (.iconst 2, 1) := by decide +kernel
theorem dL_law_253 : decode cL_law 253 = .ok (.iadd, 1) := by decide +kernel
theorem dL_law_254 : decode cL_law 254 = .ok (.iaload, 1) := by decide +kernel
theorem dL_law_255 : decode cL_law 255 = .ok (.i2d, 1) := by decide +kernel
theorem dL_law_256 : decode cL_law 256 = .ok (.ldc2_w 65, 3) := by decide +kernel
theorem dL_law_259 : decode cL_law 259 = .ok (.dmul, 1) := by decide +kernel
theorem dL_law_260 : decode cL_law 260 = .ok (.aload_n 0, 1) := by decide +kernel
theorem dL_law_261 : decode cL_law 261 = .ok (.iload 5, 2) := by decide +kernel
theorem dL_law_263 : decode cL_law 263 = .ok (.iconst 3, 1) := by decide +kernel
theorem dL_law_264 : decode cL_law 264 = .ok (.iadd, 1) := by decide +kernel
theorem dL_law_265 : decode cL_law 265 = .ok (.iaload, 1) := by decide +kernel
theorem dL_law_266 : decode cL_law 266 = .ok (.i2d, 1) := by decide +kernel
theorem dL_law_267 : decode cL_law 267 = .ok (.ldc2_w 65, 3) := by decide +kernel
theorem dL_law_270 : decode cL_law 270 = .ok (.dmul, 1) := by decide +kernel
theorem dL_law_271 : decode cL_law 271 = .ok (.invokevirtual 70, 3) := by decide +kernel
theorem dL_law_274 : decode cL_law 274 = .ok (.aload_n 2, 1) := by decide +kernel
theorem dL_law_275 : decode cL_law 275 = .ok (.invokevirtual 57, 3) := by decide +kernel
theorem dL_law_278 : decode cL_law 278 = .ok (.iload 6, 2) := by decide +kernel
theorem dL_law_280 : decode cL_law 280 = .ok (.if_icmp .eq 5, 3) := by decide +kernel
theorem dL_law_283 : decode cL_law 283 = .ok (.iconst 0, 1) := by decide +kernel
theorem dL_law_284 : decode cL_law 284 = .ok (.ireturn, 1) := by decide +kernel
theorem dL_law_285 : decode cL_law 285 = .ok (.goto 516, 3) := by decide +kernel
theorem dL_law_288 : decode cL_law 288 = .ok (.aload_n 1, 1) := by decide +kernel
theorem dL_law_289 : decode cL_law 289 = .ok (.aload_n 0, 1) := by decide +kernel
theorem dL_law_290 : decode cL_law 290 = .ok (.iload 5, 2) := by decide +kernel
theorem dL_law_292 : decode cL_law 292 = .ok (.iconst 1, 1) := by decide +kernel
theorem dL_law_293 : decode cL_law 293 = .ok (.iadd, 1) := by decide +kernel
theorem dL_law_294 : decode cL_law 294 = .ok (.iaload, 1) := by decide +kernel
theorem dL_law_295 : decode cL_law 295 = .ok (.i2d, 1) := by decide +kernel
theorem dL_law_296 : decode cL_law 296 = .ok (.ldc2_w 65, 3) := by decide +kernel
theorem dL_law_299 : decode cL_law 299 = .ok (.dmul, 1) := by decide +kernel
theorem dL_law_300 : decode cL_law 300 = .ok (.aload 4, 2) := by decide +kernel
theorem dL_law_302 : decode cL_law 302 = .ok (.invokestatic 71, 3) := by decide +kernel
theorem dL_law_305 : decode cL_law 305 = .ok (.istore 6, 2) := by decide +kernel
theorem dL_law_307 : decode cL_law 307 = .ok (.aload_n 2, 1) := by decide +kernel
theorem dL_law_308 : decode cL_law 308 = .ok (.aload_n 0, 1) := by decide +kernel
theorem dL_law_309 : decode cL_law 309 = .ok (.iload 5, 2) := by decide +kernel
theorem dL_law_311 : decode cL_law 311 = .ok (.iconst 1, 1) := by decide +kernel
theorem dL_law_312 : decode cL_law 312 = .ok (.iadd, 1) := by decide +kernel
theorem dL_law_313 : decode cL_law 313 = .ok (.iaload, 1) := by decide +kernel
theorem dL_law_314 : decode cL_law 314 = .ok (.i2d, 1) := by decide +kernel
theorem dL_law_315 : decode cL_law 315 = .ok (.ldc2_w 65, 3) := by decide +kernel
theorem dL_law_318 : decode cL_law 318 = .ok (.dmul, 1) := by decide +kernel
theorem dL_law_319 : decode cL_law 319 = .ok (.invokevirtual 74, 3) := by decide +kernel
theorem dL_law_322 : decode cL_law 322 = .ok (.dstore 7, 2) := by decide +kernel
theorem dL_law_324 : decode cL_law 324 = .ok (.aload_n 2, 1) := by decide +kernel
theorem dL_law_325 : decode cL_law 325 = .ok (.invokevirtual 57, 3) := by decide +kernel
theorem dL_law_328 : decode cL_law 328 = .ok (.iload 6, 2) := by decide +kernel
theorem dL_law_330 : decode cL_law 330 = .ok (.if_icmp .eq 5, 3) := by decide +kernel
theorem dL_law_333 : decode cL_law 333 = .ok (.iconst 0, 1) := by decide +kernel
theorem dL_law_334 : decode cL_law 334 = .ok (.ireturn, 1) := by decide +kernel
theorem dL_law_335 : decode cL_law 335 = .ok (.iload 6, 2) := by decide +kernel
theorem dL_law_337 : decode cL_law 337 = .ok (.ifCond .ne 35, 3) := by decide +kernel
theorem dL_law_340 : decode cL_law 340 = .ok (.aload 4, 2) := by decide +kernel
theorem dL_law_342 : decode cL_law 342 = .ok (.iconst 0, 1) := by decide +kernel
theorem dL_law_343 : decode cL_law 343 = .ok (.daload, 1) := by decide +kernel
theorem dL_law_344 : decode cL_law 344 = .ok (.dload 7, 2) := by decide +kernel
theorem dL_law_346 : decode cL_law 346 = .ok (.dcmp .l, 1) := by decide +kernel
theorem dL_law_347 : decode cL_law 347 = .ok (.ifCond .eq 25, 3) := by decide +kernel
theorem dL_law_350 : decode cL_law 350 = .ok (.aload 4, 2) := by decide +kernel
theorem dL_law_352 : decode cL_law 352 = .ok (.iconst 0, 1) := by decide +kernel
theorem dL_law_353 : decode cL_law 353 = .ok (.daload, 1) := by decide +kernel
theorem dL_law_354 : decode cL_law 354 = .ok (.aload 4, 2) := by decide +kernel
theorem dL_law_356 : decode cL_law 356 = .ok (.iconst 0, 1) := by decide +kernel
theorem dL_law_357 : decode cL_law 357 = .ok (.daload, 1) := by decide +kernel
theorem dL_law_358 : decode cL_law 358 = .ok (.dcmp .l, 1) := by decide +kernel
theorem dL_law_359 : decode cL_law 359 = .ok (.ifCond .eq 11, 3) := by decide +kernel
theorem dL_law_362 : decode cL_law 362 = .ok (.dload 7, 2) := by decide +kernel
theorem dL_law_364 : decode cL_law 364 = .ok (.dload 7, 2) := by decide +kernel
theorem dL_law_366 : decode cL_law 366 = .ok (.dcmp .l, 1) := by decide +kernel
theorem dL_law_367 : decode cL_law 367 = .ok (.ifCond .ne 5, 3) := by decide +kernel
theorem dL_law_370 : decode cL_law 370 = .ok (.iconst 0, 1) := by decide +kernel
theorem dL_law_371 : decode cL_law 371 = .ok (.ireturn, 1) := by decide +kernel
theorem dL_law_372 : decode cL_law 372 = .ok (.goto 429, 3) := by decide +kernel
theorem dL_law_375 : decode cL_law 375 = .ok (.aload_n 1, 1) := by decide +kernel
theorem dL_law_376 : decode cL_law 376 = .ok (.aload_n 0, 1) := by decide +kernel
theorem dL_law_377 : decode cL_law 377 = .ok (.iload 5, 2) := by decide +kernel
theorem dL_law_379 : decode cL_law 379 = .ok (.iconst 1, 1) := by decide +kernel
theorem dL_law_380 : decode cL_law 380 = .ok (.iadd, 1) := by decide +kernel
theorem dL_law_381 : decode cL_law 381 = .ok (.iaload, 1) := by decide +kernel
theorem dL_law_382 : decode cL_law 382 = .ok (.i2d, 1) := by decide +kernel
theorem dL_law_383 : decode cL_law 383 = .ok (.ldc2_w 65, 3) := by decide +kernel
theorem dL_law_386 : decode cL_law 386 = .ok (.dmul, 1) := by decide +kernel
theorem dL_law_387 : decode cL_law 387 = .ok (.aload_n 3, 1) := by decide +kernel
theorem dL_law_388 : decode cL_law 388 = .ok (.invokestatic 75, 3) := by decide +kernel
theorem dL_law_391 : decode cL_law 391 = .ok (.istore 6, 2) := by decide +kernel
theorem dL_law_393 : decode cL_law 393 = .ok (.aload_n 2, 1) := by decide +kernel
theorem dL_law_394 : decode cL_law 394 = .ok (.aload_n 0, 1) := by decide +kernel
theorem dL_law_395 : decode cL_law 395 = .ok (.iload 5, 2) := by decide +kernel
theorem dL_law_397 : decode cL_law 397 = .ok (.iconst 1, 1) := by decide +kernel
theorem dL_law_398 : decode cL_law 398 = .ok (.iadd, 1) := by decide +kernel
theorem dL_law_399 : decode cL_law 399 = .ok (.iaload, 1) := by decide +kernel
theorem dL_law_400 : decode cL_law 400 = .ok (.i2d, 1) := by decide +kernel
theorem dL_law_401 : decode cL_law 401 = .ok (.ldc2_w 65, 3) := by decide +kernel
theorem dL_law_404 : decode cL_law 404 = .ok (.dmul, 1) := by decide +kernel
theorem dL_law_405 : decode cL_law 405 = .ok (.invokevirtual 78, 3) := by decide +kernel
theorem dL_law_408 : decode cL_law 408 = .ok (.istore 7, 2) := by decide +kernel
theorem dL_law_410 : decode cL_law 410 = .ok (.aload_n 2, 1) := by decide +kernel
theorem dL_law_411 : decode cL_law 411 = .ok (.invokevirtual 57, 3) := by decide +kernel
theorem dL_law_414 : decode cL_law 414 = .ok (.iload 6, 2) := by decide +kernel
theorem dL_law_416 : decode cL_law 416 = .ok (.if_icmp .eq 5, 3) := by decide +kernel
theorem dL_law_419 : decode cL_law 419 = .ok (.iconst 0, 1) := by decide +kernel
theorem dL_law_420 : decode cL_law 420 = .ok (.ireturn, 1) := by decide +kernel
theorem dL_law_421 : decode cL_law 421 = .ok (.iload 6, 2) := by decide +kernel
theorem dL_law_423 : decode cL_law 423 = .ok (.ifCond .ne 15, 3) := by decide +kernel
theorem dL_law_426 : decode cL_law 426 = .ok (.aload_n 3, 1) := by decide +kernel
theorem dL_law_427 : decode cL_law 427 = .ok (.iconst 0, 1) := by decide +kernel
theorem dL_law_428 : decode cL_law 428 = .ok (.laload, 1) := by decide +kernel
theorem dL_law_429 : decode cL_law 429 = .ok (.iload 7, 2) := by decide +kernel
theorem dL_law_431 : decode cL_law 431 = .ok (.i2l, 1) := by decide +kernel
theorem dL_law_432 : decode cL_law 432 = .ok (.lcmp, 1) := by decide +kernel
theorem dL_law_433 : decode cL_law 433 = .ok (.ifCond .eq 5, 3) := by decide +kernel
theorem dL_law_436 : decode cL_law 436 = .ok (.iconst 0, 1) := by decide +kernel
theorem dL_law_437 : decode cL_law 437 = .ok (.ireturn, 1) := by decide +kernel
theorem dL_law_438 : decode cL_law 438 = .ok (.goto 363, 3) := by decide +kernel
theorem dL_law_441 : decode cL_law 441 = .ok (.aload_n 1, 1) := by decide +kernel
theorem dL_law_442 : decode cL_law 442 = .ok (.aload_n 0, 1) := by decide +kernel
theorem dL_law_443 : decode cL_law 443 = .ok (.iload 5, 2) := by decide +kernel
theorem dL_law_445 : decode cL_law 445 = .ok (.iconst 1, 1) := by decide +kernel
theorem dL_law_446 : decode cL_law 446 = .ok (.iadd, 1) := by decide +kernel
theorem dL_law_447 : decode cL_law 447 = .ok (.iaload, 1) := by decide +kernel
theorem dL_law_448 : decode cL_law 448 = .ok (.aload_n 0, 1) := by decide +kernel
theorem dL_law_449 : decode cL_law 449 = .ok (.iload 5, 2) := by decide +kernel
theorem dL_law_451 : decode cL_law 451 = .ok (.iconst 2, 1) := by decide +kernel
theorem dL_law_452 : decode cL_law 452 = .ok (.iadd, 1) := by decide +kernel
theorem dL_law_453 : decode cL_law 453 = .ok (.iaload, 1) := by decide +kernel
theorem dL_law_454 : decode cL_law 454 = .ok (.aload 4, 2) := by decide +kernel
theorem dL_law_456 : decode cL_law 456 = .ok (.invokestatic 79, 3) := by decide +kernel
theorem dL_law_459 : decode cL_law 459 = .ok (.istore 6, 2) := by decide +kernel
theorem dL_law_461 : decode cL_law 461 = .ok (.aload_n 2, 1) := by decide +kernel
theorem dL_law_462 : decode cL_law 462 = .ok (.aload_n 0, 1) := by decide +kernel
theorem dL_law_463 : decode cL_law 463 = .ok (.iload 5, 2) := by decide +kernel
theorem dL_law_465 : decode cL_law 465 = .ok (.iconst 1, 1) := by decide +kernel
theorem dL_law_466 : decode cL_law 466 = .ok (.iadd, 1) := by decide +kernel
theorem dL_law_467 : decode cL_law 467 = .ok (.iaload, 1) := by decide +kernel
theorem dL_law_468 : decode cL_law 468 = .ok (.aload_n 0, 1) := by decide +kernel
theorem dL_law_469 : decode cL_law 469 = .ok (.iload 5, 2) := by decide +kernel
theorem dL_law_471 : decode cL_law 471 = .ok (.iconst 2, 1) := by decide +kernel
theorem dL_law_472 : decode cL_law 472 = .ok (.iadd, 1) := by decide +kernel
theorem dL_law_473 : decode cL_law 473 = .ok (.iaload, 1) := by decide +kernel
theorem dL_law_474 : decode cL_law 474 = .ok (.invokevirtual 82, 3) := by decide +kernel
theorem dL_law_477 : decode cL_law 477 = .ok (.dstore 7, 2) := by decide +kernel
theorem dL_law_479 : decode cL_law 479 = .ok (.aload_n 2, 1) := by decide +kernel
theorem dL_law_480 : decode cL_law 480 = .ok (.invokevirtual 57, 3) := by decide +kernel
theorem dL_law_483 : decode cL_law 483 = .ok (.iload 6, 2) := by decide +kernel
theorem dL_law_485 : decode cL_law 485 = .ok (.if_icmp .eq 5, 3) := by decide +kernel
theorem dL_law_488 : decode cL_law 488 = .ok (.iconst 0, 1) := by decide +kernel
theorem dL_law_489 : decode cL_law 489 = .ok (.ireturn, 1) := by decide +kernel
theorem dL_law_490 : decode cL_law 490 = .ok (.iload 6, 2) := by decide +kernel
theorem dL_law_492 : decode cL_law 492 = .ok (.ifCond .ne 35, 3) := by decide +kernel
theorem dL_law_495 : decode cL_law 495 = .ok (.aload 4, 2) := by decide +kernel
theorem dL_law_497 : decode cL_law 497 = .ok (.iconst 0, 1) := by decide +kernel
theorem dL_law_498 : decode cL_law 498 = .ok (.daload, 1) := by decide +kernel
theorem dL_law_499 : decode cL_law 499 = .ok (.dload 7, 2) := by decide +kernel
theorem dL_law_501 : decode cL_law 501 = .ok (.dcmp .l, 1) := by decide +kernel
theorem dL_law_502 : decode cL_law 502 = .ok (.ifCond .eq 25, 3) := by decide +kernel
theorem dL_law_505 : decode cL_law 505 = .ok (.aload 4, 2) := by decide +kernel
theorem dL_law_507 : decode cL_law 507 = .ok (.iconst 0, 1) := by decide +kernel
theorem dL_law_508 : decode cL_law 508 = .ok (.daload, 1) := by decide +kernel
theorem dL_law_509 : decode cL_law 509 = .ok (.aload 4, 2) := by decide +kernel
theorem dL_law_511 : decode cL_law 511 = .ok (.iconst 0, 1) := by decide +kernel
theorem dL_law_512 : decode cL_law 512 = .ok (.daload, 1) := by decide +kernel
theorem dL_law_513 : decode cL_law 513 = .ok (.dcmp .l, 1) := by decide +kernel
theorem dL_law_514 : decode cL_law 514 = .ok (.ifCond .eq 11, 3) := by decide +kernel
theorem dL_law_517 : decode cL_law 517 = .ok (.dload 7, 2) := by decide +kernel
theorem dL_law_519 : decode cL_law 519 = .ok (.dload 7, 2) := by decide +kernel
theorem dL_law_521 : decode cL_law 521 = .ok (.dcmp .l, 1) := by decide +kernel
theorem dL_law_522 : decode cL_law 522 = .ok (.ifCond .ne 5, 3) := by decide +kernel
theorem dL_law_525 : decode cL_law 525 = .ok (.iconst 0, 1) := by decide +kernel
theorem dL_law_526 : decode cL_law 526 = .ok (.ireturn, 1) := by decide +kernel
theorem dL_law_527 : decode cL_law 527 = .ok (.goto 274, 3) := by decide +kernel
theorem dL_law_530 : decode cL_law 530 = .ok (.aload_n 1, 1) := by decide +kernel
theorem dL_law_531 : decode cL_law 531 = .ok (.aload_n 0, 1) := by decide +kernel
theorem dL_law_532 : decode cL_law 532 = .ok (.iload 5, 2) := by decide +kernel
theorem dL_law_534 : decode cL_law 534 = .ok (.iconst 1, 1) := by decide +kernel
theorem dL_law_535 : decode cL_law 535 = .ok (.iadd, 1) := by decide +kernel
theorem dL_law_536 : decode cL_law 536 = .ok (.iaload, 1) := by decide +kernel
theorem dL_law_537 : decode cL_law 537 = .ok (.aload_n 0, 1) := by decide +kernel
theorem dL_law_538 : decode cL_law 538 = .ok (.iload 5, 2) := by decide +kernel
theorem dL_law_540 : decode cL_law 540 = .ok (.iconst 2, 1) := by decide +kernel
theorem dL_law_541 : decode cL_law 541 = .ok (.iadd, 1) := by decide +kernel
theorem dL_law_542 : decode cL_law 542 = .ok (.iaload, 1) := by decide +kernel
theorem dL_law_543 : decode cL_law 543 = .ok (.ifCond .eq 7, 3) := by decide +kernel
theorem dL_law_546 : decode cL_law 546 = .ok (.iconst 1, 1) := by decide +kernel
theorem dL_law_547 : decode cL_law 547 = .ok (.goto 4, 3) := by decide +kernel
theorem dL_law_550 : decode cL_law 550 = .ok (.iconst 0, 1) := by decide +kernel
theorem dL_law_551 : decode cL_law 551 = .ok (.aload 4, 2) := by decide +kernel
theorem dL_law_553 : decode cL_law 553 = .ok (.invokestatic 83, 3) := by decide +kernel
theorem dL_law_556 : decode cL_law 556 = .ok (.istore 6, 2) := by decide +kernel
theorem dL_law_558 : decode cL_law 558 = .ok (.aload_n 2, 1) := by decide +kernel
theorem dL_law_559 : decode cL_law 559 = .ok (.aload_n 0, 1) := by decide +kernel
theorem dL_law_560 : decode cL_law 560 = .ok (.iload 5, 2) := by decide +kernel
theorem dL_law_562 : decode cL_law 562 = .ok (.iconst 1, 1) := by decide +kernel
theorem dL_law_563 : decode cL_law 563 = .ok (.iadd, 1) := by decide +kernel
theorem dL_law_564 : decode cL_law 564 = .ok (.iaload, 1) := by decide +kernel
theorem dL_law_565 : decode cL_law 565 = .ok (.aload_n 0, 1) := by decide +kernel
theorem dL_law_566 : decode cL_law 566 = .ok (.iload 5, 2) := by decide +kernel
theorem dL_law_568 : decode cL_law 568 = .ok (.iconst 2, 1) := by decide +kernel
theorem dL_law_569 : decode cL_law 569 = .ok (.iadd, 1) := by decide +kernel
theorem dL_law_570 : decode cL_law 570 = .ok (.iaload, 1) := by decide +kernel
theorem dL_law_571 : decode cL_law 571 = .ok (.ifCond .eq 7, 3) := by decide +kernel
theorem dL_law_574 : decode cL_law 574 = .ok (.iconst 1, 1) := by decide +kernel
theorem dL_law_575 : decode cL_law 575 = .ok (.goto 4, 3) := by decide +kernel
theorem dL_law_578 : decode cL_law 578 = .ok (.iconst 0, 1) := by decide +kernel
theorem dL_law_579 : decode cL_law 579 = .ok (.invokevirtual 86, 3) := by decide +kernel
theorem dL_law_582 : decode cL_law 582 = .ok (.dstore 7, 2) := by decide +kernel
theorem dL_law_584 : decode cL_law 584 = .ok (.aload_n 2, 1) := by decide +kernel
theorem dL_law_585 : decode cL_law 585 = .ok (.invokevirtual 57, 3) := by decide +kernel
theorem dL_law_588 : decode cL_law 588 = .ok (.iload 6, 2) := by decide +kernel
theorem dL_law_590 : decode cL_law 590 = .ok (.if_icmp .eq 5, 3) := by decide +kernel
theorem dL_law_593 : decode cL_law 593 = .ok (.iconst 0, 1) := by decide +kernel
theorem dL_law_594 : decode cL_law 594 = .ok (.ireturn, 1) := by decide +kernel
theorem dL_law_595 : decode cL_law 595 = .ok (.iload 6, 2) := by decide +kernel
theorem dL_law_597 : decode cL_law 597 = .ok (.ifCond .ne 35, 3) := by decide +kernel
theorem dL_law_600 : decode cL_law 600 = .ok (.aload 4, 2) := by decide +kernel
theorem dL_law_602 : decode cL_law 602 = .ok (.iconst 0, 1) := by decide +kernel
theorem dL_law_603 : decode cL_law 603 = .ok (.daload, 1) := by decide +kernel
theorem dL_law_604 : decode cL_law 604 = .ok (.dload 7, 2) := by decide +kernel
theorem dL_law_606 : decode cL_law 606 = .ok (.dcmp .l, 1) := by decide +kernel
theorem dL_law_607 : decode cL_law 607 = .ok (.ifCond .eq 25, 3) := by decide +kernel
theorem dL_law_610 : decode cL_law 610 = .ok (.aload 4, 2) := by decide +kernel
theorem dL_law_612 : decode cL_law 612 = .ok (.iconst 0, 1) := by decide +kernel
theorem dL_law_613 : decode cL_law 613 = .ok (.daload, 1) := by decide +kernel
theorem dL_law_614 : decode cL_law 614 = .ok (.aload 4, 2) := by decide +kernel
theorem dL_law_616 : decode cL_law 616 = .ok (.iconst 0, 1) := by decide +kernel
theorem dL_law_617 : decode cL_law 617 = .ok (.daload, 1) := by decide +kernel
theorem dL_law_618 : decode cL_law 618 = .ok (.dcmp .l, 1) := by decide +kernel
theorem dL_law_619 : decode cL_law 619 = .ok (.ifCond .eq 11, 3) := by decide +kernel
theorem dL_law_622 : decode cL_law 622 = .ok (.dload 7, 2) := by decide +kernel
theorem dL_law_624 : decode cL_law 624 = .ok (.dload 7, 2) := by decide +kernel
theorem dL_law_626 : decode cL_law 626 = .ok (.dcmp .l, 1) := by decide +kernel
theorem dL_law_627 : decode cL_law 627 = .ok (.ifCond .ne 5, 3) := by decide +kernel
theorem dL_law_630 : decode cL_law 630 = .ok (.iconst 0, 1) := by decide +kernel
theorem dL_law_631 : decode cL_law 631 = .ok (.ireturn, 1) := by decide +kernel
theorem dL_law_632 : decode cL_law 632 = .ok (.goto 169, 3) := by decide +kernel
theorem dL_law_635 : decode cL_law 635 = .ok (.aload_n 1, 1) := by decide +kernel
theorem dL_law_636 : decode cL_law 636 = .ok (.aload_n 0, 1) := by decide +kernel
theorem dL_law_637 : decode cL_law 637 = .ok (.iload 5, 2) := by decide +kernel
theorem dL_law_639 : decode cL_law 639 = .ok (.iconst 1, 1) := by decide +kernel
theorem dL_law_640 : decode cL_law 640 = .ok (.iadd, 1) := by decide +kernel
theorem dL_law_641 : decode cL_law 641 = .ok (.iaload, 1) := by decide +kernel
theorem dL_law_642 : decode cL_law 642 = .ok (.ifCond .eq 7, 3) := by decide +kernel
theorem dL_law_645 : decode cL_law 645 = .ok (.iconst 1, 1) := by decide +kernel
theorem dL_law_646 : decode cL_law 646 = .ok (.goto 4, 3) := by decide +kernel
theorem dL_law_649 : decode cL_law 649 = .ok (.iconst 0, 1) := by decide +kernel
theorem dL_law_650 : decode cL_law 650 = .ok (.invokevirtual 87, 3) := by decide +kernel
theorem dL_law_653 : decode cL_law 653 = .ok (.dstore 6, 2) := by decide +kernel
theorem dL_law_655 : decode cL_law 655 = .ok (.aload_n 2, 1) := by decide +kernel
theorem dL_law_656 : decode cL_law 656 = .ok (.aload_n 0, 1) := by decide +kernel
theorem dL_law_657 : decode cL_law 657 = .ok (.iload 5, 2) := by decide +kernel
theorem dL_law_659 : decode cL_law 659 = .ok (.iconst 1, 1) := by decide +kernel
theorem dL_law_660 : decode cL_law 660 = .ok (.iadd, 1) := by decide +kernel
theorem dL_law_661 : decode cL_law 661 = .ok (.iaload, 1) := by decide +kernel
theorem dL_law_662 : decode cL_law 662 = .ok (.ifCond .eq 7, 3) := by decide +kernel
theorem dL_law_665 : decode cL_law 665 = .ok (.iconst 1, 1) := by decide +kernel
theorem dL_law_666 : decode cL_law 666 = .ok (.goto 4, 3) := by decide +kernel
theorem dL_law_669 : decode cL_law 669 = .ok (.iconst 0, 1) := by decide +kernel
theorem dL_law_670 : decode cL_law 670 = .ok (.invokevirtual 91, 3) := by decide +kernel
theorem dL_law_673 : decode cL_law 673 = .ok (.dstore 8, 2) := by decide +kernel
theorem dL_law_675 : decode cL_law 675 = .ok (.dload 6, 2) := by decide +kernel
theorem dL_law_677 : decode cL_law 677 = .ok (.dload 8, 2) := by decide +kernel
theorem dL_law_679 : decode cL_law 679 = .ok (.dcmp .l, 1) := by decide +kernel
theorem dL_law_680 : decode cL_law 680 = .ok (.ifCond .eq 21, 3) := by decide +kernel
theorem dL_law_683 : decode cL_law 683 = .ok (.dload 6, 2) := by decide +kernel
theorem dL_law_685 : decode cL_law 685 = .ok (.dload 6, 2) := by decide +kernel
theorem dL_law_687 : decode cL_law 687 = .ok (.dcmp .l, 1) := by decide +kernel
theorem dL_law_688 : decode cL_law 688 = .ok (.ifCond .eq 11, 3) := by decide +kernel
theorem dL_law_691 : decode cL_law 691 = .ok (.dload 8, 2) := by decide +kernel
theorem dL_law_693 : decode cL_law 693 = .ok (.dload 8, 2) := by decide +kernel
theorem dL_law_695 : decode cL_law 695 = .ok (.dcmp .l, 1) := by decide +kernel
theorem dL_law_696 : decode cL_law 696 = .ok (.ifCond .ne 5, 3) := by decide +kernel
theorem dL_law_699 : decode cL_law 699 = .ok (.iconst 0, 1) := by decide +kernel
theorem dL_law_700 : decode cL_law 700 = .ok (.ireturn, 1) := by decide +kernel
theorem dL_law_701 : decode cL_law 701 = .ok (.goto 100, 3) := by decide +kernel
theorem dL_law_704 : decode cL_law 704 = .ok (.aload_n 1, 1) := by decide +kernel
theorem dL_law_705 : decode cL_law 705 = .ok (.invokevirtual 92, 3) := by decide +kernel
theorem dL_law_708 : decode cL_law 708 = .ok (.dstore 6, 2) := by decide +kernel
theorem dL_law_710 : decode cL_law 710 = .ok (.aload_n 2, 1) := by decide +kernel
theorem dL_law_711 : decode cL_law 711 = .ok (.invokevirtual 96, 3) := by decide +kernel
theorem dL_law_714 : decode cL_law 714 = .ok (.dstore 8, 2) := by decide +kernel
theorem dL_law_716 : decode cL_law 716 = .ok (.dload 6, 2) := by decide +kernel
theorem dL_law_718 : decode cL_law 718 = .ok (.dload 8, 2) := by decide +kernel
theorem dL_law_720 : decode cL_law 720 = .ok (.dcmp .l, 1) := by decide +kernel
theorem dL_law_721 : decode cL_law 721 = .ok (.ifCond .eq 21, 3) := by decide +kernel
theorem dL_law_724 : decode cL_law 724 = .ok (.dload 6, 2) := by decide +kernel
theorem dL_law_726 : decode cL_law 726 = .ok (.dload 6, 2) := by decide +kernel
theorem dL_law_728 : decode cL_law 728 = .ok (.dcmp .l, 1) := by decide +kernel
theorem dL_law_729 : decode cL_law 729 = .ok (.ifCond .eq 11, 3) := by decide +kernel
theorem dL_law_732 : decode cL_law 732 = .ok (.dload 8, 2) := by decide +kernel
theorem dL_law_734 : decode cL_law 734 = .ok (.dload 8, 2) := by decide +kernel
theorem dL_law_736 : decode cL_law 736 = .ok (.dcmp .l, 1) := by decide +kernel
theorem dL_law_737 : decode cL_law 737 = .ok (.ifCond .ne 5, 3) := by decide +kernel
theorem dL_law_740 : decode cL_law 740 = .ok (.iconst 0, 1) := by decide +kernel
theorem dL_law_741 : decode cL_law 741 = .ok (.ireturn, 1) := by decide +kernel
theorem dL_law_742 : decode cL_law 742 = .ok (.goto 59, 3) := by decide +kernel
theorem dL_law_745 : decode cL_law 745 = .ok (.aload_n 1, 1) := by decide +kernel
theorem dL_law_746 : decode cL_law 746 = .ok (.aload_n 0, 1) := by decide +kernel
theorem dL_law_747 : decode cL_law 747 = .ok (.iload 5, 2) := by decide +kernel
theorem dL_law_749 : decode cL_law 749 = .ok (.iconst 1, 1) := by decide +kernel
theorem dL_law_750 : decode cL_law 750 = .ok (.iadd, 1) := by decide +kernel
theorem dL_law_751 : decode cL_law 751 = .ok (.iaload, 1) := by decide +kernel
theorem dL_law_752 : decode cL_law 752 = .ok (.aload_n 3, 1) := by decide +kernel
theorem dL_law_753 : decode cL_law 753 = .ok (.invokestatic 97, 3) := by decide +kernel
theorem dL_law_756 : decode cL_law 756 = .ok (.istore 6, 2) := by decide +kernel
theorem dL_law_758 : decode cL_law 758 = .ok (.aload_n 2, 1) := by decide +kernel
theorem dL_law_759 : decode cL_law 759 = .ok (.aload_n 0, 1) := by decide +kernel
theorem dL_law_760 : decode cL_law 760 = .ok (.iload 5, 2) := by decide +kernel
theorem dL_law_762 : decode cL_law 762 = .ok (.iconst 1, 1) := by decide +kernel
theorem dL_law_763 : decode cL_law 763 = .ok (.iadd, 1) := by decide +kernel
theorem dL_law_764 : decode cL_law 764 = .ok (.iaload, 1) := by decide +kernel
theorem dL_law_765 : decode cL_law 765 = .ok (.invokevirtual 100, 3) := by decide +kernel
theorem dL_law_768 : decode cL_law 768 = .ok (.istore 7, 2) := by decide +kernel
theorem dL_law_770 : decode cL_law 770 = .ok (.aload_n 2, 1) := by decide +kernel
theorem dL_law_771 : decode cL_law 771 = .ok (.invokevirtual 57, 3) := by decide +kernel
theorem dL_law_774 : decode cL_law 774 = .ok (.iload 6, 2) := by decide +kernel
theorem dL_law_776 : decode cL_law 776 = .ok (.if_icmp .eq 5, 3) := by decide +kernel
theorem dL_law_779 : decode cL_law 779 = .ok (.iconst 0, 1) := by decide +kernel
theorem dL_law_780 : decode cL_law 780 = .ok (.ireturn, 1) := by decide +kernel
theorem dL_law_781 : decode cL_law 781 = .ok (.iload 6, 2) := by decide +kernel
theorem dL_law_783 : decode cL_law 783 = .ok (.ifCond .ne 15, 3) := by decide +kernel
theorem dL_law_786 : decode cL_law 786 = .ok (.aload_n 3, 1) := by decide +kernel
theorem dL_law_787 : decode cL_law 787 = .ok (.iconst 0, 1) := by decide +kernel
theorem dL_law_788 : decode cL_law 788 = .ok (.laload, 1) := by decide +kernel
theorem dL_law_789 : decode cL_law 789 = .ok (.iload 7, 2) := by decide +kernel
theorem dL_law_791 : decode cL_law 791 = .ok (.i2l, 1) := by decide +kernel
theorem dL_law_792 : decode cL_law 792 = .ok (.lcmp, 1) := by decide +kernel
theorem dL_law_793 : decode cL_law 793 = .ok (.ifCond .eq 5, 3) := by decide +kernel
theorem dL_law_796 : decode cL_law 796 = .ok (.iconst 0, 1) := by decide +kernel
theorem dL_law_797 : decode cL_law 797 = .ok (.ireturn, 1) := by decide +kernel
theorem dL_law_798 : decode cL_law 798 = .ok (.goto 3, 3) := by decide +kernel
theorem dL_law_801 : decode cL_law 801 = .ok (.iinc 5 5, 3) := by decide +kernel
theorem dL_law_804 : decode cL_law 804 = .ok (.goto (-776), 3) := by decide +kernel
theorem dL_law_807 : decode cL_law 807 = .ok (.iconst 1, 1) := by decide +kernel
theorem dL_law_808 : decode cL_law 808 = .ok (.ireturn, 1) := by decide +kernel
abbrev vwCl : List vw_C := [(RX0, TX0, 6), (RX1, TX1, 3), (RX2, TX2, 4), (RX3, TX3, 11), (RX4, TX4, 20)]

theorem dL_law_196 : decode cL_law 196 = .ok (.aload_n 1, 1) := by decide +kernel
theorem dL_law_197 : decode cL_law 197 = .ok (.aload_n 0, 1) := by decide +kernel
theorem dL_law_198 : decode cL_law 198 = .ok (.iload 4, 2) := by decide +kernel
theorem dL_law_200 : decode cL_law 200 = .ok (.iconst 1, 1) := by decide +kernel
theorem dL_law_201 : decode cL_law 201 = .ok (.iadd, 1) := by decide +kernel
theorem dL_law_202 : decode cL_law 202 = .ok (.iaload, 1) := by decide +kernel
theorem dL_law_203 : decode cL_law 203 = .ok (.aload_n 0, 1) := by decide +kernel
theorem dL_law_204 : decode cL_law 204 = .ok (.iload 4, 2) := by decide +kernel
theorem dL_law_206 : decode cL_law 206 = .ok (.iconst 2, 1) := by decide +kernel
theorem dL_law_207 : decode cL_law 207 = .ok (.iadd, 1) := by decide +kernel
theorem dL_law_208 : decode cL_law 208 = .ok (.iaload, 1) := by decide +kernel
theorem dL_law_209 : decode cL_law 209 = .ok (.aload_n 0, 1) := by decide +kernel
theorem dL_law_210 : decode cL_law 210 = .ok (.iload 4, 2) := by decide +kernel
theorem dL_law_212 : decode cL_law 212 = .ok (.iconst 3, 1) := by decide +kernel
theorem dL_law_213 : decode cL_law 213 = .ok (.iadd, 1) := by decide +kernel
theorem dL_law_214 : decode cL_law 214 = .ok (.iaload, 1) := by decide +kernel
theorem dL_law_215 : decode cL_law 215 = .ok (.aload_n 3, 1) := by decide +kernel
theorem dL_law_216 : decode cL_law 216 = .ok (.invokestatic 101, 3) := by decide +kernel
theorem dL_law_219 : decode cL_law 219 = .ok (.istore 5, 2) := by decide +kernel
theorem dL_law_221 : decode cL_law 221 = .ok (.aload_n 2, 1) := by decide +kernel
theorem dL_law_222 : decode cL_law 222 = .ok (.aload_n 0, 1) := by decide +kernel
theorem dL_law_223 : decode cL_law 223 = .ok (.iload 4, 2) := by decide +kernel
theorem dL_law_225 : decode cL_law 225 = .ok (.iconst 1, 1) := by decide +kernel
theorem dL_law_226 : decode cL_law 226 = .ok (.iadd, 1) := by decide +kernel
theorem dL_law_227 : decode cL_law 227 = .ok (.iaload, 1) := by decide +kernel
theorem dL_law_228 : decode cL_law 228 = .ok (.aload_n 0, 1) := by decide +kernel
theorem dL_law_229 : decode cL_law 229 = .ok (.iload 4, 2) := by decide +kernel
theorem dL_law_231 : decode cL_law 231 = .ok (.iconst 2, 1) := by decide +kernel
theorem dL_law_232 : decode cL_law 232 = .ok (.iadd, 1) := by decide +kernel
theorem dL_law_233 : decode cL_law 233 = .ok (.iaload, 1) := by decide +kernel
theorem dL_law_234 : decode cL_law 234 = .ok (.aload_n 0, 1) := by decide +kernel
theorem dL_law_235 : decode cL_law 235 = .ok (.iload 4, 2) := by decide +kernel
theorem dL_law_237 : decode cL_law 237 = .ok (.iconst 3, 1) := by decide +kernel
theorem dL_law_238 : decode cL_law 238 = .ok (.iadd, 1) := by decide +kernel
theorem dL_law_239 : decode cL_law 239 = .ok (.iaload, 1) := by decide +kernel
theorem dL_law_240 : decode cL_law 240 = .ok (.invokevirtual 104, 3) := by decide +kernel
theorem dL_law_243 : decode cL_law 243 = .ok (.istore 6, 2) := by decide +kernel
theorem dL_law_245 : decode cL_law 245 = .ok (.aload_n 2, 1) := by decide +kernel
theorem dL_law_246 : decode cL_law 246 = .ok (.invokevirtual 98, 3) := by decide +kernel
theorem dL_law_249 : decode cL_law 249 = .ok (.iload 5, 2) := by decide +kernel
theorem dL_law_251 : decode cL_law 251 = .ok (.if_icmp .eq 5, 3) := by decide +kernel
theorem dL_law_256 : decode cL_law 256 = .ok (.iload 5, 2) := by decide +kernel
theorem dL_law_258 : decode cL_law 258 = .ok (.ifCond .ne 15, 3) := by decide +kernel
theorem dL_law_273 : decode cL_law 273 = .ok (.goto 1540, 3) := by decide +kernel
theorem dL_law_276 : decode cL_law 276 = .ok (.aload_n 1, 1) := by decide +kernel
theorem dL_law_277 : decode cL_law 277 = .ok (.aload_n 0, 1) := by decide +kernel
theorem dL_law_278 : decode cL_law 278 = .ok (.iload 4, 2) := by decide +kernel
theorem dL_law_280 : decode cL_law 280 = .ok (.iconst 1, 1) := by decide +kernel
theorem dL_law_281 : decode cL_law 281 = .ok (.iadd, 1) := by decide +kernel
theorem dL_law_282 : decode cL_law 282 = .ok (.iaload, 1) := by decide +kernel
theorem dL_law_283 : decode cL_law 283 = .ok (.aload_n 0, 1) := by decide +kernel
theorem dL_law_284 : decode cL_law 284 = .ok (.iload 4, 2) := by decide +kernel
theorem dL_law_286 : decode cL_law 286 = .ok (.iconst 2, 1) := by decide +kernel
theorem dL_law_287 : decode cL_law 287 = .ok (.iadd, 1) := by decide +kernel
theorem dL_law_288 : decode cL_law 288 = .ok (.iaload, 1) := by decide +kernel
theorem dL_law_289 : decode cL_law 289 = .ok (.aload_n 0, 1) := by decide +kernel
theorem dL_law_290 : decode cL_law 290 = .ok (.iload 4, 2) := by decide +kernel
theorem dL_law_292 : decode cL_law 292 = .ok (.iconst 3, 1) := by decide +kernel
theorem dL_law_293 : decode cL_law 293 = .ok (.iadd, 1) := by decide +kernel
theorem dL_law_294 : decode cL_law 294 = .ok (.iaload, 1) := by decide +kernel
theorem dL_law_295 : decode cL_law 295 = .ok (.aload_n 3, 1) := by decide +kernel
theorem dL_law_296 : decode cL_law 296 = .ok (.invokestatic 105, 3) := by decide +kernel
theorem dL_law_299 : decode cL_law 299 = .ok (.istore 5, 2) := by decide +kernel
theorem dL_law_301 : decode cL_law 301 = .ok (.aload_n 2, 1) := by decide +kernel
theorem dL_law_302 : decode cL_law 302 = .ok (.aload_n 0, 1) := by decide +kernel
theorem dL_law_303 : decode cL_law 303 = .ok (.iload 4, 2) := by decide +kernel
theorem dL_law_305 : decode cL_law 305 = .ok (.iconst 1, 1) := by decide +kernel
theorem dL_law_306 : decode cL_law 306 = .ok (.iadd, 1) := by decide +kernel
theorem dL_law_307 : decode cL_law 307 = .ok (.iaload, 1) := by decide +kernel
theorem dL_law_308 : decode cL_law 308 = .ok (.aload_n 0, 1) := by decide +kernel
theorem dL_law_309 : decode cL_law 309 = .ok (.iload 4, 2) := by decide +kernel
theorem dL_law_311 : decode cL_law 311 = .ok (.iconst 2, 1) := by decide +kernel
theorem dL_law_312 : decode cL_law 312 = .ok (.iadd, 1) := by decide +kernel
theorem dL_law_313 : decode cL_law 313 = .ok (.iaload, 1) := by decide +kernel
theorem dL_law_314 : decode cL_law 314 = .ok (.aload_n 0, 1) := by decide +kernel
theorem dL_law_315 : decode cL_law 315 = .ok (.iload 4, 2) := by decide +kernel
theorem dL_law_317 : decode cL_law 317 = .ok (.iconst 3, 1) := by decide +kernel
theorem dL_law_318 : decode cL_law 318 = .ok (.iadd, 1) := by decide +kernel
theorem dL_law_319 : decode cL_law 319 = .ok (.iaload, 1) := by decide +kernel
theorem dL_law_320 : decode cL_law 320 = .ok (.invokevirtual 107, 3) := by decide +kernel
theorem dL_law_323 : decode cL_law 323 = .ok (.istore 6, 2) := by decide +kernel
theorem dL_law_325 : decode cL_law 325 = .ok (.aload_n 2, 1) := by decide +kernel
theorem dL_law_326 : decode cL_law 326 = .ok (.invokevirtual 98, 3) := by decide +kernel
theorem dL_law_329 : decode cL_law 329 = .ok (.iload 5, 2) := by decide +kernel
theorem dL_law_331 : decode cL_law 331 = .ok (.if_icmp .eq 5, 3) := by decide +kernel
theorem dL_law_336 : decode cL_law 336 = .ok (.iload 5, 2) := by decide +kernel
theorem dL_law_338 : decode cL_law 338 = .ok (.ifCond .ne 15, 3) := by decide +kernel
theorem dL_law_353 : decode cL_law 353 = .ok (.goto 1460, 3) := by decide +kernel
theorem dL_law_356 : decode cL_law 356 = .ok (.aload_n 1, 1) := by decide +kernel
theorem dL_law_357 : decode cL_law 357 = .ok (.aload_n 0, 1) := by decide +kernel
theorem dL_law_358 : decode cL_law 358 = .ok (.iload 4, 2) := by decide +kernel
theorem dL_law_360 : decode cL_law 360 = .ok (.iconst 1, 1) := by decide +kernel
theorem dL_law_361 : decode cL_law 361 = .ok (.iadd, 1) := by decide +kernel
theorem dL_law_362 : decode cL_law 362 = .ok (.iaload, 1) := by decide +kernel
theorem dL_law_363 : decode cL_law 363 = .ok (.aload_n 0, 1) := by decide +kernel
theorem dL_law_364 : decode cL_law 364 = .ok (.iload 4, 2) := by decide +kernel
theorem dL_law_366 : decode cL_law 366 = .ok (.iconst 2, 1) := by decide +kernel
theorem dL_law_367 : decode cL_law 367 = .ok (.iadd, 1) := by decide +kernel
theorem dL_law_368 : decode cL_law 368 = .ok (.iaload, 1) := by decide +kernel
theorem dL_law_369 : decode cL_law 369 = .ok (.aload_n 0, 1) := by decide +kernel
theorem dL_law_370 : decode cL_law 370 = .ok (.iload 4, 2) := by decide +kernel
theorem dL_law_372 : decode cL_law 372 = .ok (.iconst 3, 1) := by decide +kernel
theorem dL_law_373 : decode cL_law 373 = .ok (.iadd, 1) := by decide +kernel
theorem dL_law_374 : decode cL_law 374 = .ok (.iaload, 1) := by decide +kernel
theorem dL_law_375 : decode cL_law 375 = .ok (.aload_n 3, 1) := by decide +kernel
theorem dL_law_376 : decode cL_law 376 = .ok (.invokestatic 108, 3) := by decide +kernel
theorem dL_law_379 : decode cL_law 379 = .ok (.istore 5, 2) := by decide +kernel
theorem dL_law_381 : decode cL_law 381 = .ok (.aload_n 2, 1) := by decide +kernel
theorem dL_law_382 : decode cL_law 382 = .ok (.aload_n 0, 1) := by decide +kernel
theorem dL_law_383 : decode cL_law 383 = .ok (.iload 4, 2) := by decide +kernel
theorem dL_law_385 : decode cL_law 385 = .ok (.iconst 1, 1) := by decide +kernel
theorem dL_law_386 : decode cL_law 386 = .ok (.iadd, 1) := by decide +kernel
theorem dL_law_387 : decode cL_law 387 = .ok (.iaload, 1) := by decide +kernel
theorem dL_law_388 : decode cL_law 388 = .ok (.aload_n 0, 1) := by decide +kernel
theorem dL_law_389 : decode cL_law 389 = .ok (.iload 4, 2) := by decide +kernel
theorem dL_law_391 : decode cL_law 391 = .ok (.iconst 2, 1) := by decide +kernel
theorem dL_law_392 : decode cL_law 392 = .ok (.iadd, 1) := by decide +kernel
theorem dL_law_393 : decode cL_law 393 = .ok (.iaload, 1) := by decide +kernel
theorem dL_law_394 : decode cL_law 394 = .ok (.aload_n 0, 1) := by decide +kernel
theorem dL_law_395 : decode cL_law 395 = .ok (.iload 4, 2) := by decide +kernel
theorem dL_law_397 : decode cL_law 397 = .ok (.iconst 3, 1) := by decide +kernel
theorem dL_law_398 : decode cL_law 398 = .ok (.iadd, 1) := by decide +kernel
theorem dL_law_399 : decode cL_law 399 = .ok (.iaload, 1) := by decide +kernel
theorem dL_law_400 : decode cL_law 400 = .ok (.invokevirtual 110, 3) := by decide +kernel
theorem dL_law_403 : decode cL_law 403 = .ok (.istore 6, 2) := by decide +kernel
theorem dL_law_405 : decode cL_law 405 = .ok (.aload_n 2, 1) := by decide +kernel
theorem dL_law_406 : decode cL_law 406 = .ok (.invokevirtual 98, 3) := by decide +kernel
theorem dL_law_409 : decode cL_law 409 = .ok (.iload 5, 2) := by decide +kernel
theorem dL_law_411 : decode cL_law 411 = .ok (.if_icmp .eq 5, 3) := by decide +kernel
theorem dL_law_416 : decode cL_law 416 = .ok (.iload 5, 2) := by decide +kernel
theorem dL_law_418 : decode cL_law 418 = .ok (.ifCond .ne 22, 3) := by decide +kernel
theorem dL_law_440 : decode cL_law 440 = .ok (.goto 1373, 3) := by decide +kernel
theorem dL_law_443 : decode cL_law 443 = .ok (.aload_n 1, 1) := by decide +kernel
theorem dL_law_444 : decode cL_law 444 = .ok (.aload_n 0, 1) := by decide +kernel
theorem dL_law_445 : decode cL_law 445 = .ok (.iload 4, 2) := by decide +kernel
theorem dL_law_447 : decode cL_law 447 = .ok (.iconst 1, 1) := by decide +kernel
theorem dL_law_448 : decode cL_law 448 = .ok (.iadd, 1) := by decide +kernel
theorem dL_law_449 : decode cL_law 449 = .ok (.iaload, 1) := by decide +kernel
theorem dL_law_450 : decode cL_law 450 = .ok (.aload_n 0, 1) := by decide +kernel
theorem dL_law_451 : decode cL_law 451 = .ok (.iload 4, 2) := by decide +kernel
theorem dL_law_453 : decode cL_law 453 = .ok (.iconst 2, 1) := by decide +kernel
theorem dL_law_454 : decode cL_law 454 = .ok (.iadd, 1) := by decide +kernel
theorem dL_law_455 : decode cL_law 455 = .ok (.iaload, 1) := by decide +kernel
theorem dL_law_456 : decode cL_law 456 = .ok (.aload_n 0, 1) := by decide +kernel
theorem dL_law_457 : decode cL_law 457 = .ok (.iload 4, 2) := by decide +kernel
theorem dL_law_459 : decode cL_law 459 = .ok (.iconst 3, 1) := by decide +kernel
theorem dL_law_460 : decode cL_law 460 = .ok (.iadd, 1) := by decide +kernel
theorem dL_law_461 : decode cL_law 461 = .ok (.iaload, 1) := by decide +kernel
theorem dL_law_462 : decode cL_law 462 = .ok (.aload_n 0, 1) := by decide +kernel
theorem dL_law_463 : decode cL_law 463 = .ok (.iload 4, 2) := by decide +kernel
theorem dL_law_465 : decode cL_law 465 = .ok (.iconst 4, 1) := by decide +kernel
theorem dL_law_466 : decode cL_law 466 = .ok (.iadd, 1) := by decide +kernel
theorem dL_law_467 : decode cL_law 467 = .ok (.iaload, 1) := by decide +kernel
theorem dL_law_468 : decode cL_law 468 = .ok (.aload_n 3, 1) := by decide +kernel
theorem dL_law_469 : decode cL_law 469 = .ok (.invokestatic 111, 3) := by decide +kernel
theorem dL_law_472 : decode cL_law 472 = .ok (.istore 5, 2) := by decide +kernel
theorem dL_law_474 : decode cL_law 474 = .ok (.aload_n 2, 1) := by decide +kernel
theorem dL_law_475 : decode cL_law 475 = .ok (.aload_n 0, 1) := by decide +kernel
theorem dL_law_476 : decode cL_law 476 = .ok (.iload 4, 2) := by decide +kernel
theorem dL_law_478 : decode cL_law 478 = .ok (.iconst 1, 1) := by decide +kernel
theorem dL_law_479 : decode cL_law 479 = .ok (.iadd, 1) := by decide +kernel
theorem dL_law_480 : decode cL_law 480 = .ok (.iaload, 1) := by decide +kernel
theorem dL_law_481 : decode cL_law 481 = .ok (.aload_n 0, 1) := by decide +kernel
theorem dL_law_482 : decode cL_law 482 = .ok (.iload 4, 2) := by decide +kernel
theorem dL_law_484 : decode cL_law 484 = .ok (.iconst 2, 1) := by decide +kernel
theorem dL_law_485 : decode cL_law 485 = .ok (.iadd, 1) := by decide +kernel
theorem dL_law_486 : decode cL_law 486 = .ok (.iaload, 1) := by decide +kernel
theorem dL_law_487 : decode cL_law 487 = .ok (.aload_n 0, 1) := by decide +kernel
theorem dL_law_488 : decode cL_law 488 = .ok (.iload 4, 2) := by decide +kernel
theorem dL_law_490 : decode cL_law 490 = .ok (.iconst 3, 1) := by decide +kernel
theorem dL_law_491 : decode cL_law 491 = .ok (.iadd, 1) := by decide +kernel
theorem dL_law_492 : decode cL_law 492 = .ok (.iaload, 1) := by decide +kernel
theorem dL_law_493 : decode cL_law 493 = .ok (.aload_n 0, 1) := by decide +kernel
theorem dL_law_494 : decode cL_law 494 = .ok (.iload 4, 2) := by decide +kernel
theorem dL_law_496 : decode cL_law 496 = .ok (.iconst 4, 1) := by decide +kernel
theorem dL_law_497 : decode cL_law 497 = .ok (.iadd, 1) := by decide +kernel
theorem dL_law_498 : decode cL_law 498 = .ok (.iaload, 1) := by decide +kernel
theorem dL_law_499 : decode cL_law 499 = .ok (.invokevirtual 114, 3) := by decide +kernel
theorem dL_law_502 : decode cL_law 502 = .ok (.istore 6, 2) := by decide +kernel
theorem dL_law_504 : decode cL_law 504 = .ok (.aload_n 2, 1) := by decide +kernel
theorem dL_law_505 : decode cL_law 505 = .ok (.invokevirtual 98, 3) := by decide +kernel
theorem dL_law_508 : decode cL_law 508 = .ok (.iload 5, 2) := by decide +kernel
theorem dL_law_510 : decode cL_law 510 = .ok (.if_icmp .eq 5, 3) := by decide +kernel
theorem dL_law_515 : decode cL_law 515 = .ok (.iload 5, 2) := by decide +kernel
theorem dL_law_517 : decode cL_law 517 = .ok (.ifCond .ne 15, 3) := by decide +kernel
theorem dL_law_532 : decode cL_law 532 = .ok (.goto 1281, 3) := by decide +kernel
theorem dL_law_535 : decode cL_law 535 = .ok (.aload_n 1, 1) := by decide +kernel
theorem dL_law_536 : decode cL_law 536 = .ok (.aload_n 0, 1) := by decide +kernel
theorem dL_law_537 : decode cL_law 537 = .ok (.iload 4, 2) := by decide +kernel
theorem dL_law_539 : decode cL_law 539 = .ok (.iconst 1, 1) := by decide +kernel
theorem dL_law_540 : decode cL_law 540 = .ok (.iadd, 1) := by decide +kernel
theorem dL_law_541 : decode cL_law 541 = .ok (.iaload, 1) := by decide +kernel
theorem dL_law_542 : decode cL_law 542 = .ok (.aload_n 0, 1) := by decide +kernel
theorem dL_law_543 : decode cL_law 543 = .ok (.iload 4, 2) := by decide +kernel
theorem dL_law_545 : decode cL_law 545 = .ok (.iconst 2, 1) := by decide +kernel
theorem dL_law_546 : decode cL_law 546 = .ok (.iadd, 1) := by decide +kernel
theorem dL_law_547 : decode cL_law 547 = .ok (.iaload, 1) := by decide +kernel
theorem dL_law_548 : decode cL_law 548 = .ok (.aload_n 3, 1) := by decide +kernel
theorem dL_law_549 : decode cL_law 549 = .ok (.invokestatic 115, 3) := by decide +kernel
theorem dL_law_552 : decode cL_law 552 = .ok (.istore 5, 2) := by decide +kernel
theorem dL_law_554 : decode cL_law 554 = .ok (.aload_n 2, 1) := by decide +kernel
theorem dL_law_555 : decode cL_law 555 = .ok (.aload_n 0, 1) := by decide +kernel
theorem dL_law_556 : decode cL_law 556 = .ok (.iload 4, 2) := by decide +kernel
theorem dL_law_558 : decode cL_law 558 = .ok (.iconst 1, 1) := by decide +kernel
theorem dL_law_559 : decode cL_law 559 = .ok (.iadd, 1) := by decide +kernel
theorem dL_law_560 : decode cL_law 560 = .ok (.iaload, 1) := by decide +kernel
theorem dL_law_561 : decode cL_law 561 = .ok (.aload_n 0, 1) := by decide +kernel
theorem dL_law_562 : decode cL_law 562 = .ok (.iload 4, 2) := by decide +kernel
theorem dL_law_564 : decode cL_law 564 = .ok (.iconst 2, 1) := by decide +kernel
theorem dL_law_565 : decode cL_law 565 = .ok (.iadd, 1) := by decide +kernel
theorem dL_law_566 : decode cL_law 566 = .ok (.iaload, 1) := by decide +kernel
theorem dL_law_567 : decode cL_law 567 = .ok (.invokevirtual 118, 3) := by decide +kernel
theorem dL_law_570 : decode cL_law 570 = .ok (.istore 6, 2) := by decide +kernel
theorem dL_law_572 : decode cL_law 572 = .ok (.aload_n 2, 1) := by decide +kernel
theorem dL_law_573 : decode cL_law 573 = .ok (.invokevirtual 98, 3) := by decide +kernel
theorem dL_law_576 : decode cL_law 576 = .ok (.iload 5, 2) := by decide +kernel
theorem dL_law_578 : decode cL_law 578 = .ok (.if_icmp .eq 5, 3) := by decide +kernel
theorem dL_law_583 : decode cL_law 583 = .ok (.iload 5, 2) := by decide +kernel
theorem dL_law_585 : decode cL_law 585 = .ok (.ifCond .ne 15, 3) := by decide +kernel
theorem dL_law_600 : decode cL_law 600 = .ok (.goto 1213, 3) := by decide +kernel
theorem dL_law_603 : decode cL_law 603 = .ok (.aload_n 1, 1) := by decide +kernel
theorem dL_law_604 : decode cL_law 604 = .ok (.aload_n 0, 1) := by decide +kernel
theorem dL_law_605 : decode cL_law 605 = .ok (.iload 4, 2) := by decide +kernel
theorem dL_law_607 : decode cL_law 607 = .ok (.iconst 1, 1) := by decide +kernel
theorem dL_law_608 : decode cL_law 608 = .ok (.iadd, 1) := by decide +kernel
theorem dL_law_609 : decode cL_law 609 = .ok (.iaload, 1) := by decide +kernel
theorem dL_law_610 : decode cL_law 610 = .ok (.aload_n 0, 1) := by decide +kernel
theorem dL_law_611 : decode cL_law 611 = .ok (.iload 4, 2) := by decide +kernel
theorem dL_law_613 : decode cL_law 613 = .ok (.iconst 2, 1) := by decide +kernel
theorem dL_law_614 : decode cL_law 614 = .ok (.iadd, 1) := by decide +kernel
theorem dL_law_615 : decode cL_law 615 = .ok (.iaload, 1) := by decide +kernel
theorem dL_law_616 : decode cL_law 616 = .ok (.aload_n 0, 1) := by decide +kernel
theorem dL_law_617 : decode cL_law 617 = .ok (.iload 4, 2) := by decide +kernel
theorem dL_law_619 : decode cL_law 619 = .ok (.iconst 3, 1) := by decide +kernel
theorem dL_law_620 : decode cL_law 620 = .ok (.iadd, 1) := by decide +kernel
theorem dL_law_621 : decode cL_law 621 = .ok (.iaload, 1) := by decide +kernel
theorem dL_law_622 : decode cL_law 622 = .ok (.aload_n 0, 1) := by decide +kernel
theorem dL_law_623 : decode cL_law 623 = .ok (.iload 4, 2) := by decide +kernel
theorem dL_law_625 : decode cL_law 625 = .ok (.iconst 4, 1) := by decide +kernel
theorem dL_law_626 : decode cL_law 626 = .ok (.iadd, 1) := by decide +kernel
theorem dL_law_627 : decode cL_law 627 = .ok (.iaload, 1) := by decide +kernel
theorem dL_law_628 : decode cL_law 628 = .ok (.aload_n 0, 1) := by decide +kernel
theorem dL_law_629 : decode cL_law 629 = .ok (.iload 4, 2) := by decide +kernel
theorem dL_law_631 : decode cL_law 631 = .ok (.iconst 5, 1) := by decide +kernel
theorem dL_law_632 : decode cL_law 632 = .ok (.iadd, 1) := by decide +kernel
theorem dL_law_633 : decode cL_law 633 = .ok (.iaload, 1) := by decide +kernel
theorem dL_law_634 : decode cL_law 634 = .ok (.aload_n 3, 1) := by decide +kernel
theorem dL_law_635 : decode cL_law 635 = .ok (.invokestatic 119, 3) := by decide +kernel
theorem dL_law_638 : decode cL_law 638 = .ok (.istore 5, 2) := by decide +kernel
theorem dL_law_640 : decode cL_law 640 = .ok (.aload_n 2, 1) := by decide +kernel
theorem dL_law_641 : decode cL_law 641 = .ok (.aload_n 0, 1) := by decide +kernel
theorem dL_law_642 : decode cL_law 642 = .ok (.iload 4, 2) := by decide +kernel
theorem dL_law_644 : decode cL_law 644 = .ok (.iconst 1, 1) := by decide +kernel
theorem dL_law_645 : decode cL_law 645 = .ok (.iadd, 1) := by decide +kernel
theorem dL_law_646 : decode cL_law 646 = .ok (.iaload, 1) := by decide +kernel
theorem dL_law_647 : decode cL_law 647 = .ok (.aload_n 0, 1) := by decide +kernel
theorem dL_law_648 : decode cL_law 648 = .ok (.iload 4, 2) := by decide +kernel
theorem dL_law_650 : decode cL_law 650 = .ok (.iconst 2, 1) := by decide +kernel
theorem dL_law_651 : decode cL_law 651 = .ok (.iadd, 1) := by decide +kernel
theorem dL_law_652 : decode cL_law 652 = .ok (.iaload, 1) := by decide +kernel
theorem dL_law_653 : decode cL_law 653 = .ok (.aload_n 0, 1) := by decide +kernel
theorem dL_law_654 : decode cL_law 654 = .ok (.iload 4, 2) := by decide +kernel
theorem dL_law_656 : decode cL_law 656 = .ok (.iconst 3, 1) := by decide +kernel
theorem dL_law_657 : decode cL_law 657 = .ok (.iadd, 1) := by decide +kernel
theorem dL_law_658 : decode cL_law 658 = .ok (.iaload, 1) := by decide +kernel
theorem dL_law_659 : decode cL_law 659 = .ok (.aload_n 0, 1) := by decide +kernel
theorem dL_law_660 : decode cL_law 660 = .ok (.iload 4, 2) := by decide +kernel
theorem dL_law_662 : decode cL_law 662 = .ok (.iconst 4, 1) := by decide +kernel
theorem dL_law_663 : decode cL_law 663 = .ok (.iadd, 1) := by decide +kernel
theorem dL_law_664 : decode cL_law 664 = .ok (.iaload, 1) := by decide +kernel
theorem dL_law_665 : decode cL_law 665 = .ok (.aload_n 0, 1) := by decide +kernel
theorem dL_law_666 : decode cL_law 666 = .ok (.iload 4, 2) := by decide +kernel
theorem dL_law_668 : decode cL_law 668 = .ok (.iconst 5, 1) := by decide +kernel
theorem dL_law_669 : decode cL_law 669 = .ok (.iadd, 1) := by decide +kernel
theorem dL_law_670 : decode cL_law 670 = .ok (.iaload, 1) := by decide +kernel
theorem dL_law_671 : decode cL_law 671 = .ok (.invokevirtual 122, 3) := by decide +kernel
theorem dL_law_674 : decode cL_law 674 = .ok (.istore 6, 2) := by decide +kernel
theorem dL_law_676 : decode cL_law 676 = .ok (.aload_n 2, 1) := by decide +kernel
theorem dL_law_677 : decode cL_law 677 = .ok (.invokevirtual 98, 3) := by decide +kernel
theorem dL_law_680 : decode cL_law 680 = .ok (.iload 5, 2) := by decide +kernel
theorem dL_law_682 : decode cL_law 682 = .ok (.if_icmp .eq 5, 3) := by decide +kernel
theorem dL_law_687 : decode cL_law 687 = .ok (.iload 5, 2) := by decide +kernel
theorem dL_law_689 : decode cL_law 689 = .ok (.ifCond .ne 15, 3) := by decide +kernel
theorem dL_law_704 : decode cL_law 704 = .ok (.goto 1109, 3) := by decide +kernel
theorem dL_law_707 : decode cL_law 707 = .ok (.aload_n 1, 1) := by decide +kernel
theorem dL_law_708 : decode cL_law 708 = .ok (.aload_n 0, 1) := by decide +kernel
theorem dL_law_709 : decode cL_law 709 = .ok (.iload 4, 2) := by decide +kernel
theorem dL_law_711 : decode cL_law 711 = .ok (.iconst 1, 1) := by decide +kernel
theorem dL_law_712 : decode cL_law 712 = .ok (.iadd, 1) := by decide +kernel
theorem dL_law_713 : decode cL_law 713 = .ok (.iaload, 1) := by decide +kernel
theorem dL_law_714 : decode cL_law 714 = .ok (.aload_n 0, 1) := by decide +kernel
theorem dL_law_715 : decode cL_law 715 = .ok (.iload 4, 2) := by decide +kernel
theorem dL_law_717 : decode cL_law 717 = .ok (.iconst 2, 1) := by decide +kernel
theorem dL_law_718 : decode cL_law 718 = .ok (.iadd, 1) := by decide +kernel
theorem dL_law_719 : decode cL_law 719 = .ok (.iaload, 1) := by decide +kernel
theorem dL_law_720 : decode cL_law 720 = .ok (.aload_n 3, 1) := by decide +kernel
theorem dL_law_721 : decode cL_law 721 = .ok (.invokestatic 123, 3) := by decide +kernel
theorem dL_law_724 : decode cL_law 724 = .ok (.istore 5, 2) := by decide +kernel
theorem dL_law_726 : decode cL_law 726 = .ok (.aload_n 2, 1) := by decide +kernel
theorem dL_law_727 : decode cL_law 727 = .ok (.aload_n 0, 1) := by decide +kernel
theorem dL_law_728 : decode cL_law 728 = .ok (.iload 4, 2) := by decide +kernel
theorem dL_law_730 : decode cL_law 730 = .ok (.iconst 1, 1) := by decide +kernel
theorem dL_law_731 : decode cL_law 731 = .ok (.iadd, 1) := by decide +kernel
theorem dL_law_732 : decode cL_law 732 = .ok (.iaload, 1) := by decide +kernel
theorem dL_law_733 : decode cL_law 733 = .ok (.aload_n 0, 1) := by decide +kernel
theorem dL_law_734 : decode cL_law 734 = .ok (.iload 4, 2) := by decide +kernel
theorem dL_law_736 : decode cL_law 736 = .ok (.iconst 2, 1) := by decide +kernel
theorem dL_law_737 : decode cL_law 737 = .ok (.iadd, 1) := by decide +kernel
theorem dL_law_738 : decode cL_law 738 = .ok (.iaload, 1) := by decide +kernel
theorem dL_law_739 : decode cL_law 739 = .ok (.invokevirtual 125, 3) := by decide +kernel
theorem dL_law_742 : decode cL_law 742 = .ok (.istore 6, 2) := by decide +kernel
theorem dL_law_744 : decode cL_law 744 = .ok (.aload_n 2, 1) := by decide +kernel
theorem dL_law_745 : decode cL_law 745 = .ok (.invokevirtual 98, 3) := by decide +kernel
theorem dL_law_748 : decode cL_law 748 = .ok (.iload 5, 2) := by decide +kernel
theorem dL_law_750 : decode cL_law 750 = .ok (.if_icmp .eq 5, 3) := by decide +kernel
theorem dL_law_755 : decode cL_law 755 = .ok (.iload 5, 2) := by decide +kernel
theorem dL_law_757 : decode cL_law 757 = .ok (.ifCond .ne 15, 3) := by decide +kernel
theorem dL_law_772 : decode cL_law 772 = .ok (.goto 1041, 3) := by decide +kernel
theorem dL_law_775 : decode cL_law 775 = .ok (.aload_n 1, 1) := by decide +kernel
theorem dL_law_776 : decode cL_law 776 = .ok (.aload_n 0, 1) := by decide +kernel
theorem dL_law_777 : decode cL_law 777 = .ok (.iload 4, 2) := by decide +kernel
theorem dL_law_779 : decode cL_law 779 = .ok (.iconst 1, 1) := by decide +kernel
theorem dL_law_780 : decode cL_law 780 = .ok (.iadd, 1) := by decide +kernel
theorem dL_law_781 : decode cL_law 781 = .ok (.iaload, 1) := by decide +kernel
theorem dL_law_782 : decode cL_law 782 = .ok (.aload_n 0, 1) := by decide +kernel
theorem dL_law_783 : decode cL_law 783 = .ok (.iload 4, 2) := by decide +kernel
theorem dL_law_785 : decode cL_law 785 = .ok (.iconst 2, 1) := by decide +kernel
theorem dL_law_786 : decode cL_law 786 = .ok (.iadd, 1) := by decide +kernel
theorem dL_law_787 : decode cL_law 787 = .ok (.iaload, 1) := by decide +kernel
theorem dL_law_788 : decode cL_law 788 = .ok (.aload_n 3, 1) := by decide +kernel
theorem dL_law_789 : decode cL_law 789 = .ok (.invokestatic 126, 3) := by decide +kernel
theorem dL_law_792 : decode cL_law 792 = .ok (.istore 5, 2) := by decide +kernel
theorem dL_law_794 : decode cL_law 794 = .ok (.aload_n 2, 1) := by decide +kernel
theorem dL_law_795 : decode cL_law 795 = .ok (.aload_n 0, 1) := by decide +kernel
theorem dL_law_796 : decode cL_law 796 = .ok (.iload 4, 2) := by decide +kernel
theorem dL_law_798 : decode cL_law 798 = .ok (.iconst 1, 1) := by decide +kernel
theorem dL_law_799 : decode cL_law 799 = .ok (.iadd, 1) := by decide +kernel
theorem dL_law_800 : decode cL_law 800 = .ok (.iaload, 1) := by decide +kernel
theorem dL_law_801 : decode cL_law 801 = .ok (.aload_n 0, 1) := by decide +kernel
theorem dL_law_802 : decode cL_law 802 = .ok (.iload 4, 2) := by decide +kernel
theorem dL_law_804 : decode cL_law 804 = .ok (.iconst 2, 1) := by decide +kernel
theorem dL_law_805 : decode cL_law 805 = .ok (.iadd, 1) := by decide +kernel
theorem dL_law_806 : decode cL_law 806 = .ok (.iaload, 1) := by decide +kernel
theorem dL_law_807 : decode cL_law 807 = .ok (.invokevirtual 128, 3) := by decide +kernel
theorem dL_law_810 : decode cL_law 810 = .ok (.istore 6, 2) := by decide +kernel
theorem dL_law_812 : decode cL_law 812 = .ok (.aload_n 2, 1) := by decide +kernel
theorem dL_law_813 : decode cL_law 813 = .ok (.invokevirtual 98, 3) := by decide +kernel
theorem dL_law_816 : decode cL_law 816 = .ok (.iload 5, 2) := by decide +kernel
theorem dL_law_818 : decode cL_law 818 = .ok (.if_icmp .eq 5, 3) := by decide +kernel
theorem dL_law_823 : decode cL_law 823 = .ok (.iload 5, 2) := by decide +kernel
theorem dL_law_825 : decode cL_law 825 = .ok (.ifCond .ne 15, 3) := by decide +kernel
theorem dL_law_840 : decode cL_law 840 = .ok (.goto 973, 3) := by decide +kernel
theorem dL_law_843 : decode cL_law 843 = .ok (.aload_n 1, 1) := by decide +kernel
theorem dL_law_844 : decode cL_law 844 = .ok (.aload_n 0, 1) := by decide +kernel
theorem dL_law_845 : decode cL_law 845 = .ok (.iload 4, 2) := by decide +kernel
theorem dL_law_847 : decode cL_law 847 = .ok (.iconst 1, 1) := by decide +kernel
theorem dL_law_848 : decode cL_law 848 = .ok (.iadd, 1) := by decide +kernel
theorem dL_law_849 : decode cL_law 849 = .ok (.iaload, 1) := by decide +kernel
theorem dL_law_850 : decode cL_law 850 = .ok (.aload_n 0, 1) := by decide +kernel
theorem dL_law_851 : decode cL_law 851 = .ok (.iload 4, 2) := by decide +kernel
theorem dL_law_853 : decode cL_law 853 = .ok (.iconst 2, 1) := by decide +kernel
theorem dL_law_854 : decode cL_law 854 = .ok (.iadd, 1) := by decide +kernel
theorem dL_law_855 : decode cL_law 855 = .ok (.iaload, 1) := by decide +kernel
theorem dL_law_856 : decode cL_law 856 = .ok (.aload_n 3, 1) := by decide +kernel
theorem dL_law_857 : decode cL_law 857 = .ok (.invokestatic 129, 3) := by decide +kernel
theorem dL_law_860 : decode cL_law 860 = .ok (.istore 5, 2) := by decide +kernel
theorem dL_law_862 : decode cL_law 862 = .ok (.aload_n 2, 1) := by decide +kernel
theorem dL_law_863 : decode cL_law 863 = .ok (.aload_n 0, 1) := by decide +kernel
theorem dL_law_864 : decode cL_law 864 = .ok (.iload 4, 2) := by decide +kernel
theorem dL_law_866 : decode cL_law 866 = .ok (.iconst 1, 1) := by decide +kernel
theorem dL_law_867 : decode cL_law 867 = .ok (.iadd, 1) := by decide +kernel
theorem dL_law_868 : decode cL_law 868 = .ok (.iaload, 1) := by decide +kernel
theorem dL_law_869 : decode cL_law 869 = .ok (.aload_n 0, 1) := by decide +kernel
theorem dL_law_870 : decode cL_law 870 = .ok (.iload 4, 2) := by decide +kernel
theorem dL_law_872 : decode cL_law 872 = .ok (.iconst 2, 1) := by decide +kernel
theorem dL_law_873 : decode cL_law 873 = .ok (.iadd, 1) := by decide +kernel
theorem dL_law_874 : decode cL_law 874 = .ok (.iaload, 1) := by decide +kernel
theorem dL_law_875 : decode cL_law 875 = .ok (.invokevirtual 131, 3) := by decide +kernel
theorem dL_law_878 : decode cL_law 878 = .ok (.istore 6, 2) := by decide +kernel
theorem dL_law_880 : decode cL_law 880 = .ok (.aload_n 2, 1) := by decide +kernel
theorem dL_law_881 : decode cL_law 881 = .ok (.invokevirtual 98, 3) := by decide +kernel
theorem dL_law_884 : decode cL_law 884 = .ok (.iload 5, 2) := by decide +kernel
theorem dL_law_886 : decode cL_law 886 = .ok (.if_icmp .eq 5, 3) := by decide +kernel
theorem dL_law_891 : decode cL_law 891 = .ok (.iload 5, 2) := by decide +kernel
theorem dL_law_893 : decode cL_law 893 = .ok (.ifCond .ne 15, 3) := by decide +kernel
theorem dL_law_908 : decode cL_law 908 = .ok (.goto 905, 3) := by decide +kernel
theorem dL_law_967 : decode cL_law 967 = .ok (.aload_n 1, 1) := by decide +kernel
theorem dL_law_968 : decode cL_law 968 = .ok (.aload_n 0, 1) := by decide +kernel
theorem dL_law_969 : decode cL_law 969 = .ok (.iload 4, 2) := by decide +kernel
theorem dL_law_971 : decode cL_law 971 = .ok (.iconst 1, 1) := by decide +kernel
theorem dL_law_972 : decode cL_law 972 = .ok (.iadd, 1) := by decide +kernel
theorem dL_law_973 : decode cL_law 973 = .ok (.iaload, 1) := by decide +kernel
theorem dL_law_974 : decode cL_law 974 = .ok (.aload_n 0, 1) := by decide +kernel
theorem dL_law_975 : decode cL_law 975 = .ok (.iload 4, 2) := by decide +kernel
theorem dL_law_977 : decode cL_law 977 = .ok (.iconst 2, 1) := by decide +kernel
theorem dL_law_978 : decode cL_law 978 = .ok (.iadd, 1) := by decide +kernel
theorem dL_law_979 : decode cL_law 979 = .ok (.iaload, 1) := by decide +kernel
theorem dL_law_980 : decode cL_law 980 = .ok (.aload_n 3, 1) := by decide +kernel
theorem dL_law_981 : decode cL_law 981 = .ok (.invokestatic 136, 3) := by decide +kernel
theorem dL_law_984 : decode cL_law 984 = .ok (.istore 5, 2) := by decide +kernel
theorem dL_law_986 : decode cL_law 986 = .ok (.aload_n 2, 1) := by decide +kernel
theorem dL_law_987 : decode cL_law 987 = .ok (.aload_n 0, 1) := by decide +kernel
theorem dL_law_988 : decode cL_law 988 = .ok (.iload 4, 2) := by decide +kernel
theorem dL_law_990 : decode cL_law 990 = .ok (.iconst 1, 1) := by decide +kernel
theorem dL_law_991 : decode cL_law 991 = .ok (.iadd, 1) := by decide +kernel
theorem dL_law_992 : decode cL_law 992 = .ok (.iaload, 1) := by decide +kernel
theorem dL_law_993 : decode cL_law 993 = .ok (.aload_n 0, 1) := by decide +kernel
theorem dL_law_994 : decode cL_law 994 = .ok (.iload 4, 2) := by decide +kernel
theorem dL_law_996 : decode cL_law 996 = .ok (.iconst 2, 1) := by decide +kernel
theorem dL_law_997 : decode cL_law 997 = .ok (.iadd, 1) := by decide +kernel
theorem dL_law_998 : decode cL_law 998 = .ok (.iaload, 1) := by decide +kernel
theorem dL_law_999 : decode cL_law 999 = .ok (.invokevirtual 138, 3) := by decide +kernel
theorem dL_law_1002 : decode cL_law 1002 = .ok (.istore 6, 2) := by decide +kernel
theorem dL_law_1004 : decode cL_law 1004 = .ok (.aload_n 2, 1) := by decide +kernel
theorem dL_law_1005 : decode cL_law 1005 = .ok (.invokevirtual 98, 3) := by decide +kernel
theorem dL_law_1008 : decode cL_law 1008 = .ok (.iload 5, 2) := by decide +kernel
theorem dL_law_1010 : decode cL_law 1010 = .ok (.if_icmp .eq 5, 3) := by decide +kernel
theorem dL_law_1015 : decode cL_law 1015 = .ok (.iload 5, 2) := by decide +kernel
theorem dL_law_1017 : decode cL_law 1017 = .ok (.ifCond .ne 15, 3) := by decide +kernel
theorem dL_law_1032 : decode cL_law 1032 = .ok (.goto 781, 3) := by decide +kernel
theorem dL_law_1035 : decode cL_law 1035 = .ok (.aload_n 1, 1) := by decide +kernel
theorem dL_law_1036 : decode cL_law 1036 = .ok (.aload_n 0, 1) := by decide +kernel
theorem dL_law_1037 : decode cL_law 1037 = .ok (.iload 4, 2) := by decide +kernel
theorem dL_law_1039 : decode cL_law 1039 = .ok (.iconst 1, 1) := by decide +kernel
theorem dL_law_1040 : decode cL_law 1040 = .ok (.iadd, 1) := by decide +kernel
theorem dL_law_1041 : decode cL_law 1041 = .ok (.iaload, 1) := by decide +kernel
theorem dL_law_1042 : decode cL_law 1042 = .ok (.aload_n 0, 1) := by decide +kernel
theorem dL_law_1043 : decode cL_law 1043 = .ok (.iload 4, 2) := by decide +kernel
theorem dL_law_1045 : decode cL_law 1045 = .ok (.iconst 2, 1) := by decide +kernel
theorem dL_law_1046 : decode cL_law 1046 = .ok (.iadd, 1) := by decide +kernel
theorem dL_law_1047 : decode cL_law 1047 = .ok (.iaload, 1) := by decide +kernel
theorem dL_law_1048 : decode cL_law 1048 = .ok (.aload_n 0, 1) := by decide +kernel
theorem dL_law_1049 : decode cL_law 1049 = .ok (.iload 4, 2) := by decide +kernel
theorem dL_law_1051 : decode cL_law 1051 = .ok (.iconst 3, 1) := by decide +kernel
theorem dL_law_1052 : decode cL_law 1052 = .ok (.iadd, 1) := by decide +kernel
theorem dL_law_1053 : decode cL_law 1053 = .ok (.iaload, 1) := by decide +kernel
theorem dL_law_1054 : decode cL_law 1054 = .ok (.aload_n 3, 1) := by decide +kernel
theorem dL_law_1055 : decode cL_law 1055 = .ok (.invokestatic 139, 3) := by decide +kernel
theorem dL_law_1058 : decode cL_law 1058 = .ok (.istore 5, 2) := by decide +kernel
theorem dL_law_1060 : decode cL_law 1060 = .ok (.aload_n 2, 1) := by decide +kernel
theorem dL_law_1061 : decode cL_law 1061 = .ok (.aload_n 0, 1) := by decide +kernel
theorem dL_law_1062 : decode cL_law 1062 = .ok (.iload 4, 2) := by decide +kernel
theorem dL_law_1064 : decode cL_law 1064 = .ok (.iconst 1, 1) := by decide +kernel
theorem dL_law_1065 : decode cL_law 1065 = .ok (.iadd, 1) := by decide +kernel
theorem dL_law_1066 : decode cL_law 1066 = .ok (.iaload, 1) := by decide +kernel
theorem dL_law_1067 : decode cL_law 1067 = .ok (.aload_n 0, 1) := by decide +kernel
theorem dL_law_1068 : decode cL_law 1068 = .ok (.iload 4, 2) := by decide +kernel
theorem dL_law_1070 : decode cL_law 1070 = .ok (.iconst 2, 1) := by decide +kernel
theorem dL_law_1071 : decode cL_law 1071 = .ok (.iadd, 1) := by decide +kernel
theorem dL_law_1072 : decode cL_law 1072 = .ok (.iaload, 1) := by decide +kernel
theorem dL_law_1073 : decode cL_law 1073 = .ok (.aload_n 0, 1) := by decide +kernel
theorem dL_law_1074 : decode cL_law 1074 = .ok (.iload 4, 2) := by decide +kernel
theorem dL_law_1076 : decode cL_law 1076 = .ok (.iconst 3, 1) := by decide +kernel
theorem dL_law_1077 : decode cL_law 1077 = .ok (.iadd, 1) := by decide +kernel
theorem dL_law_1078 : decode cL_law 1078 = .ok (.iaload, 1) := by decide +kernel
theorem dL_law_1079 : decode cL_law 1079 = .ok (.invokevirtual 141, 3) := by decide +kernel
theorem dL_law_1082 : decode cL_law 1082 = .ok (.istore 6, 2) := by decide +kernel
theorem dL_law_1084 : decode cL_law 1084 = .ok (.aload_n 2, 1) := by decide +kernel
theorem dL_law_1085 : decode cL_law 1085 = .ok (.invokevirtual 98, 3) := by decide +kernel
theorem dL_law_1088 : decode cL_law 1088 = .ok (.iload 5, 2) := by decide +kernel
theorem dL_law_1090 : decode cL_law 1090 = .ok (.if_icmp .eq 5, 3) := by decide +kernel
theorem dL_law_1095 : decode cL_law 1095 = .ok (.iload 5, 2) := by decide +kernel
theorem dL_law_1097 : decode cL_law 1097 = .ok (.ifCond .ne 15, 3) := by decide +kernel
theorem dL_law_1112 : decode cL_law 1112 = .ok (.goto 701, 3) := by decide +kernel
theorem dL_law_1115 : decode cL_law 1115 = .ok (.aload_n 1, 1) := by decide +kernel
theorem dL_law_1116 : decode cL_law 1116 = .ok (.aload_n 0, 1) := by decide +kernel
theorem dL_law_1117 : decode cL_law 1117 = .ok (.iload 4, 2) := by decide +kernel
theorem dL_law_1119 : decode cL_law 1119 = .ok (.iconst 1, 1) := by decide +kernel
theorem dL_law_1120 : decode cL_law 1120 = .ok (.iadd, 1) := by decide +kernel
theorem dL_law_1121 : decode cL_law 1121 = .ok (.iaload, 1) := by decide +kernel
theorem dL_law_1122 : decode cL_law 1122 = .ok (.aload_n 0, 1) := by decide +kernel
theorem dL_law_1123 : decode cL_law 1123 = .ok (.iload 4, 2) := by decide +kernel
theorem dL_law_1125 : decode cL_law 1125 = .ok (.iconst 2, 1) := by decide +kernel
theorem dL_law_1126 : decode cL_law 1126 = .ok (.iadd, 1) := by decide +kernel
theorem dL_law_1127 : decode cL_law 1127 = .ok (.iaload, 1) := by decide +kernel
theorem dL_law_1128 : decode cL_law 1128 = .ok (.aload_n 0, 1) := by decide +kernel
theorem dL_law_1129 : decode cL_law 1129 = .ok (.iload 4, 2) := by decide +kernel
theorem dL_law_1131 : decode cL_law 1131 = .ok (.iconst 3, 1) := by decide +kernel
theorem dL_law_1132 : decode cL_law 1132 = .ok (.iadd, 1) := by decide +kernel
theorem dL_law_1133 : decode cL_law 1133 = .ok (.iaload, 1) := by decide +kernel
theorem dL_law_1134 : decode cL_law 1134 = .ok (.aload_n 3, 1) := by decide +kernel
theorem dL_law_1135 : decode cL_law 1135 = .ok (.invokestatic 142, 3) := by decide +kernel
theorem dL_law_1138 : decode cL_law 1138 = .ok (.istore 5, 2) := by decide +kernel
theorem dL_law_1140 : decode cL_law 1140 = .ok (.aload_n 2, 1) := by decide +kernel
theorem dL_law_1141 : decode cL_law 1141 = .ok (.aload_n 0, 1) := by decide +kernel
theorem dL_law_1142 : decode cL_law 1142 = .ok (.iload 4, 2) := by decide +kernel
theorem dL_law_1144 : decode cL_law 1144 = .ok (.iconst 1, 1) := by decide +kernel
theorem dL_law_1145 : decode cL_law 1145 = .ok (.iadd, 1) := by decide +kernel
theorem dL_law_1146 : decode cL_law 1146 = .ok (.iaload, 1) := by decide +kernel
theorem dL_law_1147 : decode cL_law 1147 = .ok (.aload_n 0, 1) := by decide +kernel
theorem dL_law_1148 : decode cL_law 1148 = .ok (.iload 4, 2) := by decide +kernel
theorem dL_law_1150 : decode cL_law 1150 = .ok (.iconst 2, 1) := by decide +kernel
theorem dL_law_1151 : decode cL_law 1151 = .ok (.iadd, 1) := by decide +kernel
theorem dL_law_1152 : decode cL_law 1152 = .ok (.iaload, 1) := by decide +kernel
theorem dL_law_1153 : decode cL_law 1153 = .ok (.aload_n 0, 1) := by decide +kernel
theorem dL_law_1154 : decode cL_law 1154 = .ok (.iload 4, 2) := by decide +kernel
theorem dL_law_1156 : decode cL_law 1156 = .ok (.iconst 3, 1) := by decide +kernel
theorem dL_law_1157 : decode cL_law 1157 = .ok (.iadd, 1) := by decide +kernel
theorem dL_law_1158 : decode cL_law 1158 = .ok (.iaload, 1) := by decide +kernel
theorem dL_law_1159 : decode cL_law 1159 = .ok (.invokevirtual 144, 3) := by decide +kernel
theorem dL_law_1162 : decode cL_law 1162 = .ok (.istore 6, 2) := by decide +kernel
theorem dL_law_1164 : decode cL_law 1164 = .ok (.aload_n 2, 1) := by decide +kernel
theorem dL_law_1165 : decode cL_law 1165 = .ok (.invokevirtual 98, 3) := by decide +kernel
theorem dL_law_1168 : decode cL_law 1168 = .ok (.iload 5, 2) := by decide +kernel
theorem dL_law_1170 : decode cL_law 1170 = .ok (.if_icmp .eq 5, 3) := by decide +kernel
theorem dL_law_1175 : decode cL_law 1175 = .ok (.iload 5, 2) := by decide +kernel
theorem dL_law_1177 : decode cL_law 1177 = .ok (.ifCond .ne 22, 3) := by decide +kernel
theorem dL_law_1199 : decode cL_law 1199 = .ok (.goto 614, 3) := by decide +kernel
theorem dL_law_1202 : decode cL_law 1202 = .ok (.aload_n 1, 1) := by decide +kernel
theorem dL_law_1203 : decode cL_law 1203 = .ok (.aload_n 0, 1) := by decide +kernel
theorem dL_law_1204 : decode cL_law 1204 = .ok (.iload 4, 2) := by decide +kernel
theorem dL_law_1206 : decode cL_law 1206 = .ok (.iconst 1, 1) := by decide +kernel
theorem dL_law_1207 : decode cL_law 1207 = .ok (.iadd, 1) := by decide +kernel
theorem dL_law_1208 : decode cL_law 1208 = .ok (.iaload, 1) := by decide +kernel
theorem dL_law_1209 : decode cL_law 1209 = .ok (.aload_n 0, 1) := by decide +kernel
theorem dL_law_1210 : decode cL_law 1210 = .ok (.iload 4, 2) := by decide +kernel
theorem dL_law_1212 : decode cL_law 1212 = .ok (.iconst 2, 1) := by decide +kernel
theorem dL_law_1213 : decode cL_law 1213 = .ok (.iadd, 1) := by decide +kernel
theorem dL_law_1214 : decode cL_law 1214 = .ok (.iaload, 1) := by decide +kernel
theorem dL_law_1215 : decode cL_law 1215 = .ok (.aload_n 3, 1) := by decide +kernel
theorem dL_law_1216 : decode cL_law 1216 = .ok (.invokestatic 145, 3) := by decide +kernel
theorem dL_law_1219 : decode cL_law 1219 = .ok (.istore 5, 2) := by decide +kernel
theorem dL_law_1221 : decode cL_law 1221 = .ok (.aload_n 2, 1) := by decide +kernel
theorem dL_law_1222 : decode cL_law 1222 = .ok (.aload_n 0, 1) := by decide +kernel
theorem dL_law_1223 : decode cL_law 1223 = .ok (.iload 4, 2) := by decide +kernel
theorem dL_law_1225 : decode cL_law 1225 = .ok (.iconst 1, 1) := by decide +kernel
theorem dL_law_1226 : decode cL_law 1226 = .ok (.iadd, 1) := by decide +kernel
theorem dL_law_1227 : decode cL_law 1227 = .ok (.iaload, 1) := by decide +kernel
theorem dL_law_1228 : decode cL_law 1228 = .ok (.aload_n 0, 1) := by decide +kernel
theorem dL_law_1229 : decode cL_law 1229 = .ok (.iload 4, 2) := by decide +kernel
theorem dL_law_1231 : decode cL_law 1231 = .ok (.iconst 2, 1) := by decide +kernel
theorem dL_law_1232 : decode cL_law 1232 = .ok (.iadd, 1) := by decide +kernel
theorem dL_law_1233 : decode cL_law 1233 = .ok (.iaload, 1) := by decide +kernel
theorem dL_law_1234 : decode cL_law 1234 = .ok (.invokevirtual 147, 3) := by decide +kernel
theorem dL_law_1237 : decode cL_law 1237 = .ok (.istore 6, 2) := by decide +kernel
theorem dL_law_1239 : decode cL_law 1239 = .ok (.aload_n 2, 1) := by decide +kernel
theorem dL_law_1240 : decode cL_law 1240 = .ok (.invokevirtual 98, 3) := by decide +kernel
theorem dL_law_1243 : decode cL_law 1243 = .ok (.iload 5, 2) := by decide +kernel
theorem dL_law_1245 : decode cL_law 1245 = .ok (.if_icmp .eq 5, 3) := by decide +kernel
theorem dL_law_1250 : decode cL_law 1250 = .ok (.iload 5, 2) := by decide +kernel
theorem dL_law_1252 : decode cL_law 1252 = .ok (.ifCond .ne 15, 3) := by decide +kernel
theorem dL_law_1267 : decode cL_law 1267 = .ok (.goto 546, 3) := by decide +kernel
theorem dL_law_1270 : decode cL_law 1270 = .ok (.aload_n 1, 1) := by decide +kernel
theorem dL_law_1271 : decode cL_law 1271 = .ok (.aload_n 0, 1) := by decide +kernel
theorem dL_law_1272 : decode cL_law 1272 = .ok (.iload 4, 2) := by decide +kernel
theorem dL_law_1274 : decode cL_law 1274 = .ok (.iconst 1, 1) := by decide +kernel
theorem dL_law_1275 : decode cL_law 1275 = .ok (.iadd, 1) := by decide +kernel
theorem dL_law_1276 : decode cL_law 1276 = .ok (.iaload, 1) := by decide +kernel
theorem dL_law_1277 : decode cL_law 1277 = .ok (.aload_n 0, 1) := by decide +kernel
theorem dL_law_1278 : decode cL_law 1278 = .ok (.iload 4, 2) := by decide +kernel
theorem dL_law_1280 : decode cL_law 1280 = .ok (.iconst 2, 1) := by decide +kernel
theorem dL_law_1281 : decode cL_law 1281 = .ok (.iadd, 1) := by decide +kernel
theorem dL_law_1282 : decode cL_law 1282 = .ok (.iaload, 1) := by decide +kernel
theorem dL_law_1283 : decode cL_law 1283 = .ok (.aload_n 0, 1) := by decide +kernel
theorem dL_law_1284 : decode cL_law 1284 = .ok (.iload 4, 2) := by decide +kernel
theorem dL_law_1286 : decode cL_law 1286 = .ok (.iconst 3, 1) := by decide +kernel
theorem dL_law_1287 : decode cL_law 1287 = .ok (.iadd, 1) := by decide +kernel
theorem dL_law_1288 : decode cL_law 1288 = .ok (.iaload, 1) := by decide +kernel
theorem dL_law_1289 : decode cL_law 1289 = .ok (.aload_n 3, 1) := by decide +kernel
theorem dL_law_1290 : decode cL_law 1290 = .ok (.invokestatic 148, 3) := by decide +kernel
theorem dL_law_1293 : decode cL_law 1293 = .ok (.istore 5, 2) := by decide +kernel
theorem dL_law_1295 : decode cL_law 1295 = .ok (.aload_n 2, 1) := by decide +kernel
theorem dL_law_1296 : decode cL_law 1296 = .ok (.aload_n 0, 1) := by decide +kernel
theorem dL_law_1297 : decode cL_law 1297 = .ok (.iload 4, 2) := by decide +kernel
theorem dL_law_1299 : decode cL_law 1299 = .ok (.iconst 1, 1) := by decide +kernel
theorem dL_law_1300 : decode cL_law 1300 = .ok (.iadd, 1) := by decide +kernel
theorem dL_law_1301 : decode cL_law 1301 = .ok (.iaload, 1) := by decide +kernel
theorem dL_law_1302 : decode cL_law 1302 = .ok (.aload_n 0, 1) := by decide +kernel
theorem dL_law_1303 : decode cL_law 1303 = .ok (.iload 4, 2) := by decide +kernel
theorem dL_law_1305 : decode cL_law 1305 = .ok (.iconst 2, 1) := by decide +kernel
theorem dL_law_1306 : decode cL_law 1306 = .ok (.iadd, 1) := by decide +kernel
theorem dL_law_1307 : decode cL_law 1307 = .ok (.iaload, 1) := by decide +kernel
theorem dL_law_1308 : decode cL_law 1308 = .ok (.aload_n 0, 1) := by decide +kernel
theorem dL_law_1309 : decode cL_law 1309 = .ok (.iload 4, 2) := by decide +kernel
theorem dL_law_1311 : decode cL_law 1311 = .ok (.iconst 3, 1) := by decide +kernel
theorem dL_law_1312 : decode cL_law 1312 = .ok (.iadd, 1) := by decide +kernel
theorem dL_law_1313 : decode cL_law 1313 = .ok (.iaload, 1) := by decide +kernel
theorem dL_law_1314 : decode cL_law 1314 = .ok (.invokevirtual 150, 3) := by decide +kernel
theorem dL_law_1317 : decode cL_law 1317 = .ok (.istore 6, 2) := by decide +kernel
theorem dL_law_1319 : decode cL_law 1319 = .ok (.aload_n 2, 1) := by decide +kernel
theorem dL_law_1320 : decode cL_law 1320 = .ok (.invokevirtual 98, 3) := by decide +kernel
theorem dL_law_1323 : decode cL_law 1323 = .ok (.iload 5, 2) := by decide +kernel
theorem dL_law_1325 : decode cL_law 1325 = .ok (.if_icmp .eq 5, 3) := by decide +kernel
theorem dL_law_1330 : decode cL_law 1330 = .ok (.iload 5, 2) := by decide +kernel
theorem dL_law_1332 : decode cL_law 1332 = .ok (.ifCond .ne 15, 3) := by decide +kernel
theorem dL_law_1347 : decode cL_law 1347 = .ok (.goto 466, 3) := by decide +kernel
theorem dL_law_1447 : decode cL_law 1447 = .ok (.aload_n 1, 1) := by decide +kernel
theorem dL_law_1448 : decode cL_law 1448 = .ok (.aload_n 0, 1) := by decide +kernel
theorem dL_law_1449 : decode cL_law 1449 = .ok (.iload 4, 2) := by decide +kernel
theorem dL_law_1451 : decode cL_law 1451 = .ok (.iconst 1, 1) := by decide +kernel
theorem dL_law_1452 : decode cL_law 1452 = .ok (.iadd, 1) := by decide +kernel
theorem dL_law_1453 : decode cL_law 1453 = .ok (.iaload, 1) := by decide +kernel
theorem dL_law_1454 : decode cL_law 1454 = .ok (.aload_n 0, 1) := by decide +kernel
theorem dL_law_1455 : decode cL_law 1455 = .ok (.iload 4, 2) := by decide +kernel
theorem dL_law_1457 : decode cL_law 1457 = .ok (.iconst 2, 1) := by decide +kernel
theorem dL_law_1458 : decode cL_law 1458 = .ok (.iadd, 1) := by decide +kernel
theorem dL_law_1459 : decode cL_law 1459 = .ok (.iaload, 1) := by decide +kernel
theorem dL_law_1460 : decode cL_law 1460 = .ok (.aload_n 3, 1) := by decide +kernel
theorem dL_law_1461 : decode cL_law 1461 = .ok (.invokestatic 159, 3) := by decide +kernel
theorem dL_law_1464 : decode cL_law 1464 = .ok (.istore 5, 2) := by decide +kernel
theorem dL_law_1466 : decode cL_law 1466 = .ok (.aload_n 2, 1) := by decide +kernel
theorem dL_law_1467 : decode cL_law 1467 = .ok (.aload_n 0, 1) := by decide +kernel
theorem dL_law_1468 : decode cL_law 1468 = .ok (.iload 4, 2) := by decide +kernel
theorem dL_law_1470 : decode cL_law 1470 = .ok (.iconst 1, 1) := by decide +kernel
theorem dL_law_1471 : decode cL_law 1471 = .ok (.iadd, 1) := by decide +kernel
theorem dL_law_1472 : decode cL_law 1472 = .ok (.iaload, 1) := by decide +kernel
theorem dL_law_1473 : decode cL_law 1473 = .ok (.aload_n 0, 1) := by decide +kernel
theorem dL_law_1474 : decode cL_law 1474 = .ok (.iload 4, 2) := by decide +kernel
theorem dL_law_1476 : decode cL_law 1476 = .ok (.iconst 2, 1) := by decide +kernel
theorem dL_law_1477 : decode cL_law 1477 = .ok (.iadd, 1) := by decide +kernel
theorem dL_law_1478 : decode cL_law 1478 = .ok (.iaload, 1) := by decide +kernel
theorem dL_law_1479 : decode cL_law 1479 = .ok (.invokevirtual 161, 3) := by decide +kernel
theorem dL_law_1482 : decode cL_law 1482 = .ok (.istore 6, 2) := by decide +kernel
theorem dL_law_1484 : decode cL_law 1484 = .ok (.aload_n 2, 1) := by decide +kernel
theorem dL_law_1485 : decode cL_law 1485 = .ok (.invokevirtual 98, 3) := by decide +kernel
theorem dL_law_1488 : decode cL_law 1488 = .ok (.iload 5, 2) := by decide +kernel
theorem dL_law_1490 : decode cL_law 1490 = .ok (.if_icmp .eq 5, 3) := by decide +kernel
theorem dL_law_1495 : decode cL_law 1495 = .ok (.iload 5, 2) := by decide +kernel
theorem dL_law_1497 : decode cL_law 1497 = .ok (.ifCond .ne 15, 3) := by decide +kernel
theorem dL_law_1512 : decode cL_law 1512 = .ok (.goto 301, 3) := by decide +kernel
theorem dL_law_1515 : decode cL_law 1515 = .ok (.aload_n 1, 1) := by decide +kernel
theorem dL_law_1516 : decode cL_law 1516 = .ok (.aload_n 0, 1) := by decide +kernel
theorem dL_law_1517 : decode cL_law 1517 = .ok (.iload 4, 2) := by decide +kernel
theorem dL_law_1519 : decode cL_law 1519 = .ok (.iconst 1, 1) := by decide +kernel
theorem dL_law_1520 : decode cL_law 1520 = .ok (.iadd, 1) := by decide +kernel
theorem dL_law_1521 : decode cL_law 1521 = .ok (.iaload, 1) := by decide +kernel
theorem dL_law_1522 : decode cL_law 1522 = .ok (.aload_n 0, 1) := by decide +kernel
theorem dL_law_1523 : decode cL_law 1523 = .ok (.iload 4, 2) := by decide +kernel
theorem dL_law_1525 : decode cL_law 1525 = .ok (.iconst 2, 1) := by decide +kernel
theorem dL_law_1526 : decode cL_law 1526 = .ok (.iadd, 1) := by decide +kernel
theorem dL_law_1527 : decode cL_law 1527 = .ok (.iaload, 1) := by decide +kernel
theorem dL_law_1528 : decode cL_law 1528 = .ok (.aload_n 3, 1) := by decide +kernel
theorem dL_law_1529 : decode cL_law 1529 = .ok (.invokestatic 162, 3) := by decide +kernel
theorem dL_law_1532 : decode cL_law 1532 = .ok (.istore 5, 2) := by decide +kernel
theorem dL_law_1534 : decode cL_law 1534 = .ok (.aload_n 2, 1) := by decide +kernel
theorem dL_law_1535 : decode cL_law 1535 = .ok (.aload_n 0, 1) := by decide +kernel
theorem dL_law_1536 : decode cL_law 1536 = .ok (.iload 4, 2) := by decide +kernel
theorem dL_law_1538 : decode cL_law 1538 = .ok (.iconst 1, 1) := by decide +kernel
theorem dL_law_1539 : decode cL_law 1539 = .ok (.iadd, 1) := by decide +kernel
theorem dL_law_1540 : decode cL_law 1540 = .ok (.iaload, 1) := by decide +kernel
theorem dL_law_1541 : decode cL_law 1541 = .ok (.aload_n 0, 1) := by decide +kernel
theorem dL_law_1542 : decode cL_law 1542 = .ok (.iload 4, 2) := by decide +kernel
theorem dL_law_1544 : decode cL_law 1544 = .ok (.iconst 2, 1) := by decide +kernel
theorem dL_law_1545 : decode cL_law 1545 = .ok (.iadd, 1) := by decide +kernel
theorem dL_law_1546 : decode cL_law 1546 = .ok (.iaload, 1) := by decide +kernel
theorem dL_law_1547 : decode cL_law 1547 = .ok (.invokevirtual 164, 3) := by decide +kernel
theorem dL_law_1550 : decode cL_law 1550 = .ok (.istore 6, 2) := by decide +kernel
theorem dL_law_1552 : decode cL_law 1552 = .ok (.aload_n 2, 1) := by decide +kernel
theorem dL_law_1553 : decode cL_law 1553 = .ok (.invokevirtual 98, 3) := by decide +kernel
theorem dL_law_1556 : decode cL_law 1556 = .ok (.iload 5, 2) := by decide +kernel
theorem dL_law_1558 : decode cL_law 1558 = .ok (.if_icmp .eq 5, 3) := by decide +kernel
theorem dL_law_1563 : decode cL_law 1563 = .ok (.iload 5, 2) := by decide +kernel
theorem dL_law_1565 : decode cL_law 1565 = .ok (.ifCond .ne 15, 3) := by decide +kernel
theorem dL_law_1580 : decode cL_law 1580 = .ok (.goto 233, 3) := by decide +kernel
theorem dL_law_1583 : decode cL_law 1583 = .ok (.aload_n 1, 1) := by decide +kernel
theorem dL_law_1584 : decode cL_law 1584 = .ok (.aload_n 0, 1) := by decide +kernel
theorem dL_law_1585 : decode cL_law 1585 = .ok (.iload 4, 2) := by decide +kernel
theorem dL_law_1587 : decode cL_law 1587 = .ok (.iconst 1, 1) := by decide +kernel
theorem dL_law_1588 : decode cL_law 1588 = .ok (.iadd, 1) := by decide +kernel
theorem dL_law_1589 : decode cL_law 1589 = .ok (.iaload, 1) := by decide +kernel
theorem dL_law_1590 : decode cL_law 1590 = .ok (.aload_n 0, 1) := by decide +kernel
theorem dL_law_1591 : decode cL_law 1591 = .ok (.iload 4, 2) := by decide +kernel
theorem dL_law_1593 : decode cL_law 1593 = .ok (.iconst 2, 1) := by decide +kernel
theorem dL_law_1594 : decode cL_law 1594 = .ok (.iadd, 1) := by decide +kernel
theorem dL_law_1595 : decode cL_law 1595 = .ok (.iaload, 1) := by decide +kernel
theorem dL_law_1596 : decode cL_law 1596 = .ok (.aload_n 0, 1) := by decide +kernel
theorem dL_law_1597 : decode cL_law 1597 = .ok (.iload 4, 2) := by decide +kernel
theorem dL_law_1599 : decode cL_law 1599 = .ok (.iconst 3, 1) := by decide +kernel
theorem dL_law_1600 : decode cL_law 1600 = .ok (.iadd, 1) := by decide +kernel
theorem dL_law_1601 : decode cL_law 1601 = .ok (.iaload, 1) := by decide +kernel
theorem dL_law_1602 : decode cL_law 1602 = .ok (.aload_n 3, 1) := by decide +kernel
theorem dL_law_1603 : decode cL_law 1603 = .ok (.invokestatic 165, 3) := by decide +kernel
theorem dL_law_1606 : decode cL_law 1606 = .ok (.istore 5, 2) := by decide +kernel
theorem dL_law_1608 : decode cL_law 1608 = .ok (.aload_n 2, 1) := by decide +kernel
theorem dL_law_1609 : decode cL_law 1609 = .ok (.aload_n 0, 1) := by decide +kernel
theorem dL_law_1610 : decode cL_law 1610 = .ok (.iload 4, 2) := by decide +kernel
theorem dL_law_1612 : decode cL_law 1612 = .ok (.iconst 1, 1) := by decide +kernel
theorem dL_law_1613 : decode cL_law 1613 = .ok (.iadd, 1) := by decide +kernel
theorem dL_law_1614 : decode cL_law 1614 = .ok (.iaload, 1) := by decide +kernel
theorem dL_law_1615 : decode cL_law 1615 = .ok (.aload_n 0, 1) := by decide +kernel
theorem dL_law_1616 : decode cL_law 1616 = .ok (.iload 4, 2) := by decide +kernel
theorem dL_law_1618 : decode cL_law 1618 = .ok (.iconst 2, 1) := by decide +kernel
theorem dL_law_1619 : decode cL_law 1619 = .ok (.iadd, 1) := by decide +kernel
theorem dL_law_1620 : decode cL_law 1620 = .ok (.iaload, 1) := by decide +kernel
theorem dL_law_1621 : decode cL_law 1621 = .ok (.aload_n 0, 1) := by decide +kernel
theorem dL_law_1622 : decode cL_law 1622 = .ok (.iload 4, 2) := by decide +kernel
theorem dL_law_1624 : decode cL_law 1624 = .ok (.iconst 3, 1) := by decide +kernel
theorem dL_law_1625 : decode cL_law 1625 = .ok (.iadd, 1) := by decide +kernel
theorem dL_law_1626 : decode cL_law 1626 = .ok (.iaload, 1) := by decide +kernel
theorem dL_law_1627 : decode cL_law 1627 = .ok (.invokevirtual 167, 3) := by decide +kernel
theorem dL_law_1630 : decode cL_law 1630 = .ok (.istore 6, 2) := by decide +kernel
theorem dL_law_1632 : decode cL_law 1632 = .ok (.aload_n 2, 1) := by decide +kernel
theorem dL_law_1633 : decode cL_law 1633 = .ok (.invokevirtual 98, 3) := by decide +kernel
theorem dL_law_1636 : decode cL_law 1636 = .ok (.iload 5, 2) := by decide +kernel
theorem dL_law_1638 : decode cL_law 1638 = .ok (.if_icmp .eq 5, 3) := by decide +kernel
theorem dL_law_1643 : decode cL_law 1643 = .ok (.iload 5, 2) := by decide +kernel
theorem dL_law_1645 : decode cL_law 1645 = .ok (.ifCond .ne 15, 3) := by decide +kernel
theorem dL_law_1660 : decode cL_law 1660 = .ok (.goto 153, 3) := by decide +kernel
theorem dL_law_1663 : decode cL_law 1663 = .ok (.aload_n 1, 1) := by decide +kernel
theorem dL_law_1664 : decode cL_law 1664 = .ok (.aload_n 0, 1) := by decide +kernel
theorem dL_law_1665 : decode cL_law 1665 = .ok (.iload 4, 2) := by decide +kernel
theorem dL_law_1667 : decode cL_law 1667 = .ok (.iconst 1, 1) := by decide +kernel
theorem dL_law_1668 : decode cL_law 1668 = .ok (.iadd, 1) := by decide +kernel
theorem dL_law_1669 : decode cL_law 1669 = .ok (.iaload, 1) := by decide +kernel
theorem dL_law_1670 : decode cL_law 1670 = .ok (.aload_n 3, 1) := by decide +kernel
theorem dL_law_1671 : decode cL_law 1671 = .ok (.invokestatic 168, 3) := by decide +kernel
theorem dL_law_1674 : decode cL_law 1674 = .ok (.istore 5, 2) := by decide +kernel
theorem dL_law_1676 : decode cL_law 1676 = .ok (.aload_n 2, 1) := by decide +kernel
theorem dL_law_1677 : decode cL_law 1677 = .ok (.aload_n 0, 1) := by decide +kernel
theorem dL_law_1678 : decode cL_law 1678 = .ok (.iload 4, 2) := by decide +kernel
theorem dL_law_1680 : decode cL_law 1680 = .ok (.iconst 1, 1) := by decide +kernel
theorem dL_law_1681 : decode cL_law 1681 = .ok (.iadd, 1) := by decide +kernel
theorem dL_law_1682 : decode cL_law 1682 = .ok (.iaload, 1) := by decide +kernel
theorem dL_law_1683 : decode cL_law 1683 = .ok (.invokevirtual 170, 3) := by decide +kernel
theorem dL_law_1686 : decode cL_law 1686 = .ok (.istore 6, 2) := by decide +kernel
theorem dL_law_1688 : decode cL_law 1688 = .ok (.aload_n 2, 1) := by decide +kernel
theorem dL_law_1689 : decode cL_law 1689 = .ok (.invokevirtual 98, 3) := by decide +kernel
theorem dL_law_1692 : decode cL_law 1692 = .ok (.iload 5, 2) := by decide +kernel
theorem dL_law_1694 : decode cL_law 1694 = .ok (.if_icmp .eq 5, 3) := by decide +kernel
theorem dL_law_1699 : decode cL_law 1699 = .ok (.iload 5, 2) := by decide +kernel
theorem dL_law_1701 : decode cL_law 1701 = .ok (.ifCond .ne 15, 3) := by decide +kernel
theorem dL_law_1716 : decode cL_law 1716 = .ok (.goto 97, 3) := by decide +kernel
theorem dL_law_1719 : decode cL_law 1719 = .ok (.aload_n 1, 1) := by decide +kernel
theorem dL_law_1720 : decode cL_law 1720 = .ok (.aload_n 0, 1) := by decide +kernel
theorem dL_law_1721 : decode cL_law 1721 = .ok (.iload 4, 2) := by decide +kernel
theorem dL_law_1723 : decode cL_law 1723 = .ok (.iconst 1, 1) := by decide +kernel
theorem dL_law_1724 : decode cL_law 1724 = .ok (.iadd, 1) := by decide +kernel
theorem dL_law_1725 : decode cL_law 1725 = .ok (.iaload, 1) := by decide +kernel
theorem dL_law_1726 : decode cL_law 1726 = .ok (.aload_n 0, 1) := by decide +kernel
theorem dL_law_1727 : decode cL_law 1727 = .ok (.iload 4, 2) := by decide +kernel
theorem dL_law_1729 : decode cL_law 1729 = .ok (.iconst 2, 1) := by decide +kernel
theorem dL_law_1730 : decode cL_law 1730 = .ok (.iadd, 1) := by decide +kernel
theorem dL_law_1731 : decode cL_law 1731 = .ok (.iaload, 1) := by decide +kernel
theorem dL_law_1732 : decode cL_law 1732 = .ok (.aload_n 0, 1) := by decide +kernel
theorem dL_law_1733 : decode cL_law 1733 = .ok (.iload 4, 2) := by decide +kernel
theorem dL_law_1735 : decode cL_law 1735 = .ok (.iconst 3, 1) := by decide +kernel
theorem dL_law_1736 : decode cL_law 1736 = .ok (.iadd, 1) := by decide +kernel
theorem dL_law_1737 : decode cL_law 1737 = .ok (.iaload, 1) := by decide +kernel
theorem dL_law_1738 : decode cL_law 1738 = .ok (.aload_n 3, 1) := by decide +kernel
theorem dL_law_1739 : decode cL_law 1739 = .ok (.invokestatic 171, 3) := by decide +kernel
theorem dL_law_1742 : decode cL_law 1742 = .ok (.istore 5, 2) := by decide +kernel
theorem dL_law_1744 : decode cL_law 1744 = .ok (.aload_n 2, 1) := by decide +kernel
theorem dL_law_1745 : decode cL_law 1745 = .ok (.aload_n 0, 1) := by decide +kernel
theorem dL_law_1746 : decode cL_law 1746 = .ok (.iload 4, 2) := by decide +kernel
theorem dL_law_1748 : decode cL_law 1748 = .ok (.iconst 1, 1) := by decide +kernel
theorem dL_law_1749 : decode cL_law 1749 = .ok (.iadd, 1) := by decide +kernel
theorem dL_law_1750 : decode cL_law 1750 = .ok (.iaload, 1) := by decide +kernel
theorem dL_law_1751 : decode cL_law 1751 = .ok (.aload_n 0, 1) := by decide +kernel
theorem dL_law_1752 : decode cL_law 1752 = .ok (.iload 4, 2) := by decide +kernel
theorem dL_law_1754 : decode cL_law 1754 = .ok (.iconst 2, 1) := by decide +kernel
theorem dL_law_1755 : decode cL_law 1755 = .ok (.iadd, 1) := by decide +kernel
theorem dL_law_1756 : decode cL_law 1756 = .ok (.iaload, 1) := by decide +kernel
theorem dL_law_1757 : decode cL_law 1757 = .ok (.aload_n 0, 1) := by decide +kernel
theorem dL_law_1758 : decode cL_law 1758 = .ok (.iload 4, 2) := by decide +kernel
theorem dL_law_1760 : decode cL_law 1760 = .ok (.iconst 3, 1) := by decide +kernel
theorem dL_law_1761 : decode cL_law 1761 = .ok (.iadd, 1) := by decide +kernel
theorem dL_law_1762 : decode cL_law 1762 = .ok (.iaload, 1) := by decide +kernel
theorem dL_law_1763 : decode cL_law 1763 = .ok (.invokevirtual 173, 3) := by decide +kernel
theorem dL_law_1766 : decode cL_law 1766 = .ok (.istore 6, 2) := by decide +kernel
theorem dL_law_1768 : decode cL_law 1768 = .ok (.aload_n 2, 1) := by decide +kernel
theorem dL_law_1769 : decode cL_law 1769 = .ok (.invokevirtual 98, 3) := by decide +kernel
theorem dL_law_1772 : decode cL_law 1772 = .ok (.iload 5, 2) := by decide +kernel
theorem dL_law_1774 : decode cL_law 1774 = .ok (.if_icmp .eq 5, 3) := by decide +kernel
theorem dL_law_1779 : decode cL_law 1779 = .ok (.iload 5, 2) := by decide +kernel
theorem dL_law_1781 : decode cL_law 1781 = .ok (.ifCond .ne 15, 3) := by decide +kernel
theorem dL_law_1796 : decode cL_law 1796 = .ok (.goto 17, 3) := by decide +kernel
theorem dL_law_152 : decode cL_law 152 = .ok (.aload_n 1, 1) := by decide +kernel
theorem dL_law_153 : decode cL_law 153 = .ok (.aload_n 3, 1) := by decide +kernel
theorem dL_law_154 : decode cL_law 154 = .ok (.invokestatic 92, 3) := by decide +kernel
theorem dL_law_157 : decode cL_law 157 = .ok (.istore 5, 2) := by decide +kernel
theorem dL_law_159 : decode cL_law 159 = .ok (.aload_n 2, 1) := by decide +kernel
theorem dL_law_160 : decode cL_law 160 = .ok (.invokevirtual 97, 3) := by decide +kernel
theorem dL_law_163 : decode cL_law 163 = .ok (.istore 6, 2) := by decide +kernel
theorem dL_law_165 : decode cL_law 165 = .ok (.aload_n 2, 1) := by decide +kernel
theorem dL_law_166 : decode cL_law 166 = .ok (.invokevirtual 98, 3) := by decide +kernel
theorem dL_law_169 : decode cL_law 169 = .ok (.iload 5, 2) := by decide +kernel
theorem dL_law_171 : decode cL_law 171 = .ok (.if_icmp .eq 5, 3) := by decide +kernel
theorem dL_law_176 : decode cL_law 176 = .ok (.iload 5, 2) := by decide +kernel
theorem dL_law_178 : decode cL_law 178 = .ok (.ifCond .ne 15, 3) := by decide +kernel
theorem dL_law_181 : decode cL_law 181 = .ok (.aload_n 3, 1) := by decide +kernel
theorem dL_law_182 : decode cL_law 182 = .ok (.iconst 0, 1) := by decide +kernel
theorem dL_law_183 : decode cL_law 183 = .ok (.laload, 1) := by decide +kernel
theorem dL_law_184 : decode cL_law 184 = .ok (.iload 6, 2) := by decide +kernel
theorem dL_law_186 : decode cL_law 186 = .ok (.i2l, 1) := by decide +kernel
theorem dL_law_187 : decode cL_law 187 = .ok (.lcmp, 1) := by decide +kernel
theorem dL_law_188 : decode cL_law 188 = .ok (.ifCond .eq 5, 3) := by decide +kernel
theorem dL_law_193 : decode cL_law 193 = .ok (.goto 1620, 3) := by decide +kernel
theorem dL_law_1350 : decode cL_law 1350 = .ok (.aload_n 1, 1) := by decide +kernel
theorem dL_law_1351 : decode cL_law 1351 = .ok (.aload_n 0, 1) := by decide +kernel
theorem dL_law_1352 : decode cL_law 1352 = .ok (.iload 4, 2) := by decide +kernel
theorem dL_law_1354 : decode cL_law 1354 = .ok (.iconst 1, 1) := by decide +kernel
theorem dL_law_1355 : decode cL_law 1355 = .ok (.iadd, 1) := by decide +kernel
theorem dL_law_1356 : decode cL_law 1356 = .ok (.iaload, 1) := by decide +kernel
theorem dL_law_1357 : decode cL_law 1357 = .ok (.aload_n 3, 1) := by decide +kernel
theorem dL_law_1358 : decode cL_law 1358 = .ok (.invokestatic 151, 3) := by decide +kernel
theorem dL_law_1361 : decode cL_law 1361 = .ok (.istore 5, 2) := by decide +kernel
theorem dL_law_1363 : decode cL_law 1363 = .ok (.aload_n 2, 1) := by decide +kernel
theorem dL_law_1364 : decode cL_law 1364 = .ok (.aload_n 0, 1) := by decide +kernel
theorem dL_law_1365 : decode cL_law 1365 = .ok (.iload 4, 2) := by decide +kernel
theorem dL_law_1367 : decode cL_law 1367 = .ok (.iconst 1, 1) := by decide +kernel
theorem dL_law_1368 : decode cL_law 1368 = .ok (.iadd, 1) := by decide +kernel
theorem dL_law_1369 : decode cL_law 1369 = .ok (.iaload, 1) := by decide +kernel
theorem dL_law_1370 : decode cL_law 1370 = .ok (.invokevirtual 153, 3) := by decide +kernel
theorem dL_law_1373 : decode cL_law 1373 = .ok (.istore 6, 2) := by decide +kernel
theorem dL_law_1375 : decode cL_law 1375 = .ok (.aload_n 2, 1) := by decide +kernel
theorem dL_law_1376 : decode cL_law 1376 = .ok (.invokevirtual 98, 3) := by decide +kernel
theorem dL_law_1379 : decode cL_law 1379 = .ok (.iload 5, 2) := by decide +kernel
theorem dL_law_1381 : decode cL_law 1381 = .ok (.if_icmp .eq 5, 3) := by decide +kernel
theorem dL_law_1386 : decode cL_law 1386 = .ok (.iload 5, 2) := by decide +kernel
theorem dL_law_1388 : decode cL_law 1388 = .ok (.ifCond .ne 15, 3) := by decide +kernel
theorem dL_law_1403 : decode cL_law 1403 = .ok (.goto 410, 3) := by decide +kernel
theorem dL_law_1391 : decode cL_law 1391 = .ok (.aload_n 3, 1) := by decide +kernel
theorem dL_law_1392 : decode cL_law 1392 = .ok (.iconst 0, 1) := by decide +kernel
theorem dL_law_1393 : decode cL_law 1393 = .ok (.laload, 1) := by decide +kernel
theorem dL_law_1394 : decode cL_law 1394 = .ok (.iload 6, 2) := by decide +kernel
theorem dL_law_1396 : decode cL_law 1396 = .ok (.i2l, 1) := by decide +kernel
theorem dL_law_1397 : decode cL_law 1397 = .ok (.lcmp, 1) := by decide +kernel
theorem dL_law_1398 : decode cL_law 1398 = .ok (.ifCond .eq 5, 3) := by decide +kernel
theorem dL_law_911 : decode cL_law 911 = .ok (.aload_n 1, 1) := by decide +kernel
theorem dL_law_912 : decode cL_law 912 = .ok (.aload_n 0, 1) := by decide +kernel
theorem dL_law_913 : decode cL_law 913 = .ok (.iload 4, 2) := by decide +kernel
theorem dL_law_915 : decode cL_law 915 = .ok (.iconst 1, 1) := by decide +kernel
theorem dL_law_916 : decode cL_law 916 = .ok (.iadd, 1) := by decide +kernel
theorem dL_law_917 : decode cL_law 917 = .ok (.iaload, 1) := by decide +kernel
theorem dL_law_918 : decode cL_law 918 = .ok (.aload_n 3, 1) := by decide +kernel
theorem dL_law_919 : decode cL_law 919 = .ok (.invokestatic 132, 3) := by decide +kernel
theorem dL_law_922 : decode cL_law 922 = .ok (.istore 5, 2) := by decide +kernel
theorem dL_law_924 : decode cL_law 924 = .ok (.aload_n 2, 1) := by decide +kernel
theorem dL_law_925 : decode cL_law 925 = .ok (.aload_n 0, 1) := by decide +kernel
theorem dL_law_926 : decode cL_law 926 = .ok (.iload 4, 2) := by decide +kernel
theorem dL_law_928 : decode cL_law 928 = .ok (.iconst 1, 1) := by decide +kernel
theorem dL_law_929 : decode cL_law 929 = .ok (.iadd, 1) := by decide +kernel
theorem dL_law_930 : decode cL_law 930 = .ok (.iaload, 1) := by decide +kernel
theorem dL_law_931 : decode cL_law 931 = .ok (.invokevirtual 135, 3) := by decide +kernel
theorem dL_law_934 : decode cL_law 934 = .ok (.istore 6, 2) := by decide +kernel
theorem dL_law_936 : decode cL_law 936 = .ok (.aload_n 2, 1) := by decide +kernel
theorem dL_law_937 : decode cL_law 937 = .ok (.invokevirtual 98, 3) := by decide +kernel
theorem dL_law_940 : decode cL_law 940 = .ok (.iload 5, 2) := by decide +kernel
theorem dL_law_942 : decode cL_law 942 = .ok (.if_icmp .eq 5, 3) := by decide +kernel
theorem dL_law_947 : decode cL_law 947 = .ok (.iload 5, 2) := by decide +kernel
theorem dL_law_949 : decode cL_law 949 = .ok (.ifCond .ne 15, 3) := by decide +kernel
theorem dL_law_964 : decode cL_law 964 = .ok (.goto 849, 3) := by decide +kernel
theorem dL_law_952 : decode cL_law 952 = .ok (.aload_n 3, 1) := by decide +kernel
theorem dL_law_953 : decode cL_law 953 = .ok (.iconst 0, 1) := by decide +kernel
theorem dL_law_954 : decode cL_law 954 = .ok (.laload, 1) := by decide +kernel
theorem dL_law_955 : decode cL_law 955 = .ok (.iload 6, 2) := by decide +kernel
theorem dL_law_957 : decode cL_law 957 = .ok (.i2l, 1) := by decide +kernel
theorem dL_law_958 : decode cL_law 958 = .ok (.lcmp, 1) := by decide +kernel
theorem dL_law_959 : decode cL_law 959 = .ok (.ifCond .eq 5, 3) := by decide +kernel
theorem dL_law_1406 : decode cL_law 1406 = .ok (.aload_n 1, 1) := by decide +kernel
theorem dL_law_1407 : decode cL_law 1407 = .ok (.invokevirtual 154, 3) := by decide +kernel
theorem dL_law_1410 : decode cL_law 1410 = .ok (.dstore 5, 2) := by decide +kernel
theorem dL_law_1412 : decode cL_law 1412 = .ok (.aload_n 2, 1) := by decide +kernel
theorem dL_law_1413 : decode cL_law 1413 = .ok (.invokevirtual 158, 3) := by decide +kernel
theorem dL_law_1416 : decode cL_law 1416 = .ok (.dstore 7, 2) := by decide +kernel
theorem dL_law_1418 : decode cL_law 1418 = .ok (.dload 5, 2) := by decide +kernel
theorem dL_law_1420 : decode cL_law 1420 = .ok (.dload 7, 2) := by decide +kernel
theorem dL_law_1422 : decode cL_law 1422 = .ok (.dcmp .l, 1) := by decide +kernel
theorem dL_law_1423 : decode cL_law 1423 = .ok (.ifCond .eq 21, 3) := by decide +kernel
theorem dL_law_1444 : decode cL_law 1444 = .ok (.goto 369, 3) := by decide +kernel
theorem dL_law_1799 : decode cL_law 1799 = .ok (.aload_n 1, 1) := by decide +kernel
theorem dL_law_1800 : decode cL_law 1800 = .ok (.invokevirtual 174, 3) := by decide +kernel
theorem dL_law_1803 : decode cL_law 1803 = .ok (.aload_n 2, 1) := by decide +kernel
theorem dL_law_1804 : decode cL_law 1804 = .ok (.invokevirtual 178, 3) := by decide +kernel
theorem dL_law_1807 : decode cL_law 1807 = .ok (.lcmp, 1) := by decide +kernel
theorem dL_law_1808 : decode cL_law 1808 = .ok (.ifCond .eq 5, 3) := by decide +kernel
/-! ===== the law: its calls, one by one ===== -/
section XS
variable {p : Program} {l : Launch} {e : Env} {R : Room} {s : State} {m : MethodId} {args : Array Value} {below : List Frame} {meth : Method} {c : Code} {Q : State → Prop}
variable {D : va_G} {dA : Nat → ClassId} {cl : List vw_C} {tyL : List FieldType} {B nL : Nat} {cells slots pc : Nat} {lv : List (Nat × Value)} {st : List Value} {w : xW}
variable {cc : ByteArray} {own : String} {Ts : List Cond} {ret : Option FieldType} {nm : String} {b L : Nat} {xs : Nat → Int32}
theorem x_sld (F : x_Fix p s m args meth c cc nL own Ts ret nm D dA cl tyL B) (hX : va_X b L xs s s.heap) (hb : b < B) {i : Int32} (hin : vp_in i L) (hd : decode cc pc = .ok (.iaload, 1)) (k : X p l e R s m args below meth c Q D dA cl B nL cells slots (pc + 1) lv (.int (xs i.toNatClampNeg) :: st) w) : X p l e R s m args below meth c Q D dA cl B nL cells slots pc lv (.int i :: .ref b :: st) w :=
  fun H locs ls h1 h2 h3 => va_sld F.1 F.2.1 hX (Nat.lt_of_lt_of_le hb F.2.2.2.2.2.2.1) (Nat.not_le.mpr hb) h2 hin hd (k H locs ls h1 h2 h3)
theorem x_slen (F : x_Fix p s m args meth c cc nL own Ts ret nm D dA cl tyL B) (hX : va_X b L xs s s.heap) (hb : b < B) (hd : decode cc pc = .ok (.arraylength, 1)) (k : X p l e R s m args below meth c Q D dA cl B nL cells slots (pc + 1) lv (.int (nI L) :: st) w) : X p l e R s m args below meth c Q D dA cl B nL cells slots pc lv (.ref b :: st) w :=
  fun H locs ls h1 h2 h3 => va_slen F.1 F.2.1 hX (Nat.lt_of_lt_of_le hb F.2.2.2.2.2.2.1) (Nat.not_le.mpr hb) h2 hd (k H locs ls h1 h2 h3)
end XS
section LAW
variable {p : Program} {l : Launch} {e : Env} {s : State} {m : MethodId} {below : List Frame} {meth : Method} {c : Code} {Q : State → Prop}
variable {D : va_G} {dA : Nat → ClassId} {B : Nat} {w : xW} {rt : Option FieldType} {nm : String} {b : Nat} {xs : Nat → Int32} {M Fa Ca Aa Ro Tr mo re fa cl ad ca o : Nat} {f : Nat → Int64}
theorem MR.keep {w1 : xW} {n : Int32} (hF : FR w M Fa Ca Aa Ro Tr n) (hM : MR w (dA 99) mo re fa cl ad ca 0 0) (ho : w o = some (aL 1 f)) (hk : ∀ a x, w a = some x → ¬ a = M → ¬ a = Fa → ¬ a = o → w1 a = some x) : MR w1 (dA 99) mo re fa cl ad ca 0 0 := by
  obtain ⟨h0, h1, h2, h3, h4, h5⟩ := hM
  have k (a : Nat) (x : List Value) (ci : Nat) (ha : w a = some (.inr (ci, x))) (hc : ¬ ci = 5) : w1 a = some (.inr (ci, x)) := hk a _ ha (w_ne ha hF.1 (fun z => by cases z; exact hc rfl)) (w_ne ha hF.2.1 (fun z => by cases z)) (w_ne ha ho (fun z => by cases z))
  exact ⟨k _ _ _ h0 (by decide), k _ _ _ h1 (by decide), k _ _ _ h2 (by decide), k _ _ _ h3 (by decide), k _ _ _ h4 (by decide), k _ _ _ h5 (by decide)⟩
theorem lt01 {x : Int32} (q : x < 0) : x < 1 := by
  rw [Int32.lt_iff_toInt_lt] at q ⊢
  have e0 : (0 : Int32).toInt = 0 := by decide
  have e1 : (1 : Int32).toInt = 1 := by decide
  rw [e0] at q
  rw [e1]
  omega
set_option maxRecDepth 100000 in
set_option maxHeartbeats 4000000 in
theorem law_publish (F : x_Fix p s m #[.ref b] meth c cL_law 9 RL xTs rt nm D dA vwC1 tyL1 B) (hX : va_X b 6 xs s s.heap) (hbB : b < B) (hl : l.stackTraces = false) (hF : FR w M Fa Ca Aa Ro Tr 0) (hM : MR w (dA 99) mo re fa cl ad ca 0 0) (ho : w o = some (aL 1 f)) (NEXT : ∀ w1, X p l e room_1 s m #[.ref b] below meth c Q D dA vwC1 B 9 40 200 1813 [(0, .ref b), (1, .ref M), (2, .ref mo), (3, .ref o), (4, .int 0)] [] w1) : X p l e room_1 s m #[.ref b] below meth c Q D dA vwC1 B 9 15 73 196 [(0, .ref b), (1, .ref M), (2, .ref mo), (3, .ref o), (4, .int 0)] [] w := by
  refine x_aload_n F dL_law_196 rfl rfl ?_
  refine x_aload_n F dL_law_197 rfl rfl ?_
  refine x_iload F dL_law_198 rfl ?_
  refine x_iconst (v := 1) F dL_law_200 (by decide) ?_
  refine x_iadd F dL_law_201 ?_
  refine x_sld F hX hbB (by unfold vp_in; decide) dL_law_202 ?_
  refine x_aload_n F dL_law_203 rfl rfl ?_
  refine x_iload F dL_law_204 rfl ?_
  refine x_iconst (v := 2) F dL_law_206 (by decide) ?_
  refine x_iadd F dL_law_207 ?_
  refine x_sld F hX hbB (by unfold vp_in; decide) dL_law_208 ?_
  refine x_aload_n F dL_law_209 rfl rfl ?_
  refine x_iload F dL_law_210 rfl ?_
  refine x_iconst (v := 3) F dL_law_212 (by decide) ?_
  refine x_iadd F dL_law_213 ?_
  refine x_sld F hX hbB (by unfold vp_in; decide) dL_law_214 ?_
  refine x_aload_n F dL_law_215 rfl rfl ?_
  refine x_callSW (av := [.ref M, .int _, .int _, .int _, .ref o]) (rest := []) F dL_law_216 (x_gSW q154 q155 q0 q156) (w_publish hl hF _ _ _ o) rfl rfl rfl xd_L_publish ⟨Nat.le_of_ble_eq_true rfl, Nat.le_of_ble_eq_true rfl⟩ ⟨Nat.le_of_ble_eq_true rfl, Nat.le_of_ble_eq_true rfl⟩ rfl rfl (Nat.le_of_ble_eq_true rfl) (fun v1 w1 hp => ?_)
  obtain ⟨rfl, hw8⟩ := hp
  replace hw8 := hw8.symm
  subst hw8
  refine x_istore F dL_law_219 (by decide) ?_
  refine x_aload_n F dL_law_221 rfl rfl ?_
  refine x_aload_n F dL_law_222 rfl rfl ?_
  refine x_iload F dL_law_223 rfl ?_
  refine x_iconst (v := 1) F dL_law_225 (by decide) ?_
  refine x_iadd F dL_law_226 ?_
  refine x_sld F hX hbB (by unfold vp_in; decide) dL_law_227 ?_
  refine x_aload_n F dL_law_228 rfl rfl ?_
  refine x_iload F dL_law_229 rfl ?_
  refine x_iconst (v := 2) F dL_law_231 (by decide) ?_
  refine x_iadd F dL_law_232 ?_
  refine x_sld F hX hbB (by unfold vp_in; decide) dL_law_233 ?_
  refine x_aload_n F dL_law_234 rfl rfl ?_
  refine x_iload F dL_law_235 rfl ?_
  refine x_iconst (v := 3) F dL_law_237 (by decide) ?_
  refine x_iadd F dL_law_238 ?_
  refine x_sld F hX hbB (by unfold vp_in; decide) dL_law_239 ?_
  refine x_cVi3 (ci := 7) (C := RX12) (T := TX12) (N := 2) F dL_law_240 (x_gV q426 q427 q428 q5 q429) rfl (m_publish hM _ _ _) ⟨rfl, rfl, rfl, xd_X12_publish, ⟨Nat.le_of_ble_eq_true rfl, Nat.le_of_ble_eq_true rfl⟩, Nat.le_of_ble_eq_true rfl, Nat.le_of_ble_eq_true rfl⟩ rfl hM.1 (Nat.le_of_ble_eq_true rfl) (fun v1 w1 hp => ?_)
  obtain ⟨rfl, hw9⟩ := hp
  have h_m : w1 mo = some (oM 1 re) := by rw [hw9]; exact x_set_eq _ _ _
  refine x_istore F dL_law_243 (by decide) ?_
  refine x_aload_n F dL_law_245 rfl rfl ?_
  refine x_cVi0 (ci := 7) (C := RX12) (T := TX12) (N := 2) F dL_law_246 (x_gV q389 q390 q391 q5 q392) rfl (m_thr h_m) ⟨rfl, rfl, rfl, xd_X12_thrown, ⟨Nat.le_of_ble_eq_true rfl, Nat.le_of_ble_eq_true rfl⟩, Nat.le_of_ble_eq_true rfl, Nat.le_of_ble_eq_true rfl⟩ rfl h_m (Nat.le_of_ble_eq_true rfl) (fun v1 w1 hp => ?_)
  obtain ⟨rfl, hw8⟩ := hp
  replace hw8 := hw8.symm
  subst hw8
  refine x_iload F dL_law_249 rfl ?_
  refine x_icmp_eq F dL_law_251 rfl (fun _ => ?_) (fun hc => absurd hc (by decide))
  refine x_iload F dL_law_256 rfl ?_
  refine x_if_ne F dL_law_258 rfl (fun _ => ?_) (fun hc => absurd hc (by decide))
  refine x_goto F dL_law_273 rfl ?_
  exact x_widen (Nat.le_of_ble_eq_true rfl) (Nat.le_of_ble_eq_true rfl) (x_lk (NEXT _) ⟨rfl, rfl, rfl, rfl, rfl, trivial⟩)
set_option maxRecDepth 100000 in
set_option maxHeartbeats 4000000 in
theorem law_ofVersion (F : x_Fix p s m #[.ref b] meth c cL_law 9 RL xTs rt nm D dA vwC1 tyL1 B) (hX : va_X b 6 xs s s.heap) (hbB : b < B) (hl : l.stackTraces = false) (hF : FR w M Fa Ca Aa Ro Tr 0) (hM : MR w (dA 99) mo re fa cl ad ca 0 0) (ho : w o = some (aL 1 f)) (NEXT : ∀ w1, X p l e room_1 s m #[.ref b] below meth c Q D dA vwC1 B 9 40 200 1813 [(0, .ref b), (1, .ref M), (2, .ref mo), (3, .ref o), (4, .int 0)] [] w1) : X p l e room_1 s m #[.ref b] below meth c Q D dA vwC1 B 9 15 73 276 [(0, .ref b), (1, .ref M), (2, .ref mo), (3, .ref o), (4, .int 0)] [] w := by
  refine x_aload_n F dL_law_276 rfl rfl ?_
  refine x_aload_n F dL_law_277 rfl rfl ?_
  refine x_iload F dL_law_278 rfl ?_
  refine x_iconst (v := 1) F dL_law_280 (by decide) ?_
  refine x_iadd F dL_law_281 ?_
  refine x_sld F hX hbB (by unfold vp_in; decide) dL_law_282 ?_
  refine x_aload_n F dL_law_283 rfl rfl ?_
  refine x_iload F dL_law_284 rfl ?_
  refine x_iconst (v := 2) F dL_law_286 (by decide) ?_
  refine x_iadd F dL_law_287 ?_
  refine x_sld F hX hbB (by unfold vp_in; decide) dL_law_288 ?_
  refine x_aload_n F dL_law_289 rfl rfl ?_
  refine x_iload F dL_law_290 rfl ?_
  refine x_iconst (v := 3) F dL_law_292 (by decide) ?_
  refine x_iadd F dL_law_293 ?_
  refine x_sld F hX hbB (by unfold vp_in; decide) dL_law_294 ?_
  refine x_aload_n F dL_law_295 rfl rfl ?_
  refine x_callSW (av := [.ref M, .int _, .int _, .int _, .ref o]) (rest := []) F dL_law_296 (x_gSW q178 q179 q0 q180) (w_ofVersion hl hF _ _ _ o) rfl rfl rfl xd_L_ofVersion ⟨Nat.le_of_ble_eq_true rfl, Nat.le_of_ble_eq_true rfl⟩ ⟨Nat.le_of_ble_eq_true rfl, Nat.le_of_ble_eq_true rfl⟩ rfl rfl (Nat.le_of_ble_eq_true rfl) (fun v1 w1 hp => ?_)
  obtain ⟨rfl, hw8⟩ := hp
  replace hw8 := hw8.symm
  subst hw8
  refine x_istore F dL_law_299 (by decide) ?_
  refine x_aload_n F dL_law_301 rfl rfl ?_
  refine x_aload_n F dL_law_302 rfl rfl ?_
  refine x_iload F dL_law_303 rfl ?_
  refine x_iconst (v := 1) F dL_law_305 (by decide) ?_
  refine x_iadd F dL_law_306 ?_
  refine x_sld F hX hbB (by unfold vp_in; decide) dL_law_307 ?_
  refine x_aload_n F dL_law_308 rfl rfl ?_
  refine x_iload F dL_law_309 rfl ?_
  refine x_iconst (v := 2) F dL_law_311 (by decide) ?_
  refine x_iadd F dL_law_312 ?_
  refine x_sld F hX hbB (by unfold vp_in; decide) dL_law_313 ?_
  refine x_aload_n F dL_law_314 rfl rfl ?_
  refine x_iload F dL_law_315 rfl ?_
  refine x_iconst (v := 3) F dL_law_317 (by decide) ?_
  refine x_iadd F dL_law_318 ?_
  refine x_sld F hX hbB (by unfold vp_in; decide) dL_law_319 ?_
  refine x_cVi3 (ci := 7) (C := RX12) (T := TX12) (N := 2) F dL_law_320 (x_gV q473 q474 q475 q5 q476) rfl (m_ofVersion hM _ _ _) ⟨rfl, rfl, rfl, xd_X12_ofVersion, ⟨Nat.le_of_ble_eq_true rfl, Nat.le_of_ble_eq_true rfl⟩, Nat.le_of_ble_eq_true rfl, Nat.le_of_ble_eq_true rfl⟩ rfl hM.1 (Nat.le_of_ble_eq_true rfl) (fun v1 w1 hp => ?_)
  obtain ⟨rfl, hw9⟩ := hp
  have h_m : w1 mo = some (oM 1 re) := by rw [hw9]; exact x_set_eq _ _ _
  refine x_istore F dL_law_323 (by decide) ?_
  refine x_aload_n F dL_law_325 rfl rfl ?_
  refine x_cVi0 (ci := 7) (C := RX12) (T := TX12) (N := 2) F dL_law_326 (x_gV q389 q390 q391 q5 q392) rfl (m_thr h_m) ⟨rfl, rfl, rfl, xd_X12_thrown, ⟨Nat.le_of_ble_eq_true rfl, Nat.le_of_ble_eq_true rfl⟩, Nat.le_of_ble_eq_true rfl, Nat.le_of_ble_eq_true rfl⟩ rfl h_m (Nat.le_of_ble_eq_true rfl) (fun v1 w1 hp => ?_)
  obtain ⟨rfl, hw8⟩ := hp
  replace hw8 := hw8.symm
  subst hw8
  refine x_iload F dL_law_329 rfl ?_
  refine x_icmp_eq F dL_law_331 rfl (fun _ => ?_) (fun hc => absurd hc (by decide))
  refine x_iload F dL_law_336 rfl ?_
  refine x_if_ne F dL_law_338 rfl (fun _ => ?_) (fun hc => absurd hc (by decide))
  refine x_goto F dL_law_353 rfl ?_
  exact x_widen (Nat.le_of_ble_eq_true rfl) (Nat.le_of_ble_eq_true rfl) (x_lk (NEXT _) ⟨rfl, rfl, rfl, rfl, rfl, trivial⟩)
set_option maxRecDepth 100000 in
set_option maxHeartbeats 4000000 in
theorem law_isCompatible (F : x_Fix p s m #[.ref b] meth c cL_law 9 RL xTs rt nm D dA vwC1 tyL1 B) (hX : va_X b 6 xs s s.heap) (hbB : b < B) (hl : l.stackTraces = false) (hF : FR w M Fa Ca Aa Ro Tr 0) (hM : MR w (dA 99) mo re fa cl ad ca 0 0) (ho : w o = some (aL 1 f)) (NEXT : ∀ w1, X p l e room_1 s m #[.ref b] below meth c Q D dA vwC1 B 9 40 200 1813 [(0, .ref b), (1, .ref M), (2, .ref mo), (3, .ref o), (4, .int 0)] [] w1) : X p l e room_1 s m #[.ref b] below meth c Q D dA vwC1 B 9 15 73 356 [(0, .ref b), (1, .ref M), (2, .ref mo), (3, .ref o), (4, .int 0)] [] w := by
  refine x_aload_n F dL_law_356 rfl rfl ?_
  refine x_aload_n F dL_law_357 rfl rfl ?_
  refine x_iload F dL_law_358 rfl ?_
  refine x_iconst (v := 1) F dL_law_360 (by decide) ?_
  refine x_iadd F dL_law_361 ?_
  refine x_sld F hX hbB (by unfold vp_in; decide) dL_law_362 ?_
  refine x_aload_n F dL_law_363 rfl rfl ?_
  refine x_iload F dL_law_364 rfl ?_
  refine x_iconst (v := 2) F dL_law_366 (by decide) ?_
  refine x_iadd F dL_law_367 ?_
  refine x_sld F hX hbB (by unfold vp_in; decide) dL_law_368 ?_
  refine x_aload_n F dL_law_369 rfl rfl ?_
  refine x_iload F dL_law_370 rfl ?_
  refine x_iconst (v := 3) F dL_law_372 (by decide) ?_
  refine x_iadd F dL_law_373 ?_
  refine x_sld F hX hbB (by unfold vp_in; decide) dL_law_374 ?_
  refine x_aload_n F dL_law_375 rfl rfl ?_
  refine x_callSW (av := [.ref M, .int _, .int _, .int _, .ref o]) (rest := []) F dL_law_376 (x_gSW q185 q186 q0 q187) (w_isCompatible hl hF _ _ _ o) rfl rfl rfl xd_L_isCompatible ⟨Nat.le_of_ble_eq_true rfl, Nat.le_of_ble_eq_true rfl⟩ ⟨Nat.le_of_ble_eq_true rfl, Nat.le_of_ble_eq_true rfl⟩ rfl rfl (Nat.le_of_ble_eq_true rfl) (fun v1 w1 hp => ?_)
  obtain ⟨rfl, hw8⟩ := hp
  replace hw8 := hw8.symm
  subst hw8
  refine x_istore F dL_law_379 (by decide) ?_
  refine x_aload_n F dL_law_381 rfl rfl ?_
  refine x_aload_n F dL_law_382 rfl rfl ?_
  refine x_iload F dL_law_383 rfl ?_
  refine x_iconst (v := 1) F dL_law_385 (by decide) ?_
  refine x_iadd F dL_law_386 ?_
  refine x_sld F hX hbB (by unfold vp_in; decide) dL_law_387 ?_
  refine x_aload_n F dL_law_388 rfl rfl ?_
  refine x_iload F dL_law_389 rfl ?_
  refine x_iconst (v := 2) F dL_law_391 (by decide) ?_
  refine x_iadd F dL_law_392 ?_
  refine x_sld F hX hbB (by unfold vp_in; decide) dL_law_393 ?_
  refine x_aload_n F dL_law_394 rfl rfl ?_
  refine x_iload F dL_law_395 rfl ?_
  refine x_iconst (v := 3) F dL_law_397 (by decide) ?_
  refine x_iadd F dL_law_398 ?_
  refine x_sld F hX hbB (by unfold vp_in; decide) dL_law_399 ?_
  refine x_cVi3 (ci := 7) (C := RX12) (T := TX12) (N := 2) F dL_law_400 (x_gV q490 q491 q492 q5 q493) rfl (m_isCompatible hM _ _ _) ⟨rfl, rfl, rfl, xd_X12_isCompatible, ⟨Nat.le_of_ble_eq_true rfl, Nat.le_of_ble_eq_true rfl⟩, Nat.le_of_ble_eq_true rfl, Nat.le_of_ble_eq_true rfl⟩ rfl hM.1 (Nat.le_of_ble_eq_true rfl) (fun v1 w1 hp => ?_)
  obtain ⟨rfl, hw9⟩ := hp
  have h_m : w1 mo = some (oM 1 re) := by rw [hw9]; exact x_set_eq _ _ _
  refine x_istore F dL_law_403 (by decide) ?_
  refine x_aload_n F dL_law_405 rfl rfl ?_
  refine x_cVi0 (ci := 7) (C := RX12) (T := TX12) (N := 2) F dL_law_406 (x_gV q389 q390 q391 q5 q392) rfl (m_thr h_m) ⟨rfl, rfl, rfl, xd_X12_thrown, ⟨Nat.le_of_ble_eq_true rfl, Nat.le_of_ble_eq_true rfl⟩, Nat.le_of_ble_eq_true rfl, Nat.le_of_ble_eq_true rfl⟩ rfl h_m (Nat.le_of_ble_eq_true rfl) (fun v1 w1 hp => ?_)
  obtain ⟨rfl, hw8⟩ := hp
  replace hw8 := hw8.symm
  subst hw8
  refine x_iload F dL_law_409 rfl ?_
  refine x_icmp_eq F dL_law_411 rfl (fun _ => ?_) (fun hc => absurd hc (by decide))
  refine x_iload F dL_law_416 rfl ?_
  refine x_if_ne F dL_law_418 rfl (fun _ => ?_) (fun hc => absurd hc (by decide))
  refine x_goto F dL_law_440 rfl ?_
  exact x_widen (Nat.le_of_ble_eq_true rfl) (Nat.le_of_ble_eq_true rfl) (x_lk (NEXT _) ⟨rfl, rfl, rfl, rfl, rfl, trivial⟩)
set_option maxRecDepth 100000 in
set_option maxHeartbeats 4000000 in
theorem law_client (F : x_Fix p s m #[.ref b] meth c cL_law 9 RL xTs rt nm D dA vwC1 tyL1 B) (hX : va_X b 6 xs s s.heap) (hbB : b < B) (hl : l.stackTraces = false) (hF : FR w M Fa Ca Aa Ro Tr 0) (hM : MR w (dA 99) mo re fa cl ad ca 0 0) (ho : w o = some (aL 1 f)) (NEXT : ∀ w1, X p l e room_1 s m #[.ref b] below meth c Q D dA vwC1 B 9 40 200 1813 [(0, .ref b), (1, .ref M), (2, .ref mo), (3, .ref o), (4, .int 0)] [] w1) : X p l e room_1 s m #[.ref b] below meth c Q D dA vwC1 B 9 15 73 443 [(0, .ref b), (1, .ref M), (2, .ref mo), (3, .ref o), (4, .int 0)] [] w := by
  refine x_aload_n F dL_law_443 rfl rfl ?_
  refine x_aload_n F dL_law_444 rfl rfl ?_
  refine x_iload F dL_law_445 rfl ?_
  refine x_iconst (v := 1) F dL_law_447 (by decide) ?_
  refine x_iadd F dL_law_448 ?_
  refine x_sld F hX hbB (by unfold vp_in; decide) dL_law_449 ?_
  refine x_aload_n F dL_law_450 rfl rfl ?_
  refine x_iload F dL_law_451 rfl ?_
  refine x_iconst (v := 2) F dL_law_453 (by decide) ?_
  refine x_iadd F dL_law_454 ?_
  refine x_sld F hX hbB (by unfold vp_in; decide) dL_law_455 ?_
  refine x_aload_n F dL_law_456 rfl rfl ?_
  refine x_iload F dL_law_457 rfl ?_
  refine x_iconst (v := 3) F dL_law_459 (by decide) ?_
  refine x_iadd F dL_law_460 ?_
  refine x_sld F hX hbB (by unfold vp_in; decide) dL_law_461 ?_
  refine x_aload_n F dL_law_462 rfl rfl ?_
  refine x_iload F dL_law_463 rfl ?_
  refine x_iconst (v := 4) F dL_law_465 (by decide) ?_
  refine x_iadd F dL_law_466 ?_
  refine x_sld F hX hbB (by unfold vp_in; decide) dL_law_467 ?_
  refine x_aload_n F dL_law_468 rfl rfl ?_
  refine x_callSW (av := [.ref M, .int _, .int _, .int _, .int _, .ref o]) (rest := []) F dL_law_469 (x_gSW q192 q193 q0 q194) (w_client hl hF _ _ _ _ o) rfl rfl rfl xd_L_client ⟨Nat.le_of_ble_eq_true rfl, Nat.le_of_ble_eq_true rfl⟩ ⟨Nat.le_of_ble_eq_true rfl, Nat.le_of_ble_eq_true rfl⟩ rfl rfl (Nat.le_of_ble_eq_true rfl) (fun v1 w1 hp => ?_)
  obtain ⟨rfl, hw8⟩ := hp
  replace hw8 := hw8.symm
  subst hw8
  refine x_istore F dL_law_472 (by decide) ?_
  refine x_aload_n F dL_law_474 rfl rfl ?_
  refine x_aload_n F dL_law_475 rfl rfl ?_
  refine x_iload F dL_law_476 rfl ?_
  refine x_iconst (v := 1) F dL_law_478 (by decide) ?_
  refine x_iadd F dL_law_479 ?_
  refine x_sld F hX hbB (by unfold vp_in; decide) dL_law_480 ?_
  refine x_aload_n F dL_law_481 rfl rfl ?_
  refine x_iload F dL_law_482 rfl ?_
  refine x_iconst (v := 2) F dL_law_484 (by decide) ?_
  refine x_iadd F dL_law_485 ?_
  refine x_sld F hX hbB (by unfold vp_in; decide) dL_law_486 ?_
  refine x_aload_n F dL_law_487 rfl rfl ?_
  refine x_iload F dL_law_488 rfl ?_
  refine x_iconst (v := 3) F dL_law_490 (by decide) ?_
  refine x_iadd F dL_law_491 ?_
  refine x_sld F hX hbB (by unfold vp_in; decide) dL_law_492 ?_
  refine x_aload_n F dL_law_493 rfl rfl ?_
  refine x_iload F dL_law_494 rfl ?_
  refine x_iconst (v := 4) F dL_law_496 (by decide) ?_
  refine x_iadd F dL_law_497 ?_
  refine x_sld F hX hbB (by unfold vp_in; decide) dL_law_498 ?_
  refine x_cVi4 (ci := 7) (C := RX12) (T := TX12) (N := 2) F dL_law_499 (x_gV q494 q495 q496 q5 q497) rfl (m_client hM _ _ _ _) ⟨rfl, rfl, rfl, xd_X12_client, ⟨Nat.le_of_ble_eq_true rfl, Nat.le_of_ble_eq_true rfl⟩, Nat.le_of_ble_eq_true rfl, Nat.le_of_ble_eq_true rfl⟩ rfl hM.1 (Nat.le_of_ble_eq_true rfl) (fun v1 w1 hp => ?_)
  obtain ⟨rfl, hw9⟩ := hp
  have h_m : w1 mo = some (oM 1 re) := by rw [hw9]; exact x_set_eq _ _ _
  refine x_istore F dL_law_502 (by decide) ?_
  refine x_aload_n F dL_law_504 rfl rfl ?_
  refine x_cVi0 (ci := 7) (C := RX12) (T := TX12) (N := 2) F dL_law_505 (x_gV q389 q390 q391 q5 q392) rfl (m_thr h_m) ⟨rfl, rfl, rfl, xd_X12_thrown, ⟨Nat.le_of_ble_eq_true rfl, Nat.le_of_ble_eq_true rfl⟩, Nat.le_of_ble_eq_true rfl, Nat.le_of_ble_eq_true rfl⟩ rfl h_m (Nat.le_of_ble_eq_true rfl) (fun v1 w1 hp => ?_)
  obtain ⟨rfl, hw8⟩ := hp
  replace hw8 := hw8.symm
  subst hw8
  refine x_iload F dL_law_508 rfl ?_
  refine x_icmp_eq F dL_law_510 rfl (fun _ => ?_) (fun hc => absurd hc (by decide))
  refine x_iload F dL_law_515 rfl ?_
  refine x_if_ne F dL_law_517 rfl (fun _ => ?_) (fun hc => absurd hc (by decide))
  refine x_goto F dL_law_532 rfl ?_
  exact x_widen (Nat.le_of_ble_eq_true rfl) (Nat.le_of_ble_eq_true rfl) (x_lk (NEXT _) ⟨rfl, rfl, rfl, rfl, rfl, trivial⟩)
set_option maxRecDepth 100000 in
set_option maxHeartbeats 4000000 in
theorem law_again (F : x_Fix p s m #[.ref b] meth c cL_law 9 RL xTs rt nm D dA vwC1 tyL1 B) (hX : va_X b 6 xs s s.heap) (hbB : b < B) (hl : l.stackTraces = false) (hF : FR w M Fa Ca Aa Ro Tr 0) (hM : MR w (dA 99) mo re fa cl ad ca 0 0) (ho : w o = some (aL 1 f)) (NEXT : ∀ w1, X p l e room_1 s m #[.ref b] below meth c Q D dA vwC1 B 9 40 200 1813 [(0, .ref b), (1, .ref M), (2, .ref mo), (3, .ref o), (4, .int 0)] [] w1) : X p l e room_1 s m #[.ref b] below meth c Q D dA vwC1 B 9 15 73 535 [(0, .ref b), (1, .ref M), (2, .ref mo), (3, .ref o), (4, .int 0)] [] w := by
  refine x_aload_n F dL_law_535 rfl rfl ?_
  refine x_aload_n F dL_law_536 rfl rfl ?_
  refine x_iload F dL_law_537 rfl ?_
  refine x_iconst (v := 1) F dL_law_539 (by decide) ?_
  refine x_iadd F dL_law_540 ?_
  refine x_sld F hX hbB (by unfold vp_in; decide) dL_law_541 ?_
  refine x_aload_n F dL_law_542 rfl rfl ?_
  refine x_iload F dL_law_543 rfl ?_
  refine x_iconst (v := 2) F dL_law_545 (by decide) ?_
  refine x_iadd F dL_law_546 ?_
  refine x_sld F hX hbB (by unfold vp_in; decide) dL_law_547 ?_
  refine x_aload_n F dL_law_548 rfl rfl ?_
  refine x_callSW (av := [.ref M, .int _, .int _, .ref o]) (rest := []) F dL_law_549 (x_gSW q207 q208 q0 q209) (w_again hl hF _ _ o) rfl rfl rfl xd_L_again ⟨Nat.le_of_ble_eq_true rfl, Nat.le_of_ble_eq_true rfl⟩ ⟨Nat.le_of_ble_eq_true rfl, Nat.le_of_ble_eq_true rfl⟩ rfl rfl (Nat.le_of_ble_eq_true rfl) (fun v1 w1 hp => ?_)
  obtain ⟨rfl, hw8⟩ := hp
  replace hw8 := hw8.symm
  subst hw8
  refine x_istore F dL_law_552 (by decide) ?_
  refine x_aload_n F dL_law_554 rfl rfl ?_
  refine x_aload_n F dL_law_555 rfl rfl ?_
  refine x_iload F dL_law_556 rfl ?_
  refine x_iconst (v := 1) F dL_law_558 (by decide) ?_
  refine x_iadd F dL_law_559 ?_
  refine x_sld F hX hbB (by unfold vp_in; decide) dL_law_560 ?_
  refine x_aload_n F dL_law_561 rfl rfl ?_
  refine x_iload F dL_law_562 rfl ?_
  refine x_iconst (v := 2) F dL_law_564 (by decide) ?_
  refine x_iadd F dL_law_565 ?_
  refine x_sld F hX hbB (by unfold vp_in; decide) dL_law_566 ?_
  refine x_cVi2 (ci := 7) (C := RX12) (T := TX12) (N := 2) F dL_law_567 (x_gV q507 q508 q509 q5 q510) rfl (m_again hM _ _) ⟨rfl, rfl, rfl, xd_X12_again, ⟨Nat.le_of_ble_eq_true rfl, Nat.le_of_ble_eq_true rfl⟩, Nat.le_of_ble_eq_true rfl, Nat.le_of_ble_eq_true rfl⟩ rfl hM.1 (Nat.le_of_ble_eq_true rfl) (fun v1 w1 hp => ?_)
  obtain ⟨rfl, hw9⟩ := hp
  have h_m : w1 mo = some (oM 1 re) := by rw [hw9]; exact x_set_eq _ _ _
  refine x_istore F dL_law_570 (by decide) ?_
  refine x_aload_n F dL_law_572 rfl rfl ?_
  refine x_cVi0 (ci := 7) (C := RX12) (T := TX12) (N := 2) F dL_law_573 (x_gV q389 q390 q391 q5 q392) rfl (m_thr h_m) ⟨rfl, rfl, rfl, xd_X12_thrown, ⟨Nat.le_of_ble_eq_true rfl, Nat.le_of_ble_eq_true rfl⟩, Nat.le_of_ble_eq_true rfl, Nat.le_of_ble_eq_true rfl⟩ rfl h_m (Nat.le_of_ble_eq_true rfl) (fun v1 w1 hp => ?_)
  obtain ⟨rfl, hw8⟩ := hp
  replace hw8 := hw8.symm
  subst hw8
  refine x_iload F dL_law_576 rfl ?_
  refine x_icmp_eq F dL_law_578 rfl (fun _ => ?_) (fun hc => absurd hc (by decide))
  refine x_iload F dL_law_583 rfl ?_
  refine x_if_ne F dL_law_585 rfl (fun _ => ?_) (fun hc => absurd hc (by decide))
  refine x_goto F dL_law_600 rfl ?_
  exact x_widen (Nat.le_of_ble_eq_true rfl) (Nat.le_of_ble_eq_true rfl) (x_lk (NEXT _) ⟨rfl, rfl, rfl, rfl, rfl, trivial⟩)
set_option maxRecDepth 100000 in
set_option maxHeartbeats 4000000 in
theorem law_adapter (F : x_Fix p s m #[.ref b] meth c cL_law 9 RL xTs rt nm D dA vwC1 tyL1 B) (hX : va_X b 6 xs s s.heap) (hbB : b < B) (hl : l.stackTraces = false) (hF : FR w M Fa Ca Aa Ro Tr 0) (hM : MR w (dA 99) mo re fa cl ad ca 0 0) (ho : w o = some (aL 1 f)) (NEXT : ∀ w1, X p l e room_1 s m #[.ref b] below meth c Q D dA vwC1 B 9 40 200 1813 [(0, .ref b), (1, .ref M), (2, .ref mo), (3, .ref o), (4, .int 0)] [] w1) : X p l e room_1 s m #[.ref b] below meth c Q D dA vwC1 B 9 15 73 603 [(0, .ref b), (1, .ref M), (2, .ref mo), (3, .ref o), (4, .int 0)] [] w := by
  refine x_aload_n F dL_law_603 rfl rfl ?_
  refine x_aload_n F dL_law_604 rfl rfl ?_
  refine x_iload F dL_law_605 rfl ?_
  refine x_iconst (v := 1) F dL_law_607 (by decide) ?_
  refine x_iadd F dL_law_608 ?_
  refine x_sld F hX hbB (by unfold vp_in; decide) dL_law_609 ?_
  refine x_aload_n F dL_law_610 rfl rfl ?_
  refine x_iload F dL_law_611 rfl ?_
  refine x_iconst (v := 2) F dL_law_613 (by decide) ?_
  refine x_iadd F dL_law_614 ?_
  refine x_sld F hX hbB (by unfold vp_in; decide) dL_law_615 ?_
  refine x_aload_n F dL_law_616 rfl rfl ?_
  refine x_iload F dL_law_617 rfl ?_
  refine x_iconst (v := 3) F dL_law_619 (by decide) ?_
  refine x_iadd F dL_law_620 ?_
  refine x_sld F hX hbB (by unfold vp_in; decide) dL_law_621 ?_
  refine x_aload_n F dL_law_622 rfl rfl ?_
  refine x_iload F dL_law_623 rfl ?_
  refine x_iconst (v := 4) F dL_law_625 (by decide) ?_
  refine x_iadd F dL_law_626 ?_
  refine x_sld F hX hbB (by unfold vp_in; decide) dL_law_627 ?_
  refine x_aload_n F dL_law_628 rfl rfl ?_
  refine x_iload F dL_law_629 rfl ?_
  refine x_iconst (v := 5) F dL_law_631 (by decide) ?_
  refine x_iadd F dL_law_632 ?_
  refine x_sld F hX hbB (by unfold vp_in; decide) dL_law_633 ?_
  refine x_aload_n F dL_law_634 rfl rfl ?_
  refine x_callSW (av := [.ref M, .int _, .int _, .int _, .int _, .int _, .ref o]) (rest := []) F dL_law_635 (x_gSW q217 q218 q0 q219) (w_adapter hl hF _ _ _ _ _ o) rfl rfl rfl xd_L_adapter ⟨Nat.le_of_ble_eq_true rfl, Nat.le_of_ble_eq_true rfl⟩ ⟨Nat.le_of_ble_eq_true rfl, Nat.le_of_ble_eq_true rfl⟩ rfl rfl (Nat.le_of_ble_eq_true rfl) (fun v1 w1 hp => ?_)
  obtain ⟨rfl, hw8⟩ := hp
  replace hw8 := hw8.symm
  subst hw8
  refine x_istore F dL_law_638 (by decide) ?_
  refine x_aload_n F dL_law_640 rfl rfl ?_
  refine x_aload_n F dL_law_641 rfl rfl ?_
  refine x_iload F dL_law_642 rfl ?_
  refine x_iconst (v := 1) F dL_law_644 (by decide) ?_
  refine x_iadd F dL_law_645 ?_
  refine x_sld F hX hbB (by unfold vp_in; decide) dL_law_646 ?_
  refine x_aload_n F dL_law_647 rfl rfl ?_
  refine x_iload F dL_law_648 rfl ?_
  refine x_iconst (v := 2) F dL_law_650 (by decide) ?_
  refine x_iadd F dL_law_651 ?_
  refine x_sld F hX hbB (by unfold vp_in; decide) dL_law_652 ?_
  refine x_aload_n F dL_law_653 rfl rfl ?_
  refine x_iload F dL_law_654 rfl ?_
  refine x_iconst (v := 3) F dL_law_656 (by decide) ?_
  refine x_iadd F dL_law_657 ?_
  refine x_sld F hX hbB (by unfold vp_in; decide) dL_law_658 ?_
  refine x_aload_n F dL_law_659 rfl rfl ?_
  refine x_iload F dL_law_660 rfl ?_
  refine x_iconst (v := 4) F dL_law_662 (by decide) ?_
  refine x_iadd F dL_law_663 ?_
  refine x_sld F hX hbB (by unfold vp_in; decide) dL_law_664 ?_
  refine x_aload_n F dL_law_665 rfl rfl ?_
  refine x_iload F dL_law_666 rfl ?_
  refine x_iconst (v := 5) F dL_law_668 (by decide) ?_
  refine x_iadd F dL_law_669 ?_
  refine x_sld F hX hbB (by unfold vp_in; decide) dL_law_670 ?_
  refine x_cVi5 (ci := 7) (C := RX12) (T := TX12) (N := 2) F dL_law_671 (x_gV q517 q518 q519 q5 q520) rfl (m_adapter hM _ _ _ _ _) ⟨rfl, rfl, rfl, xd_X12_adapter, ⟨Nat.le_of_ble_eq_true rfl, Nat.le_of_ble_eq_true rfl⟩, Nat.le_of_ble_eq_true rfl, Nat.le_of_ble_eq_true rfl⟩ rfl hM.1 (Nat.le_of_ble_eq_true rfl) (fun v1 w1 hp => ?_)
  obtain ⟨rfl, hw9⟩ := hp
  have h_m : w1 mo = some (oM 1 re) := by rw [hw9]; exact x_set_eq _ _ _
  refine x_istore F dL_law_674 (by decide) ?_
  refine x_aload_n F dL_law_676 rfl rfl ?_
  refine x_cVi0 (ci := 7) (C := RX12) (T := TX12) (N := 2) F dL_law_677 (x_gV q389 q390 q391 q5 q392) rfl (m_thr h_m) ⟨rfl, rfl, rfl, xd_X12_thrown, ⟨Nat.le_of_ble_eq_true rfl, Nat.le_of_ble_eq_true rfl⟩, Nat.le_of_ble_eq_true rfl, Nat.le_of_ble_eq_true rfl⟩ rfl h_m (Nat.le_of_ble_eq_true rfl) (fun v1 w1 hp => ?_)
  obtain ⟨rfl, hw8⟩ := hp
  replace hw8 := hw8.symm
  subst hw8
  refine x_iload F dL_law_680 rfl ?_
  refine x_icmp_eq F dL_law_682 rfl (fun _ => ?_) (fun hc => absurd hc (by decide))
  refine x_iload F dL_law_687 rfl ?_
  refine x_if_ne F dL_law_689 rfl (fun _ => ?_) (fun hc => absurd hc (by decide))
  refine x_goto F dL_law_704 rfl ?_
  exact x_widen (Nat.le_of_ble_eq_true rfl) (Nat.le_of_ble_eq_true rfl) (x_lk (NEXT _) ⟨rfl, rfl, rfl, rfl, rfl, trivial⟩)
set_option maxRecDepth 100000 in
set_option maxHeartbeats 4000000 in
theorem law_ofClient (F : x_Fix p s m #[.ref b] meth c cL_law 9 RL xTs rt nm D dA vwC1 tyL1 B) (hX : va_X b 6 xs s s.heap) (hbB : b < B) (hl : l.stackTraces = false) (hF : FR w M Fa Ca Aa Ro Tr 0) (hM : MR w (dA 99) mo re fa cl ad ca 0 0) (ho : w o = some (aL 1 f)) (NEXT : ∀ w1, X p l e room_1 s m #[.ref b] below meth c Q D dA vwC1 B 9 40 200 1813 [(0, .ref b), (1, .ref M), (2, .ref mo), (3, .ref o), (4, .int 0)] [] w1) : X p l e room_1 s m #[.ref b] below meth c Q D dA vwC1 B 9 15 73 707 [(0, .ref b), (1, .ref M), (2, .ref mo), (3, .ref o), (4, .int 0)] [] w := by
  refine x_aload_n F dL_law_707 rfl rfl ?_
  refine x_aload_n F dL_law_708 rfl rfl ?_
  refine x_iload F dL_law_709 rfl ?_
  refine x_iconst (v := 1) F dL_law_711 (by decide) ?_
  refine x_iadd F dL_law_712 ?_
  refine x_sld F hX hbB (by unfold vp_in; decide) dL_law_713 ?_
  refine x_aload_n F dL_law_714 rfl rfl ?_
  refine x_iload F dL_law_715 rfl ?_
  refine x_iconst (v := 2) F dL_law_717 (by decide) ?_
  refine x_iadd F dL_law_718 ?_
  refine x_sld F hX hbB (by unfold vp_in; decide) dL_law_719 ?_
  refine x_aload_n F dL_law_720 rfl rfl ?_
  refine x_callSW (av := [.ref M, .int _, .int _, .ref o]) (rest := []) F dL_law_721 (x_gSW q227 q228 q0 q229) (w_ofClient hl hF _ _ o) rfl rfl rfl xd_L_ofClient ⟨Nat.le_of_ble_eq_true rfl, Nat.le_of_ble_eq_true rfl⟩ ⟨Nat.le_of_ble_eq_true rfl, Nat.le_of_ble_eq_true rfl⟩ rfl rfl (Nat.le_of_ble_eq_true rfl) (fun v1 w1 hp => ?_)
  obtain ⟨rfl, hw8⟩ := hp
  replace hw8 := hw8.symm
  subst hw8
  refine x_istore F dL_law_724 (by decide) ?_
  refine x_aload_n F dL_law_726 rfl rfl ?_
  refine x_aload_n F dL_law_727 rfl rfl ?_
  refine x_iload F dL_law_728 rfl ?_
  refine x_iconst (v := 1) F dL_law_730 (by decide) ?_
  refine x_iadd F dL_law_731 ?_
  refine x_sld F hX hbB (by unfold vp_in; decide) dL_law_732 ?_
  refine x_aload_n F dL_law_733 rfl rfl ?_
  refine x_iload F dL_law_734 rfl ?_
  refine x_iconst (v := 2) F dL_law_736 (by decide) ?_
  refine x_iadd F dL_law_737 ?_
  refine x_sld F hX hbB (by unfold vp_in; decide) dL_law_738 ?_
  refine x_cVi2 (ci := 7) (C := RX12) (T := TX12) (N := 2) F dL_law_739 (x_gV q527 q528 q529 q5 q530) rfl (m_ofClient hM _ _) ⟨rfl, rfl, rfl, xd_X12_ofClient, ⟨Nat.le_of_ble_eq_true rfl, Nat.le_of_ble_eq_true rfl⟩, Nat.le_of_ble_eq_true rfl, Nat.le_of_ble_eq_true rfl⟩ rfl hM.1 (Nat.le_of_ble_eq_true rfl) (fun v1 w1 hp => ?_)
  obtain ⟨rfl, hw9⟩ := hp
  have h_m : w1 mo = some (oM 1 re) := by rw [hw9]; exact x_set_eq _ _ _
  refine x_istore F dL_law_742 (by decide) ?_
  refine x_aload_n F dL_law_744 rfl rfl ?_
  refine x_cVi0 (ci := 7) (C := RX12) (T := TX12) (N := 2) F dL_law_745 (x_gV q389 q390 q391 q5 q392) rfl (m_thr h_m) ⟨rfl, rfl, rfl, xd_X12_thrown, ⟨Nat.le_of_ble_eq_true rfl, Nat.le_of_ble_eq_true rfl⟩, Nat.le_of_ble_eq_true rfl, Nat.le_of_ble_eq_true rfl⟩ rfl h_m (Nat.le_of_ble_eq_true rfl) (fun v1 w1 hp => ?_)
  obtain ⟨rfl, hw8⟩ := hp
  replace hw8 := hw8.symm
  subst hw8
  refine x_iload F dL_law_748 rfl ?_
  refine x_icmp_eq F dL_law_750 rfl (fun _ => ?_) (fun hc => absurd hc (by decide))
  refine x_iload F dL_law_755 rfl ?_
  refine x_if_ne F dL_law_757 rfl (fun _ => ?_) (fun hc => absurd hc (by decide))
  refine x_goto F dL_law_772 rfl ?_
  exact x_widen (Nat.le_of_ble_eq_true rfl) (Nat.le_of_ble_eq_true rfl) (x_lk (NEXT _) ⟨rfl, rfl, rfl, rfl, rfl, trivial⟩)
set_option maxRecDepth 100000 in
set_option maxHeartbeats 4000000 in
theorem law_routed (F : x_Fix p s m #[.ref b] meth c cL_law 9 RL xTs rt nm D dA vwC1 tyL1 B) (hX : va_X b 6 xs s s.heap) (hbB : b < B) (hl : l.stackTraces = false) (hF : FR w M Fa Ca Aa Ro Tr 0) (hM : MR w (dA 99) mo re fa cl ad ca 0 0) (ho : w o = some (aL 1 f)) (NEXT : ∀ w1, X p l e room_1 s m #[.ref b] below meth c Q D dA vwC1 B 9 40 200 1813 [(0, .ref b), (1, .ref M), (2, .ref mo), (3, .ref o), (4, .int 0)] [] w1) : X p l e room_1 s m #[.ref b] below meth c Q D dA vwC1 B 9 15 73 775 [(0, .ref b), (1, .ref M), (2, .ref mo), (3, .ref o), (4, .int 0)] [] w := by
  refine x_aload_n F dL_law_775 rfl rfl ?_
  refine x_aload_n F dL_law_776 rfl rfl ?_
  refine x_iload F dL_law_777 rfl ?_
  refine x_iconst (v := 1) F dL_law_779 (by decide) ?_
  refine x_iadd F dL_law_780 ?_
  refine x_sld F hX hbB (by unfold vp_in; decide) dL_law_781 ?_
  refine x_aload_n F dL_law_782 rfl rfl ?_
  refine x_iload F dL_law_783 rfl ?_
  refine x_iconst (v := 2) F dL_law_785 (by decide) ?_
  refine x_iadd F dL_law_786 ?_
  refine x_sld F hX hbB (by unfold vp_in; decide) dL_law_787 ?_
  refine x_aload_n F dL_law_788 rfl rfl ?_
  refine x_callSW (av := [.ref M, .int _, .int _, .ref o]) (rest := []) F dL_law_789 (x_gSW q234 q235 q0 q236) (w_routed hl hF _ _ o) rfl rfl rfl xd_L_routed ⟨Nat.le_of_ble_eq_true rfl, Nat.le_of_ble_eq_true rfl⟩ ⟨Nat.le_of_ble_eq_true rfl, Nat.le_of_ble_eq_true rfl⟩ rfl rfl (Nat.le_of_ble_eq_true rfl) (fun v1 w1 hp => ?_)
  obtain ⟨rfl, hw8⟩ := hp
  replace hw8 := hw8.symm
  subst hw8
  refine x_istore F dL_law_792 (by decide) ?_
  refine x_aload_n F dL_law_794 rfl rfl ?_
  refine x_aload_n F dL_law_795 rfl rfl ?_
  refine x_iload F dL_law_796 rfl ?_
  refine x_iconst (v := 1) F dL_law_798 (by decide) ?_
  refine x_iadd F dL_law_799 ?_
  refine x_sld F hX hbB (by unfold vp_in; decide) dL_law_800 ?_
  refine x_aload_n F dL_law_801 rfl rfl ?_
  refine x_iload F dL_law_802 rfl ?_
  refine x_iconst (v := 2) F dL_law_804 (by decide) ?_
  refine x_iadd F dL_law_805 ?_
  refine x_sld F hX hbB (by unfold vp_in; decide) dL_law_806 ?_
  refine x_cVi2 (ci := 7) (C := RX12) (T := TX12) (N := 2) F dL_law_807 (x_gV q534 q535 q536 q5 q537) rfl (m_routed hM _ _) ⟨rfl, rfl, rfl, xd_X12_routed, ⟨Nat.le_of_ble_eq_true rfl, Nat.le_of_ble_eq_true rfl⟩, Nat.le_of_ble_eq_true rfl, Nat.le_of_ble_eq_true rfl⟩ rfl hM.1 (Nat.le_of_ble_eq_true rfl) (fun v1 w1 hp => ?_)
  obtain ⟨rfl, hw9⟩ := hp
  have h_m : w1 mo = some (oM 1 re) := by rw [hw9]; exact x_set_eq _ _ _
  refine x_istore F dL_law_810 (by decide) ?_
  refine x_aload_n F dL_law_812 rfl rfl ?_
  refine x_cVi0 (ci := 7) (C := RX12) (T := TX12) (N := 2) F dL_law_813 (x_gV q389 q390 q391 q5 q392) rfl (m_thr h_m) ⟨rfl, rfl, rfl, xd_X12_thrown, ⟨Nat.le_of_ble_eq_true rfl, Nat.le_of_ble_eq_true rfl⟩, Nat.le_of_ble_eq_true rfl, Nat.le_of_ble_eq_true rfl⟩ rfl h_m (Nat.le_of_ble_eq_true rfl) (fun v1 w1 hp => ?_)
  obtain ⟨rfl, hw8⟩ := hp
  replace hw8 := hw8.symm
  subst hw8
  refine x_iload F dL_law_816 rfl ?_
  refine x_icmp_eq F dL_law_818 rfl (fun _ => ?_) (fun hc => absurd hc (by decide))
  refine x_iload F dL_law_823 rfl ?_
  refine x_if_ne F dL_law_825 rfl (fun _ => ?_) (fun hc => absurd hc (by decide))
  refine x_goto F dL_law_840 rfl ?_
  exact x_widen (Nat.le_of_ble_eq_true rfl) (Nat.le_of_ble_eq_true rfl) (x_lk (NEXT _) ⟨rfl, rfl, rfl, rfl, rfl, trivial⟩)
set_option maxRecDepth 100000 in
set_option maxHeartbeats 4000000 in
theorem law_call (F : x_Fix p s m #[.ref b] meth c cL_law 9 RL xTs rt nm D dA vwC1 tyL1 B) (hX : va_X b 6 xs s s.heap) (hbB : b < B) (hl : l.stackTraces = false) (hF : FR w M Fa Ca Aa Ro Tr 0) (hM : MR w (dA 99) mo re fa cl ad ca 0 0) (ho : w o = some (aL 1 f)) (NEXT : ∀ w1, X p l e room_1 s m #[.ref b] below meth c Q D dA vwC1 B 9 40 200 1813 [(0, .ref b), (1, .ref M), (2, .ref mo), (3, .ref o), (4, .int 0)] [] w1) : X p l e room_1 s m #[.ref b] below meth c Q D dA vwC1 B 9 15 73 843 [(0, .ref b), (1, .ref M), (2, .ref mo), (3, .ref o), (4, .int 0)] [] w := by
  refine x_aload_n F dL_law_843 rfl rfl ?_
  refine x_aload_n F dL_law_844 rfl rfl ?_
  refine x_iload F dL_law_845 rfl ?_
  refine x_iconst (v := 1) F dL_law_847 (by decide) ?_
  refine x_iadd F dL_law_848 ?_
  refine x_sld F hX hbB (by unfold vp_in; decide) dL_law_849 ?_
  refine x_aload_n F dL_law_850 rfl rfl ?_
  refine x_iload F dL_law_851 rfl ?_
  refine x_iconst (v := 2) F dL_law_853 (by decide) ?_
  refine x_iadd F dL_law_854 ?_
  refine x_sld F hX hbB (by unfold vp_in; decide) dL_law_855 ?_
  refine x_aload_n F dL_law_856 rfl rfl ?_
  refine x_callSW (av := [.ref M, .int _, .int _, .ref o]) (rest := []) F dL_law_857 (x_gSW q241 q242 q0 q243) (w_call hl hF _ _ o) rfl rfl rfl xd_L_call ⟨Nat.le_of_ble_eq_true rfl, Nat.le_of_ble_eq_true rfl⟩ ⟨Nat.le_of_ble_eq_true rfl, Nat.le_of_ble_eq_true rfl⟩ rfl rfl (Nat.le_of_ble_eq_true rfl) (fun v1 w1 hp => ?_)
  obtain ⟨rfl, hw8⟩ := hp
  replace hw8 := hw8.symm
  subst hw8
  refine x_istore F dL_law_860 (by decide) ?_
  refine x_aload_n F dL_law_862 rfl rfl ?_
  refine x_aload_n F dL_law_863 rfl rfl ?_
  refine x_iload F dL_law_864 rfl ?_
  refine x_iconst (v := 1) F dL_law_866 (by decide) ?_
  refine x_iadd F dL_law_867 ?_
  refine x_sld F hX hbB (by unfold vp_in; decide) dL_law_868 ?_
  refine x_aload_n F dL_law_869 rfl rfl ?_
  refine x_iload F dL_law_870 rfl ?_
  refine x_iconst (v := 2) F dL_law_872 (by decide) ?_
  refine x_iadd F dL_law_873 ?_
  refine x_sld F hX hbB (by unfold vp_in; decide) dL_law_874 ?_
  refine x_cVi2 (ci := 7) (C := RX12) (T := TX12) (N := 2) F dL_law_875 (x_gV q538 q539 q540 q5 q541) rfl (m_call hM _ _) ⟨rfl, rfl, rfl, xd_X12_call, ⟨Nat.le_of_ble_eq_true rfl, Nat.le_of_ble_eq_true rfl⟩, Nat.le_of_ble_eq_true rfl, Nat.le_of_ble_eq_true rfl⟩ rfl hM.1 (Nat.le_of_ble_eq_true rfl) (fun v1 w1 hp => ?_)
  obtain ⟨rfl, hw9⟩ := hp
  have h_m : w1 mo = some (oM 1 re) := by rw [hw9]; exact x_set_eq _ _ _
  refine x_istore F dL_law_878 (by decide) ?_
  refine x_aload_n F dL_law_880 rfl rfl ?_
  refine x_cVi0 (ci := 7) (C := RX12) (T := TX12) (N := 2) F dL_law_881 (x_gV q389 q390 q391 q5 q392) rfl (m_thr h_m) ⟨rfl, rfl, rfl, xd_X12_thrown, ⟨Nat.le_of_ble_eq_true rfl, Nat.le_of_ble_eq_true rfl⟩, Nat.le_of_ble_eq_true rfl, Nat.le_of_ble_eq_true rfl⟩ rfl h_m (Nat.le_of_ble_eq_true rfl) (fun v1 w1 hp => ?_)
  obtain ⟨rfl, hw8⟩ := hp
  replace hw8 := hw8.symm
  subst hw8
  refine x_iload F dL_law_884 rfl ?_
  refine x_icmp_eq F dL_law_886 rfl (fun _ => ?_) (fun hc => absurd hc (by decide))
  refine x_iload F dL_law_891 rfl ?_
  refine x_if_ne F dL_law_893 rfl (fun _ => ?_) (fun hc => absurd hc (by decide))
  refine x_goto F dL_law_908 rfl ?_
  exact x_widen (Nat.le_of_ble_eq_true rfl) (Nat.le_of_ble_eq_true rfl) (x_lk (NEXT _) ⟨rfl, rfl, rfl, rfl, rfl, trivial⟩)
set_option maxRecDepth 100000 in
set_option maxHeartbeats 4000000 in
theorem law_lastCall (F : x_Fix p s m #[.ref b] meth c cL_law 9 RL xTs rt nm D dA vwC1 tyL1 B) (hX : va_X b 6 xs s s.heap) (hbB : b < B) (hl : l.stackTraces = false) (hF : FR w M Fa Ca Aa Ro Tr 0) (hM : MR w (dA 99) mo re fa cl ad ca 0 0) (ho : w o = some (aL 1 f)) (NEXT : ∀ w1, X p l e room_1 s m #[.ref b] below meth c Q D dA vwC1 B 9 40 200 1813 [(0, .ref b), (1, .ref M), (2, .ref mo), (3, .ref o), (4, .int 0)] [] w1) : X p l e room_1 s m #[.ref b] below meth c Q D dA vwC1 B 9 15 73 967 [(0, .ref b), (1, .ref M), (2, .ref mo), (3, .ref o), (4, .int 0)] [] w := by
  refine x_aload_n F dL_law_967 rfl rfl ?_
  refine x_aload_n F dL_law_968 rfl rfl ?_
  refine x_iload F dL_law_969 rfl ?_
  refine x_iconst (v := 1) F dL_law_971 (by decide) ?_
  refine x_iadd F dL_law_972 ?_
  refine x_sld F hX hbB (by unfold vp_in; decide) dL_law_973 ?_
  refine x_aload_n F dL_law_974 rfl rfl ?_
  refine x_iload F dL_law_975 rfl ?_
  refine x_iconst (v := 2) F dL_law_977 (by decide) ?_
  refine x_iadd F dL_law_978 ?_
  refine x_sld F hX hbB (by unfold vp_in; decide) dL_law_979 ?_
  refine x_aload_n F dL_law_980 rfl rfl ?_
  refine x_callSW (av := [.ref M, .int _, .int _, .ref o]) (rest := []) F dL_law_981 (x_gSW q259 q260 q0 q261) (w_lastCall hl hF _ _ o) rfl rfl rfl xd_L_lastCall ⟨Nat.le_of_ble_eq_true rfl, Nat.le_of_ble_eq_true rfl⟩ ⟨Nat.le_of_ble_eq_true rfl, Nat.le_of_ble_eq_true rfl⟩ rfl rfl (Nat.le_of_ble_eq_true rfl) (fun v1 w1 hp => ?_)
  obtain ⟨rfl, hw8⟩ := hp
  replace hw8 := hw8.symm
  subst hw8
  refine x_istore F dL_law_984 (by decide) ?_
  refine x_aload_n F dL_law_986 rfl rfl ?_
  refine x_aload_n F dL_law_987 rfl rfl ?_
  refine x_iload F dL_law_988 rfl ?_
  refine x_iconst (v := 1) F dL_law_990 (by decide) ?_
  refine x_iadd F dL_law_991 ?_
  refine x_sld F hX hbB (by unfold vp_in; decide) dL_law_992 ?_
  refine x_aload_n F dL_law_993 rfl rfl ?_
  refine x_iload F dL_law_994 rfl ?_
  refine x_iconst (v := 2) F dL_law_996 (by decide) ?_
  refine x_iadd F dL_law_997 ?_
  refine x_sld F hX hbB (by unfold vp_in; decide) dL_law_998 ?_
  refine x_cVi2 (ci := 7) (C := RX12) (T := TX12) (N := 2) F dL_law_999 (x_gV q558 q559 q560 q5 q561) rfl (m_lastCall hM _ _) ⟨rfl, rfl, rfl, xd_X12_lastCall, ⟨Nat.le_of_ble_eq_true rfl, Nat.le_of_ble_eq_true rfl⟩, Nat.le_of_ble_eq_true rfl, Nat.le_of_ble_eq_true rfl⟩ rfl hM.1 (Nat.le_of_ble_eq_true rfl) (fun v1 w1 hp => ?_)
  obtain ⟨rfl, hw9⟩ := hp
  have h_m : w1 mo = some (oM 1 re) := by rw [hw9]; exact x_set_eq _ _ _
  refine x_istore F dL_law_1002 (by decide) ?_
  refine x_aload_n F dL_law_1004 rfl rfl ?_
  refine x_cVi0 (ci := 7) (C := RX12) (T := TX12) (N := 2) F dL_law_1005 (x_gV q389 q390 q391 q5 q392) rfl (m_thr h_m) ⟨rfl, rfl, rfl, xd_X12_thrown, ⟨Nat.le_of_ble_eq_true rfl, Nat.le_of_ble_eq_true rfl⟩, Nat.le_of_ble_eq_true rfl, Nat.le_of_ble_eq_true rfl⟩ rfl h_m (Nat.le_of_ble_eq_true rfl) (fun v1 w1 hp => ?_)
  obtain ⟨rfl, hw8⟩ := hp
  replace hw8 := hw8.symm
  subst hw8
  refine x_iload F dL_law_1008 rfl ?_
  refine x_icmp_eq F dL_law_1010 rfl (fun _ => ?_) (fun hc => absurd hc (by decide))
  refine x_iload F dL_law_1015 rfl ?_
  refine x_if_ne F dL_law_1017 rfl (fun _ => ?_) (fun hc => absurd hc (by decide))
  refine x_goto F dL_law_1032 rfl ?_
  exact x_widen (Nat.le_of_ble_eq_true rfl) (Nat.le_of_ble_eq_true rfl) (x_lk (NEXT _) ⟨rfl, rfl, rfl, rfl, rfl, trivial⟩)
set_option maxRecDepth 100000 in
set_option maxHeartbeats 4000000 in
theorem law_retire (F : x_Fix p s m #[.ref b] meth c cL_law 9 RL xTs rt nm D dA vwC1 tyL1 B) (hX : va_X b 6 xs s s.heap) (hbB : b < B) (hl : l.stackTraces = false) (hF : FR w M Fa Ca Aa Ro Tr 0) (hM : MR w (dA 99) mo re fa cl ad ca 0 0) (ho : w o = some (aL 1 f)) (NEXT : ∀ w1, X p l e room_1 s m #[.ref b] below meth c Q D dA vwC1 B 9 40 200 1813 [(0, .ref b), (1, .ref M), (2, .ref mo), (3, .ref o), (4, .int 0)] [] w1) : X p l e room_1 s m #[.ref b] below meth c Q D dA vwC1 B 9 15 73 1035 [(0, .ref b), (1, .ref M), (2, .ref mo), (3, .ref o), (4, .int 0)] [] w := by
  refine x_aload_n F dL_law_1035 rfl rfl ?_
  refine x_aload_n F dL_law_1036 rfl rfl ?_
  refine x_iload F dL_law_1037 rfl ?_
  refine x_iconst (v := 1) F dL_law_1039 (by decide) ?_
  refine x_iadd F dL_law_1040 ?_
  refine x_sld F hX hbB (by unfold vp_in; decide) dL_law_1041 ?_
  refine x_aload_n F dL_law_1042 rfl rfl ?_
  refine x_iload F dL_law_1043 rfl ?_
  refine x_iconst (v := 2) F dL_law_1045 (by decide) ?_
  refine x_iadd F dL_law_1046 ?_
  refine x_sld F hX hbB (by unfold vp_in; decide) dL_law_1047 ?_
  refine x_aload_n F dL_law_1048 rfl rfl ?_
  refine x_iload F dL_law_1049 rfl ?_
  refine x_iconst (v := 3) F dL_law_1051 (by decide) ?_
  refine x_iadd F dL_law_1052 ?_
  refine x_sld F hX hbB (by unfold vp_in; decide) dL_law_1053 ?_
  refine x_aload_n F dL_law_1054 rfl rfl ?_
  refine x_callSW (av := [.ref M, .int _, .int _, .int _, .ref o]) (rest := []) F dL_law_1055 (x_gSW q266 q267 q0 q268) (w_retire hl hF _ _ _ o) rfl rfl rfl xd_L_retire ⟨Nat.le_of_ble_eq_true rfl, Nat.le_of_ble_eq_true rfl⟩ ⟨Nat.le_of_ble_eq_true rfl, Nat.le_of_ble_eq_true rfl⟩ rfl rfl (Nat.le_of_ble_eq_true rfl) (fun v1 w1 hp => ?_)
  obtain ⟨rfl, hw8⟩ := hp
  replace hw8 := hw8.symm
  subst hw8
  refine x_istore F dL_law_1058 (by decide) ?_
  refine x_aload_n F dL_law_1060 rfl rfl ?_
  refine x_aload_n F dL_law_1061 rfl rfl ?_
  refine x_iload F dL_law_1062 rfl ?_
  refine x_iconst (v := 1) F dL_law_1064 (by decide) ?_
  refine x_iadd F dL_law_1065 ?_
  refine x_sld F hX hbB (by unfold vp_in; decide) dL_law_1066 ?_
  refine x_aload_n F dL_law_1067 rfl rfl ?_
  refine x_iload F dL_law_1068 rfl ?_
  refine x_iconst (v := 2) F dL_law_1070 (by decide) ?_
  refine x_iadd F dL_law_1071 ?_
  refine x_sld F hX hbB (by unfold vp_in; decide) dL_law_1072 ?_
  refine x_aload_n F dL_law_1073 rfl rfl ?_
  refine x_iload F dL_law_1074 rfl ?_
  refine x_iconst (v := 3) F dL_law_1076 (by decide) ?_
  refine x_iadd F dL_law_1077 ?_
  refine x_sld F hX hbB (by unfold vp_in; decide) dL_law_1078 ?_
  refine x_cVi3 (ci := 7) (C := RX12) (T := TX12) (N := 2) F dL_law_1079 (x_gV q562 q563 q564 q5 q565) rfl (m_retire hM _ _ _) ⟨rfl, rfl, rfl, xd_X12_retire, ⟨Nat.le_of_ble_eq_true rfl, Nat.le_of_ble_eq_true rfl⟩, Nat.le_of_ble_eq_true rfl, Nat.le_of_ble_eq_true rfl⟩ rfl hM.1 (Nat.le_of_ble_eq_true rfl) (fun v1 w1 hp => ?_)
  obtain ⟨rfl, hw9⟩ := hp
  have h_m : w1 mo = some (oM 1 re) := by rw [hw9]; exact x_set_eq _ _ _
  refine x_istore F dL_law_1082 (by decide) ?_
  refine x_aload_n F dL_law_1084 rfl rfl ?_
  refine x_cVi0 (ci := 7) (C := RX12) (T := TX12) (N := 2) F dL_law_1085 (x_gV q389 q390 q391 q5 q392) rfl (m_thr h_m) ⟨rfl, rfl, rfl, xd_X12_thrown, ⟨Nat.le_of_ble_eq_true rfl, Nat.le_of_ble_eq_true rfl⟩, Nat.le_of_ble_eq_true rfl, Nat.le_of_ble_eq_true rfl⟩ rfl h_m (Nat.le_of_ble_eq_true rfl) (fun v1 w1 hp => ?_)
  obtain ⟨rfl, hw8⟩ := hp
  replace hw8 := hw8.symm
  subst hw8
  refine x_iload F dL_law_1088 rfl ?_
  refine x_icmp_eq F dL_law_1090 rfl (fun _ => ?_) (fun hc => absurd hc (by decide))
  refine x_iload F dL_law_1095 rfl ?_
  refine x_if_ne F dL_law_1097 rfl (fun _ => ?_) (fun hc => absurd hc (by decide))
  refine x_goto F dL_law_1112 rfl ?_
  exact x_widen (Nat.le_of_ble_eq_true rfl) (Nat.le_of_ble_eq_true rfl) (x_lk (NEXT _) ⟨rfl, rfl, rfl, rfl, rfl, trivial⟩)
set_option maxRecDepth 100000 in
set_option maxHeartbeats 4000000 in
theorem law_answer (F : x_Fix p s m #[.ref b] meth c cL_law 9 RL xTs rt nm D dA vwC1 tyL1 B) (hX : va_X b 6 xs s s.heap) (hbB : b < B) (hl : l.stackTraces = false) (hF : FR w M Fa Ca Aa Ro Tr 0) (hM : MR w (dA 99) mo re fa cl ad ca 0 0) (ho : w o = some (aL 1 f)) (NEXT : ∀ w1, X p l e room_1 s m #[.ref b] below meth c Q D dA vwC1 B 9 40 200 1813 [(0, .ref b), (1, .ref M), (2, .ref mo), (3, .ref o), (4, .int 0)] [] w1) : X p l e room_1 s m #[.ref b] below meth c Q D dA vwC1 B 9 15 73 1115 [(0, .ref b), (1, .ref M), (2, .ref mo), (3, .ref o), (4, .int 0)] [] w := by
  refine x_aload_n F dL_law_1115 rfl rfl ?_
  refine x_aload_n F dL_law_1116 rfl rfl ?_
  refine x_iload F dL_law_1117 rfl ?_
  refine x_iconst (v := 1) F dL_law_1119 (by decide) ?_
  refine x_iadd F dL_law_1120 ?_
  refine x_sld F hX hbB (by unfold vp_in; decide) dL_law_1121 ?_
  refine x_aload_n F dL_law_1122 rfl rfl ?_
  refine x_iload F dL_law_1123 rfl ?_
  refine x_iconst (v := 2) F dL_law_1125 (by decide) ?_
  refine x_iadd F dL_law_1126 ?_
  refine x_sld F hX hbB (by unfold vp_in; decide) dL_law_1127 ?_
  refine x_aload_n F dL_law_1128 rfl rfl ?_
  refine x_iload F dL_law_1129 rfl ?_
  refine x_iconst (v := 3) F dL_law_1131 (by decide) ?_
  refine x_iadd F dL_law_1132 ?_
  refine x_sld F hX hbB (by unfold vp_in; decide) dL_law_1133 ?_
  refine x_aload_n F dL_law_1134 rfl rfl ?_
  refine x_callSW (av := [.ref M, .int _, .int _, .int _, .ref o]) (rest := []) F dL_law_1135 (x_gSW q273 q274 q0 q275) (w_answer hl hF _ _ _ o) rfl rfl rfl xd_L_answer ⟨Nat.le_of_ble_eq_true rfl, Nat.le_of_ble_eq_true rfl⟩ ⟨Nat.le_of_ble_eq_true rfl, Nat.le_of_ble_eq_true rfl⟩ rfl rfl (Nat.le_of_ble_eq_true rfl) (fun v1 w1 hp => ?_)
  obtain ⟨rfl, hw8⟩ := hp
  replace hw8 := hw8.symm
  subst hw8
  refine x_istore F dL_law_1138 (by decide) ?_
  refine x_aload_n F dL_law_1140 rfl rfl ?_
  refine x_aload_n F dL_law_1141 rfl rfl ?_
  refine x_iload F dL_law_1142 rfl ?_
  refine x_iconst (v := 1) F dL_law_1144 (by decide) ?_
  refine x_iadd F dL_law_1145 ?_
  refine x_sld F hX hbB (by unfold vp_in; decide) dL_law_1146 ?_
  refine x_aload_n F dL_law_1147 rfl rfl ?_
  refine x_iload F dL_law_1148 rfl ?_
  refine x_iconst (v := 2) F dL_law_1150 (by decide) ?_
  refine x_iadd F dL_law_1151 ?_
  refine x_sld F hX hbB (by unfold vp_in; decide) dL_law_1152 ?_
  refine x_aload_n F dL_law_1153 rfl rfl ?_
  refine x_iload F dL_law_1154 rfl ?_
  refine x_iconst (v := 3) F dL_law_1156 (by decide) ?_
  refine x_iadd F dL_law_1157 ?_
  refine x_sld F hX hbB (by unfold vp_in; decide) dL_law_1158 ?_
  refine x_cVi3 (ci := 7) (C := RX12) (T := TX12) (N := 2) F dL_law_1159 (x_gV q566 q567 q568 q5 q569) rfl (m_answer hM _ _ _) ⟨rfl, rfl, rfl, xd_X12_answer, ⟨Nat.le_of_ble_eq_true rfl, Nat.le_of_ble_eq_true rfl⟩, Nat.le_of_ble_eq_true rfl, Nat.le_of_ble_eq_true rfl⟩ rfl hM.1 (Nat.le_of_ble_eq_true rfl) (fun v1 w1 hp => ?_)
  obtain ⟨rfl, hw9⟩ := hp
  have h_m : w1 mo = some (oM 1 re) := by rw [hw9]; exact x_set_eq _ _ _
  refine x_istore F dL_law_1162 (by decide) ?_
  refine x_aload_n F dL_law_1164 rfl rfl ?_
  refine x_cVi0 (ci := 7) (C := RX12) (T := TX12) (N := 2) F dL_law_1165 (x_gV q389 q390 q391 q5 q392) rfl (m_thr h_m) ⟨rfl, rfl, rfl, xd_X12_thrown, ⟨Nat.le_of_ble_eq_true rfl, Nat.le_of_ble_eq_true rfl⟩, Nat.le_of_ble_eq_true rfl, Nat.le_of_ble_eq_true rfl⟩ rfl h_m (Nat.le_of_ble_eq_true rfl) (fun v1 w1 hp => ?_)
  obtain ⟨rfl, hw8⟩ := hp
  replace hw8 := hw8.symm
  subst hw8
  refine x_iload F dL_law_1168 rfl ?_
  refine x_icmp_eq F dL_law_1170 rfl (fun _ => ?_) (fun hc => absurd hc (by decide))
  refine x_iload F dL_law_1175 rfl ?_
  refine x_if_ne F dL_law_1177 rfl (fun _ => ?_) (fun hc => absurd hc (by decide))
  refine x_goto F dL_law_1199 rfl ?_
  exact x_widen (Nat.le_of_ble_eq_true rfl) (Nat.le_of_ble_eq_true rfl) (x_lk (NEXT _) ⟨rfl, rfl, rfl, rfl, rfl, trivial⟩)
set_option maxRecDepth 100000 in
set_option maxHeartbeats 4000000 in
theorem law_recall (F : x_Fix p s m #[.ref b] meth c cL_law 9 RL xTs rt nm D dA vwC1 tyL1 B) (hX : va_X b 6 xs s s.heap) (hbB : b < B) (hl : l.stackTraces = false) (hF : FR w M Fa Ca Aa Ro Tr 0) (hM : MR w (dA 99) mo re fa cl ad ca 0 0) (ho : w o = some (aL 1 f)) (NEXT : ∀ w1, X p l e room_1 s m #[.ref b] below meth c Q D dA vwC1 B 9 40 200 1813 [(0, .ref b), (1, .ref M), (2, .ref mo), (3, .ref o), (4, .int 0)] [] w1) : X p l e room_1 s m #[.ref b] below meth c Q D dA vwC1 B 9 15 73 1202 [(0, .ref b), (1, .ref M), (2, .ref mo), (3, .ref o), (4, .int 0)] [] w := by
  refine x_aload_n F dL_law_1202 rfl rfl ?_
  refine x_aload_n F dL_law_1203 rfl rfl ?_
  refine x_iload F dL_law_1204 rfl ?_
  refine x_iconst (v := 1) F dL_law_1206 (by decide) ?_
  refine x_iadd F dL_law_1207 ?_
  refine x_sld F hX hbB (by unfold vp_in; decide) dL_law_1208 ?_
  refine x_aload_n F dL_law_1209 rfl rfl ?_
  refine x_iload F dL_law_1210 rfl ?_
  refine x_iconst (v := 2) F dL_law_1212 (by decide) ?_
  refine x_iadd F dL_law_1213 ?_
  refine x_sld F hX hbB (by unfold vp_in; decide) dL_law_1214 ?_
  refine x_aload_n F dL_law_1215 rfl rfl ?_
  refine x_callSW (av := [.ref M, .int _, .int _, .ref o]) (rest := []) F dL_law_1216 (x_gSW q280 q281 q0 q282) (w_recall hl hF _ _ o) rfl rfl rfl xd_L_recall ⟨Nat.le_of_ble_eq_true rfl, Nat.le_of_ble_eq_true rfl⟩ ⟨Nat.le_of_ble_eq_true rfl, Nat.le_of_ble_eq_true rfl⟩ rfl rfl (Nat.le_of_ble_eq_true rfl) (fun v1 w1 hp => ?_)
  obtain ⟨rfl, hw8⟩ := hp
  replace hw8 := hw8.symm
  subst hw8
  refine x_istore F dL_law_1219 (by decide) ?_
  refine x_aload_n F dL_law_1221 rfl rfl ?_
  refine x_aload_n F dL_law_1222 rfl rfl ?_
  refine x_iload F dL_law_1223 rfl ?_
  refine x_iconst (v := 1) F dL_law_1225 (by decide) ?_
  refine x_iadd F dL_law_1226 ?_
  refine x_sld F hX hbB (by unfold vp_in; decide) dL_law_1227 ?_
  refine x_aload_n F dL_law_1228 rfl rfl ?_
  refine x_iload F dL_law_1229 rfl ?_
  refine x_iconst (v := 2) F dL_law_1231 (by decide) ?_
  refine x_iadd F dL_law_1232 ?_
  refine x_sld F hX hbB (by unfold vp_in; decide) dL_law_1233 ?_
  refine x_cVi2 (ci := 7) (C := RX12) (T := TX12) (N := 2) F dL_law_1234 (x_gV q573 q574 q575 q5 q576) rfl (m_recall hM _ _) ⟨rfl, rfl, rfl, xd_X12_recall, ⟨Nat.le_of_ble_eq_true rfl, Nat.le_of_ble_eq_true rfl⟩, Nat.le_of_ble_eq_true rfl, Nat.le_of_ble_eq_true rfl⟩ rfl hM.1 (Nat.le_of_ble_eq_true rfl) (fun v1 w1 hp => ?_)
  obtain ⟨rfl, hw9⟩ := hp
  have h_m : w1 mo = some (oM 1 re) := by rw [hw9]; exact x_set_eq _ _ _
  refine x_istore F dL_law_1237 (by decide) ?_
  refine x_aload_n F dL_law_1239 rfl rfl ?_
  refine x_cVi0 (ci := 7) (C := RX12) (T := TX12) (N := 2) F dL_law_1240 (x_gV q389 q390 q391 q5 q392) rfl (m_thr h_m) ⟨rfl, rfl, rfl, xd_X12_thrown, ⟨Nat.le_of_ble_eq_true rfl, Nat.le_of_ble_eq_true rfl⟩, Nat.le_of_ble_eq_true rfl, Nat.le_of_ble_eq_true rfl⟩ rfl h_m (Nat.le_of_ble_eq_true rfl) (fun v1 w1 hp => ?_)
  obtain ⟨rfl, hw8⟩ := hp
  replace hw8 := hw8.symm
  subst hw8
  refine x_iload F dL_law_1243 rfl ?_
  refine x_icmp_eq F dL_law_1245 rfl (fun _ => ?_) (fun hc => absurd hc (by decide))
  refine x_iload F dL_law_1250 rfl ?_
  refine x_if_ne F dL_law_1252 rfl (fun _ => ?_) (fun hc => absurd hc (by decide))
  refine x_goto F dL_law_1267 rfl ?_
  exact x_widen (Nat.le_of_ble_eq_true rfl) (Nat.le_of_ble_eq_true rfl) (x_lk (NEXT _) ⟨rfl, rfl, rfl, rfl, rfl, trivial⟩)
set_option maxRecDepth 100000 in
set_option maxHeartbeats 4000000 in
theorem law_asked (F : x_Fix p s m #[.ref b] meth c cL_law 9 RL xTs rt nm D dA vwC1 tyL1 B) (hX : va_X b 6 xs s s.heap) (hbB : b < B) (hl : l.stackTraces = false) (hF : FR w M Fa Ca Aa Ro Tr 0) (hM : MR w (dA 99) mo re fa cl ad ca 0 0) (ho : w o = some (aL 1 f)) (NEXT : ∀ w1, X p l e room_1 s m #[.ref b] below meth c Q D dA vwC1 B 9 40 200 1813 [(0, .ref b), (1, .ref M), (2, .ref mo), (3, .ref o), (4, .int 0)] [] w1) : X p l e room_1 s m #[.ref b] below meth c Q D dA vwC1 B 9 15 73 1270 [(0, .ref b), (1, .ref M), (2, .ref mo), (3, .ref o), (4, .int 0)] [] w := by
  refine x_aload_n F dL_law_1270 rfl rfl ?_
  refine x_aload_n F dL_law_1271 rfl rfl ?_
  refine x_iload F dL_law_1272 rfl ?_
  refine x_iconst (v := 1) F dL_law_1274 (by decide) ?_
  refine x_iadd F dL_law_1275 ?_
  refine x_sld F hX hbB (by unfold vp_in; decide) dL_law_1276 ?_
  refine x_aload_n F dL_law_1277 rfl rfl ?_
  refine x_iload F dL_law_1278 rfl ?_
  refine x_iconst (v := 2) F dL_law_1280 (by decide) ?_
  refine x_iadd F dL_law_1281 ?_
  refine x_sld F hX hbB (by unfold vp_in; decide) dL_law_1282 ?_
  refine x_aload_n F dL_law_1283 rfl rfl ?_
  refine x_iload F dL_law_1284 rfl ?_
  refine x_iconst (v := 3) F dL_law_1286 (by decide) ?_
  refine x_iadd F dL_law_1287 ?_
  refine x_sld F hX hbB (by unfold vp_in; decide) dL_law_1288 ?_
  refine x_aload_n F dL_law_1289 rfl rfl ?_
  refine x_callSW (av := [.ref M, .int _, .int _, .int _, .ref o]) (rest := []) F dL_law_1290 (x_gSW q287 q288 q0 q289) (w_asked hl hF _ _ _ o) rfl rfl rfl xd_L_asked ⟨Nat.le_of_ble_eq_true rfl, Nat.le_of_ble_eq_true rfl⟩ ⟨Nat.le_of_ble_eq_true rfl, Nat.le_of_ble_eq_true rfl⟩ rfl rfl (Nat.le_of_ble_eq_true rfl) (fun v1 w1 hp => ?_)
  obtain ⟨rfl, hw8⟩ := hp
  replace hw8 := hw8.symm
  subst hw8
  refine x_istore F dL_law_1293 (by decide) ?_
  refine x_aload_n F dL_law_1295 rfl rfl ?_
  refine x_aload_n F dL_law_1296 rfl rfl ?_
  refine x_iload F dL_law_1297 rfl ?_
  refine x_iconst (v := 1) F dL_law_1299 (by decide) ?_
  refine x_iadd F dL_law_1300 ?_
  refine x_sld F hX hbB (by unfold vp_in; decide) dL_law_1301 ?_
  refine x_aload_n F dL_law_1302 rfl rfl ?_
  refine x_iload F dL_law_1303 rfl ?_
  refine x_iconst (v := 2) F dL_law_1305 (by decide) ?_
  refine x_iadd F dL_law_1306 ?_
  refine x_sld F hX hbB (by unfold vp_in; decide) dL_law_1307 ?_
  refine x_aload_n F dL_law_1308 rfl rfl ?_
  refine x_iload F dL_law_1309 rfl ?_
  refine x_iconst (v := 3) F dL_law_1311 (by decide) ?_
  refine x_iadd F dL_law_1312 ?_
  refine x_sld F hX hbB (by unfold vp_in; decide) dL_law_1313 ?_
  refine x_cVi3 (ci := 7) (C := RX12) (T := TX12) (N := 2) F dL_law_1314 (x_gV q577 q578 q579 q5 q580) rfl (m_asked hM _ _ _) ⟨rfl, rfl, rfl, xd_X12_asked, ⟨Nat.le_of_ble_eq_true rfl, Nat.le_of_ble_eq_true rfl⟩, Nat.le_of_ble_eq_true rfl, Nat.le_of_ble_eq_true rfl⟩ rfl hM.1 (Nat.le_of_ble_eq_true rfl) (fun v1 w1 hp => ?_)
  obtain ⟨rfl, hw9⟩ := hp
  have h_m : w1 mo = some (oM 1 re) := by rw [hw9]; exact x_set_eq _ _ _
  refine x_istore F dL_law_1317 (by decide) ?_
  refine x_aload_n F dL_law_1319 rfl rfl ?_
  refine x_cVi0 (ci := 7) (C := RX12) (T := TX12) (N := 2) F dL_law_1320 (x_gV q389 q390 q391 q5 q392) rfl (m_thr h_m) ⟨rfl, rfl, rfl, xd_X12_thrown, ⟨Nat.le_of_ble_eq_true rfl, Nat.le_of_ble_eq_true rfl⟩, Nat.le_of_ble_eq_true rfl, Nat.le_of_ble_eq_true rfl⟩ rfl h_m (Nat.le_of_ble_eq_true rfl) (fun v1 w1 hp => ?_)
  obtain ⟨rfl, hw8⟩ := hp
  replace hw8 := hw8.symm
  subst hw8
  refine x_iload F dL_law_1323 rfl ?_
  refine x_icmp_eq F dL_law_1325 rfl (fun _ => ?_) (fun hc => absurd hc (by decide))
  refine x_iload F dL_law_1330 rfl ?_
  refine x_if_ne F dL_law_1332 rfl (fun _ => ?_) (fun hc => absurd hc (by decide))
  refine x_goto F dL_law_1347 rfl ?_
  exact x_widen (Nat.le_of_ble_eq_true rfl) (Nat.le_of_ble_eq_true rfl) (x_lk (NEXT _) ⟨rfl, rfl, rfl, rfl, rfl, trivial⟩)
set_option maxRecDepth 100000 in
set_option maxHeartbeats 4000000 in
theorem law_wouldCome (F : x_Fix p s m #[.ref b] meth c cL_law 9 RL xTs rt nm D dA vwC1 tyL1 B) (hX : va_X b 6 xs s s.heap) (hbB : b < B) (hl : l.stackTraces = false) (hF : FR w M Fa Ca Aa Ro Tr 0) (hM : MR w (dA 99) mo re fa cl ad ca 0 0) (ho : w o = some (aL 1 f)) (NEXT : ∀ w1, X p l e room_1 s m #[.ref b] below meth c Q D dA vwC1 B 9 40 200 1813 [(0, .ref b), (1, .ref M), (2, .ref mo), (3, .ref o), (4, .int 0)] [] w1) : X p l e room_1 s m #[.ref b] below meth c Q D dA vwC1 B 9 15 73 1447 [(0, .ref b), (1, .ref M), (2, .ref mo), (3, .ref o), (4, .int 0)] [] w := by
  refine x_aload_n F dL_law_1447 rfl rfl ?_
  refine x_aload_n F dL_law_1448 rfl rfl ?_
  refine x_iload F dL_law_1449 rfl ?_
  refine x_iconst (v := 1) F dL_law_1451 (by decide) ?_
  refine x_iadd F dL_law_1452 ?_
  refine x_sld F hX hbB (by unfold vp_in; decide) dL_law_1453 ?_
  refine x_aload_n F dL_law_1454 rfl rfl ?_
  refine x_iload F dL_law_1455 rfl ?_
  refine x_iconst (v := 2) F dL_law_1457 (by decide) ?_
  refine x_iadd F dL_law_1458 ?_
  refine x_sld F hX hbB (by unfold vp_in; decide) dL_law_1459 ?_
  refine x_aload_n F dL_law_1460 rfl rfl ?_
  refine x_callSW (av := [.ref M, .int _, .int _, .ref o]) (rest := []) F dL_law_1461 (x_gSW q301 q302 q0 q303) (w_wouldCome hl hF _ _ o) rfl rfl rfl xd_L_wouldCome ⟨Nat.le_of_ble_eq_true rfl, Nat.le_of_ble_eq_true rfl⟩ ⟨Nat.le_of_ble_eq_true rfl, Nat.le_of_ble_eq_true rfl⟩ rfl rfl (Nat.le_of_ble_eq_true rfl) (fun v1 w1 hp => ?_)
  obtain ⟨rfl, hw8⟩ := hp
  replace hw8 := hw8.symm
  subst hw8
  refine x_istore F dL_law_1464 (by decide) ?_
  refine x_aload_n F dL_law_1466 rfl rfl ?_
  refine x_aload_n F dL_law_1467 rfl rfl ?_
  refine x_iload F dL_law_1468 rfl ?_
  refine x_iconst (v := 1) F dL_law_1470 (by decide) ?_
  refine x_iadd F dL_law_1471 ?_
  refine x_sld F hX hbB (by unfold vp_in; decide) dL_law_1472 ?_
  refine x_aload_n F dL_law_1473 rfl rfl ?_
  refine x_iload F dL_law_1474 rfl ?_
  refine x_iconst (v := 2) F dL_law_1476 (by decide) ?_
  refine x_iadd F dL_law_1477 ?_
  refine x_sld F hX hbB (by unfold vp_in; decide) dL_law_1478 ?_
  refine x_cVi2 (ci := 7) (C := RX12) (T := TX12) (N := 2) F dL_law_1479 (x_gV q602 q603 q604 q5 q605) rfl (m_wouldCome hM _ _) ⟨rfl, rfl, rfl, xd_X12_wouldCome, ⟨Nat.le_of_ble_eq_true rfl, Nat.le_of_ble_eq_true rfl⟩, Nat.le_of_ble_eq_true rfl, Nat.le_of_ble_eq_true rfl⟩ rfl hM.1 (Nat.le_of_ble_eq_true rfl) (fun v1 w1 hp => ?_)
  obtain ⟨rfl, hw9⟩ := hp
  have h_m : w1 mo = some (oM 1 re) := by rw [hw9]; exact x_set_eq _ _ _
  refine x_istore F dL_law_1482 (by decide) ?_
  refine x_aload_n F dL_law_1484 rfl rfl ?_
  refine x_cVi0 (ci := 7) (C := RX12) (T := TX12) (N := 2) F dL_law_1485 (x_gV q389 q390 q391 q5 q392) rfl (m_thr h_m) ⟨rfl, rfl, rfl, xd_X12_thrown, ⟨Nat.le_of_ble_eq_true rfl, Nat.le_of_ble_eq_true rfl⟩, Nat.le_of_ble_eq_true rfl, Nat.le_of_ble_eq_true rfl⟩ rfl h_m (Nat.le_of_ble_eq_true rfl) (fun v1 w1 hp => ?_)
  obtain ⟨rfl, hw8⟩ := hp
  replace hw8 := hw8.symm
  subst hw8
  refine x_iload F dL_law_1488 rfl ?_
  refine x_icmp_eq F dL_law_1490 rfl (fun _ => ?_) (fun hc => absurd hc (by decide))
  refine x_iload F dL_law_1495 rfl ?_
  refine x_if_ne F dL_law_1497 rfl (fun _ => ?_) (fun hc => absurd hc (by decide))
  refine x_goto F dL_law_1512 rfl ?_
  exact x_widen (Nat.le_of_ble_eq_true rfl) (Nat.le_of_ble_eq_true rfl) (x_lk (NEXT _) ⟨rfl, rfl, rfl, rfl, rfl, trivial⟩)
set_option maxRecDepth 100000 in
set_option maxHeartbeats 4000000 in
theorem law_goneIn (F : x_Fix p s m #[.ref b] meth c cL_law 9 RL xTs rt nm D dA vwC1 tyL1 B) (hX : va_X b 6 xs s s.heap) (hbB : b < B) (hl : l.stackTraces = false) (hF : FR w M Fa Ca Aa Ro Tr 0) (hM : MR w (dA 99) mo re fa cl ad ca 0 0) (ho : w o = some (aL 1 f)) (NEXT : ∀ w1, X p l e room_1 s m #[.ref b] below meth c Q D dA vwC1 B 9 40 200 1813 [(0, .ref b), (1, .ref M), (2, .ref mo), (3, .ref o), (4, .int 0)] [] w1) : X p l e room_1 s m #[.ref b] below meth c Q D dA vwC1 B 9 15 73 1515 [(0, .ref b), (1, .ref M), (2, .ref mo), (3, .ref o), (4, .int 0)] [] w := by
  refine x_aload_n F dL_law_1515 rfl rfl ?_
  refine x_aload_n F dL_law_1516 rfl rfl ?_
  refine x_iload F dL_law_1517 rfl ?_
  refine x_iconst (v := 1) F dL_law_1519 (by decide) ?_
  refine x_iadd F dL_law_1520 ?_
  refine x_sld F hX hbB (by unfold vp_in; decide) dL_law_1521 ?_
  refine x_aload_n F dL_law_1522 rfl rfl ?_
  refine x_iload F dL_law_1523 rfl ?_
  refine x_iconst (v := 2) F dL_law_1525 (by decide) ?_
  refine x_iadd F dL_law_1526 ?_
  refine x_sld F hX hbB (by unfold vp_in; decide) dL_law_1527 ?_
  refine x_aload_n F dL_law_1528 rfl rfl ?_
  refine x_callSW (av := [.ref M, .int _, .int _, .ref o]) (rest := []) F dL_law_1529 (x_gSW q308 q309 q0 q310) (w_goneIn hl hF _ _ o) rfl rfl rfl xd_L_goneIn ⟨Nat.le_of_ble_eq_true rfl, Nat.le_of_ble_eq_true rfl⟩ ⟨Nat.le_of_ble_eq_true rfl, Nat.le_of_ble_eq_true rfl⟩ rfl rfl (Nat.le_of_ble_eq_true rfl) (fun v1 w1 hp => ?_)
  obtain ⟨rfl, hw8⟩ := hp
  replace hw8 := hw8.symm
  subst hw8
  refine x_istore F dL_law_1532 (by decide) ?_
  refine x_aload_n F dL_law_1534 rfl rfl ?_
  refine x_aload_n F dL_law_1535 rfl rfl ?_
  refine x_iload F dL_law_1536 rfl ?_
  refine x_iconst (v := 1) F dL_law_1538 (by decide) ?_
  refine x_iadd F dL_law_1539 ?_
  refine x_sld F hX hbB (by unfold vp_in; decide) dL_law_1540 ?_
  refine x_aload_n F dL_law_1541 rfl rfl ?_
  refine x_iload F dL_law_1542 rfl ?_
  refine x_iconst (v := 2) F dL_law_1544 (by decide) ?_
  refine x_iadd F dL_law_1545 ?_
  refine x_sld F hX hbB (by unfold vp_in; decide) dL_law_1546 ?_
  refine x_cVi2 (ci := 7) (C := RX12) (T := TX12) (N := 2) F dL_law_1547 (x_gV q608 q609 q610 q5 q611) rfl (m_goneIn hM _ _) ⟨rfl, rfl, rfl, xd_X12_goneIn, ⟨Nat.le_of_ble_eq_true rfl, Nat.le_of_ble_eq_true rfl⟩, Nat.le_of_ble_eq_true rfl, Nat.le_of_ble_eq_true rfl⟩ rfl hM.1 (Nat.le_of_ble_eq_true rfl) (fun v1 w1 hp => ?_)
  obtain ⟨rfl, hw9⟩ := hp
  have h_m : w1 mo = some (oM 1 re) := by rw [hw9]; exact x_set_eq _ _ _
  refine x_istore F dL_law_1550 (by decide) ?_
  refine x_aload_n F dL_law_1552 rfl rfl ?_
  refine x_cVi0 (ci := 7) (C := RX12) (T := TX12) (N := 2) F dL_law_1553 (x_gV q389 q390 q391 q5 q392) rfl (m_thr h_m) ⟨rfl, rfl, rfl, xd_X12_thrown, ⟨Nat.le_of_ble_eq_true rfl, Nat.le_of_ble_eq_true rfl⟩, Nat.le_of_ble_eq_true rfl, Nat.le_of_ble_eq_true rfl⟩ rfl h_m (Nat.le_of_ble_eq_true rfl) (fun v1 w1 hp => ?_)
  obtain ⟨rfl, hw8⟩ := hp
  replace hw8 := hw8.symm
  subst hw8
  refine x_iload F dL_law_1556 rfl ?_
  refine x_icmp_eq F dL_law_1558 rfl (fun _ => ?_) (fun hc => absurd hc (by decide))
  refine x_iload F dL_law_1563 rfl ?_
  refine x_if_ne F dL_law_1565 rfl (fun _ => ?_) (fun hc => absurd hc (by decide))
  refine x_goto F dL_law_1580 rfl ?_
  exact x_widen (Nat.le_of_ble_eq_true rfl) (Nat.le_of_ble_eq_true rfl) (x_lk (NEXT _) ⟨rfl, rfl, rfl, rfl, rfl, trivial⟩)
set_option maxRecDepth 100000 in
set_option maxHeartbeats 4000000 in
theorem law_wouldBreak (F : x_Fix p s m #[.ref b] meth c cL_law 9 RL xTs rt nm D dA vwC1 tyL1 B) (hX : va_X b 6 xs s s.heap) (hbB : b < B) (hl : l.stackTraces = false) (hF : FR w M Fa Ca Aa Ro Tr 0) (hM : MR w (dA 99) mo re fa cl ad ca 0 0) (ho : w o = some (aL 1 f)) (NEXT : ∀ w1, X p l e room_1 s m #[.ref b] below meth c Q D dA vwC1 B 9 40 200 1813 [(0, .ref b), (1, .ref M), (2, .ref mo), (3, .ref o), (4, .int 0)] [] w1) : X p l e room_1 s m #[.ref b] below meth c Q D dA vwC1 B 9 15 73 1583 [(0, .ref b), (1, .ref M), (2, .ref mo), (3, .ref o), (4, .int 0)] [] w := by
  refine x_aload_n F dL_law_1583 rfl rfl ?_
  refine x_aload_n F dL_law_1584 rfl rfl ?_
  refine x_iload F dL_law_1585 rfl ?_
  refine x_iconst (v := 1) F dL_law_1587 (by decide) ?_
  refine x_iadd F dL_law_1588 ?_
  refine x_sld F hX hbB (by unfold vp_in; decide) dL_law_1589 ?_
  refine x_aload_n F dL_law_1590 rfl rfl ?_
  refine x_iload F dL_law_1591 rfl ?_
  refine x_iconst (v := 2) F dL_law_1593 (by decide) ?_
  refine x_iadd F dL_law_1594 ?_
  refine x_sld F hX hbB (by unfold vp_in; decide) dL_law_1595 ?_
  refine x_aload_n F dL_law_1596 rfl rfl ?_
  refine x_iload F dL_law_1597 rfl ?_
  refine x_iconst (v := 3) F dL_law_1599 (by decide) ?_
  refine x_iadd F dL_law_1600 ?_
  refine x_sld F hX hbB (by unfold vp_in; decide) dL_law_1601 ?_
  refine x_aload_n F dL_law_1602 rfl rfl ?_
  refine x_callSW (av := [.ref M, .int _, .int _, .int _, .ref o]) (rest := []) F dL_law_1603 (x_gSW q315 q316 q0 q317) (w_wouldBreak hl hF _ _ _ o) rfl rfl rfl xd_L_wouldBreak ⟨Nat.le_of_ble_eq_true rfl, Nat.le_of_ble_eq_true rfl⟩ ⟨Nat.le_of_ble_eq_true rfl, Nat.le_of_ble_eq_true rfl⟩ rfl rfl (Nat.le_of_ble_eq_true rfl) (fun v1 w1 hp => ?_)
  obtain ⟨rfl, hw8⟩ := hp
  replace hw8 := hw8.symm
  subst hw8
  refine x_istore F dL_law_1606 (by decide) ?_
  refine x_aload_n F dL_law_1608 rfl rfl ?_
  refine x_aload_n F dL_law_1609 rfl rfl ?_
  refine x_iload F dL_law_1610 rfl ?_
  refine x_iconst (v := 1) F dL_law_1612 (by decide) ?_
  refine x_iadd F dL_law_1613 ?_
  refine x_sld F hX hbB (by unfold vp_in; decide) dL_law_1614 ?_
  refine x_aload_n F dL_law_1615 rfl rfl ?_
  refine x_iload F dL_law_1616 rfl ?_
  refine x_iconst (v := 2) F dL_law_1618 (by decide) ?_
  refine x_iadd F dL_law_1619 ?_
  refine x_sld F hX hbB (by unfold vp_in; decide) dL_law_1620 ?_
  refine x_aload_n F dL_law_1621 rfl rfl ?_
  refine x_iload F dL_law_1622 rfl ?_
  refine x_iconst (v := 3) F dL_law_1624 (by decide) ?_
  refine x_iadd F dL_law_1625 ?_
  refine x_sld F hX hbB (by unfold vp_in; decide) dL_law_1626 ?_
  refine x_cVi3 (ci := 7) (C := RX12) (T := TX12) (N := 2) F dL_law_1627 (x_gV q612 q613 q614 q5 q615) rfl (m_wouldBreak hM _ _ _) ⟨rfl, rfl, rfl, xd_X12_wouldBreak, ⟨Nat.le_of_ble_eq_true rfl, Nat.le_of_ble_eq_true rfl⟩, Nat.le_of_ble_eq_true rfl, Nat.le_of_ble_eq_true rfl⟩ rfl hM.1 (Nat.le_of_ble_eq_true rfl) (fun v1 w1 hp => ?_)
  obtain ⟨rfl, hw9⟩ := hp
  have h_m : w1 mo = some (oM 1 re) := by rw [hw9]; exact x_set_eq _ _ _
  refine x_istore F dL_law_1630 (by decide) ?_
  refine x_aload_n F dL_law_1632 rfl rfl ?_
  refine x_cVi0 (ci := 7) (C := RX12) (T := TX12) (N := 2) F dL_law_1633 (x_gV q389 q390 q391 q5 q392) rfl (m_thr h_m) ⟨rfl, rfl, rfl, xd_X12_thrown, ⟨Nat.le_of_ble_eq_true rfl, Nat.le_of_ble_eq_true rfl⟩, Nat.le_of_ble_eq_true rfl, Nat.le_of_ble_eq_true rfl⟩ rfl h_m (Nat.le_of_ble_eq_true rfl) (fun v1 w1 hp => ?_)
  obtain ⟨rfl, hw8⟩ := hp
  replace hw8 := hw8.symm
  subst hw8
  refine x_iload F dL_law_1636 rfl ?_
  refine x_icmp_eq F dL_law_1638 rfl (fun _ => ?_) (fun hc => absurd hc (by decide))
  refine x_iload F dL_law_1643 rfl ?_
  refine x_if_ne F dL_law_1645 rfl (fun _ => ?_) (fun hc => absurd hc (by decide))
  refine x_goto F dL_law_1660 rfl ?_
  exact x_widen (Nat.le_of_ble_eq_true rfl) (Nat.le_of_ble_eq_true rfl) (x_lk (NEXT _) ⟨rfl, rfl, rfl, rfl, rfl, trivial⟩)
set_option maxRecDepth 100000 in
set_option maxHeartbeats 4000000 in
theorem law_target (F : x_Fix p s m #[.ref b] meth c cL_law 9 RL xTs rt nm D dA vwC1 tyL1 B) (hX : va_X b 6 xs s s.heap) (hbB : b < B) (hl : l.stackTraces = false) (hF : FR w M Fa Ca Aa Ro Tr 0) (hM : MR w (dA 99) mo re fa cl ad ca 0 0) (ho : w o = some (aL 1 f)) (NEXT : ∀ w1, X p l e room_1 s m #[.ref b] below meth c Q D dA vwC1 B 9 40 200 1813 [(0, .ref b), (1, .ref M), (2, .ref mo), (3, .ref o), (4, .int 0)] [] w1) : X p l e room_1 s m #[.ref b] below meth c Q D dA vwC1 B 9 15 73 1663 [(0, .ref b), (1, .ref M), (2, .ref mo), (3, .ref o), (4, .int 0)] [] w := by
  refine x_aload_n F dL_law_1663 rfl rfl ?_
  refine x_aload_n F dL_law_1664 rfl rfl ?_
  refine x_iload F dL_law_1665 rfl ?_
  refine x_iconst (v := 1) F dL_law_1667 (by decide) ?_
  refine x_iadd F dL_law_1668 ?_
  refine x_sld F hX hbB (by unfold vp_in; decide) dL_law_1669 ?_
  refine x_aload_n F dL_law_1670 rfl rfl ?_
  refine x_callSW (av := [.ref M, .int _, .ref o]) (rest := []) F dL_law_1671 (x_gSW q322 q323 q0 q324) (w_target hl hF _ o) rfl rfl rfl xd_L_target ⟨Nat.le_of_ble_eq_true rfl, Nat.le_of_ble_eq_true rfl⟩ ⟨Nat.le_of_ble_eq_true rfl, Nat.le_of_ble_eq_true rfl⟩ rfl rfl (Nat.le_of_ble_eq_true rfl) (fun v1 w1 hp => ?_)
  obtain ⟨rfl, hw8⟩ := hp
  replace hw8 := hw8.symm
  subst hw8
  refine x_istore F dL_law_1674 (by decide) ?_
  refine x_aload_n F dL_law_1676 rfl rfl ?_
  refine x_aload_n F dL_law_1677 rfl rfl ?_
  refine x_iload F dL_law_1678 rfl ?_
  refine x_iconst (v := 1) F dL_law_1680 (by decide) ?_
  refine x_iadd F dL_law_1681 ?_
  refine x_sld F hX hbB (by unfold vp_in; decide) dL_law_1682 ?_
  refine x_cVi1 (ci := 7) (C := RX12) (T := TX12) (N := 2) F dL_law_1683 (x_gV q616 q617 q618 q5 q619) rfl (m_target hM _) ⟨rfl, rfl, rfl, xd_X12_target, ⟨Nat.le_of_ble_eq_true rfl, Nat.le_of_ble_eq_true rfl⟩, Nat.le_of_ble_eq_true rfl, Nat.le_of_ble_eq_true rfl⟩ rfl hM.1 (Nat.le_of_ble_eq_true rfl) (fun v1 w1 hp => ?_)
  obtain ⟨rfl, hw9⟩ := hp
  have h_m : w1 mo = some (oM 1 re) := by rw [hw9]; exact x_set_eq _ _ _
  refine x_istore F dL_law_1686 (by decide) ?_
  refine x_aload_n F dL_law_1688 rfl rfl ?_
  refine x_cVi0 (ci := 7) (C := RX12) (T := TX12) (N := 2) F dL_law_1689 (x_gV q389 q390 q391 q5 q392) rfl (m_thr h_m) ⟨rfl, rfl, rfl, xd_X12_thrown, ⟨Nat.le_of_ble_eq_true rfl, Nat.le_of_ble_eq_true rfl⟩, Nat.le_of_ble_eq_true rfl, Nat.le_of_ble_eq_true rfl⟩ rfl h_m (Nat.le_of_ble_eq_true rfl) (fun v1 w1 hp => ?_)
  obtain ⟨rfl, hw8⟩ := hp
  replace hw8 := hw8.symm
  subst hw8
  refine x_iload F dL_law_1692 rfl ?_
  refine x_icmp_eq F dL_law_1694 rfl (fun _ => ?_) (fun hc => absurd hc (by decide))
  refine x_iload F dL_law_1699 rfl ?_
  refine x_if_ne F dL_law_1701 rfl (fun _ => ?_) (fun hc => absurd hc (by decide))
  refine x_goto F dL_law_1716 rfl ?_
  exact x_widen (Nat.le_of_ble_eq_true rfl) (Nat.le_of_ble_eq_true rfl) (x_lk (NEXT _) ⟨rfl, rfl, rfl, rfl, rfl, trivial⟩)
set_option maxRecDepth 100000 in
set_option maxHeartbeats 4000000 in
theorem law_goneBy (F : x_Fix p s m #[.ref b] meth c cL_law 9 RL xTs rt nm D dA vwC1 tyL1 B) (hX : va_X b 6 xs s s.heap) (hbB : b < B) (hl : l.stackTraces = false) (hF : FR w M Fa Ca Aa Ro Tr 0) (hM : MR w (dA 99) mo re fa cl ad ca 0 0) (ho : w o = some (aL 1 f)) (NEXT : ∀ w1, X p l e room_1 s m #[.ref b] below meth c Q D dA vwC1 B 9 40 200 1813 [(0, .ref b), (1, .ref M), (2, .ref mo), (3, .ref o), (4, .int 0)] [] w1) : X p l e room_1 s m #[.ref b] below meth c Q D dA vwC1 B 9 15 73 1719 [(0, .ref b), (1, .ref M), (2, .ref mo), (3, .ref o), (4, .int 0)] [] w := by
  refine x_aload_n F dL_law_1719 rfl rfl ?_
  refine x_aload_n F dL_law_1720 rfl rfl ?_
  refine x_iload F dL_law_1721 rfl ?_
  refine x_iconst (v := 1) F dL_law_1723 (by decide) ?_
  refine x_iadd F dL_law_1724 ?_
  refine x_sld F hX hbB (by unfold vp_in; decide) dL_law_1725 ?_
  refine x_aload_n F dL_law_1726 rfl rfl ?_
  refine x_iload F dL_law_1727 rfl ?_
  refine x_iconst (v := 2) F dL_law_1729 (by decide) ?_
  refine x_iadd F dL_law_1730 ?_
  refine x_sld F hX hbB (by unfold vp_in; decide) dL_law_1731 ?_
  refine x_aload_n F dL_law_1732 rfl rfl ?_
  refine x_iload F dL_law_1733 rfl ?_
  refine x_iconst (v := 3) F dL_law_1735 (by decide) ?_
  refine x_iadd F dL_law_1736 ?_
  refine x_sld F hX hbB (by unfold vp_in; decide) dL_law_1737 ?_
  refine x_aload_n F dL_law_1738 rfl rfl ?_
  refine x_callSW (av := [.ref M, .int _, .int _, .int _, .ref o]) (rest := []) F dL_law_1739 (x_gSW q329 q330 q0 q331) (w_goneBy hl hF _ _ _ o) rfl rfl rfl xd_L_goneBy ⟨Nat.le_of_ble_eq_true rfl, Nat.le_of_ble_eq_true rfl⟩ ⟨Nat.le_of_ble_eq_true rfl, Nat.le_of_ble_eq_true rfl⟩ rfl rfl (Nat.le_of_ble_eq_true rfl) (fun v1 w1 hp => ?_)
  obtain ⟨rfl, hw8⟩ := hp
  replace hw8 := hw8.symm
  subst hw8
  refine x_istore F dL_law_1742 (by decide) ?_
  refine x_aload_n F dL_law_1744 rfl rfl ?_
  refine x_aload_n F dL_law_1745 rfl rfl ?_
  refine x_iload F dL_law_1746 rfl ?_
  refine x_iconst (v := 1) F dL_law_1748 (by decide) ?_
  refine x_iadd F dL_law_1749 ?_
  refine x_sld F hX hbB (by unfold vp_in; decide) dL_law_1750 ?_
  refine x_aload_n F dL_law_1751 rfl rfl ?_
  refine x_iload F dL_law_1752 rfl ?_
  refine x_iconst (v := 2) F dL_law_1754 (by decide) ?_
  refine x_iadd F dL_law_1755 ?_
  refine x_sld F hX hbB (by unfold vp_in; decide) dL_law_1756 ?_
  refine x_aload_n F dL_law_1757 rfl rfl ?_
  refine x_iload F dL_law_1758 rfl ?_
  refine x_iconst (v := 3) F dL_law_1760 (by decide) ?_
  refine x_iadd F dL_law_1761 ?_
  refine x_sld F hX hbB (by unfold vp_in; decide) dL_law_1762 ?_
  refine x_cVi3 (ci := 7) (C := RX12) (T := TX12) (N := 2) F dL_law_1763 (x_gV q620 q621 q622 q5 q623) rfl (m_goneBy hM _ _ _) ⟨rfl, rfl, rfl, xd_X12_goneBy, ⟨Nat.le_of_ble_eq_true rfl, Nat.le_of_ble_eq_true rfl⟩, Nat.le_of_ble_eq_true rfl, Nat.le_of_ble_eq_true rfl⟩ rfl hM.1 (Nat.le_of_ble_eq_true rfl) (fun v1 w1 hp => ?_)
  obtain ⟨rfl, hw9⟩ := hp
  have h_m : w1 mo = some (oM 1 re) := by rw [hw9]; exact x_set_eq _ _ _
  refine x_istore F dL_law_1766 (by decide) ?_
  refine x_aload_n F dL_law_1768 rfl rfl ?_
  refine x_cVi0 (ci := 7) (C := RX12) (T := TX12) (N := 2) F dL_law_1769 (x_gV q389 q390 q391 q5 q392) rfl (m_thr h_m) ⟨rfl, rfl, rfl, xd_X12_thrown, ⟨Nat.le_of_ble_eq_true rfl, Nat.le_of_ble_eq_true rfl⟩, Nat.le_of_ble_eq_true rfl, Nat.le_of_ble_eq_true rfl⟩ rfl h_m (Nat.le_of_ble_eq_true rfl) (fun v1 w1 hp => ?_)
  obtain ⟨rfl, hw8⟩ := hp
  replace hw8 := hw8.symm
  subst hw8
  refine x_iload F dL_law_1772 rfl ?_
  refine x_icmp_eq F dL_law_1774 rfl (fun _ => ?_) (fun hc => absurd hc (by decide))
  refine x_iload F dL_law_1779 rfl ?_
  refine x_if_ne F dL_law_1781 rfl (fun _ => ?_) (fun hc => absurd hc (by decide))
  refine x_goto F dL_law_1796 rfl ?_
  exact x_widen (Nat.le_of_ble_eq_true rfl) (Nat.le_of_ble_eq_true rfl) (x_lk (NEXT _) ⟨rfl, rfl, rfl, rfl, rfl, trivial⟩)
set_option maxRecDepth 100000 in
set_option maxHeartbeats 4000000 in
theorem law_open (F : x_Fix p s m #[.ref b] meth c cL_law 9 RL xTs rt nm D dA vwC1 tyL1 B) (hX : va_X b 6 xs s s.heap) (hbB : b < B) (hl : l.stackTraces = false) (hF : FR w M Fa Ca Aa Ro Tr 0) (hM : MR w (dA 99) mo re fa cl ad ca 0 0) (ho : w o = some (aL 1 f)) (NEXT : ∀ w1, X p l e room_1 s m #[.ref b] below meth c Q D dA vwC1 B 9 40 200 1813 [(0, .ref b), (1, .ref M), (2, .ref mo), (3, .ref o), (4, .int 0)] [] w1) : X p l e room_1 s m #[.ref b] below meth c Q D dA vwC1 B 9 15 73 152 [(0, .ref b), (1, .ref M), (2, .ref mo), (3, .ref o), (4, .int 0)] [] w := by
  refine x_aload_n F dL_law_152 rfl rfl ?_
  refine x_aload_n F dL_law_153 rfl rfl ?_
  refine x_callSW (av := [.ref M, .ref o]) (rest := []) F dL_law_154 (x_gSW q128 q129 q0 q130) (w_open hF ho) rfl rfl rfl xd_L_open ⟨Nat.le_of_ble_eq_true rfl, Nat.le_of_ble_eq_true rfl⟩ ⟨Nat.le_of_ble_eq_true rfl, Nat.le_of_ble_eq_true rfl⟩ rfl rfl (Nat.le_of_ble_eq_true rfl) (fun v1 w1 hp => ?_)
  obtain ⟨rfl, ⟨g, ho1, hg⟩, hk⟩ := hp
  have hM1 := hM.keep hF ho hk
  have ne_omo : ¬ o = mo := w_ne ho1 hM1.1 (fun z => by cases z)
  refine x_istore F dL_law_157 (by decide) ?_
  refine x_aload_n F dL_law_159 rfl rfl ?_
  refine x_cVi0 (ci := 7) (C := RX12) (T := TX12) (N := 2) F dL_law_160 (x_gV q393 q394 q395 q5 q396) rfl (m_open hM1) ⟨rfl, rfl, rfl, xd_X12_open, ⟨Nat.le_of_ble_eq_true rfl, Nat.le_of_ble_eq_true rfl⟩, Nat.le_of_ble_eq_true rfl, Nat.le_of_ble_eq_true rfl⟩ rfl hM1.1 (Nat.le_of_ble_eq_true rfl) (fun v1 w1 hp => ?_)
  obtain ⟨rfl, h_m, hk2⟩ := hp
  have h_o : w1 o = some (aL 1 g) := hk2 _ _ ho1 ne_omo (w_ne ho1 hM1.2.2.1 (fun z => by cases z))
  refine x_istore F dL_law_163 (by decide) ?_
  refine x_aload_n F dL_law_165 rfl rfl ?_
  refine x_cVi0 (ci := 7) (C := RX12) (T := TX12) (N := 2) F dL_law_166 (x_gV q389 q390 q391 q5 q392) rfl (m_thr h_m) ⟨rfl, rfl, rfl, xd_X12_thrown, ⟨Nat.le_of_ble_eq_true rfl, Nat.le_of_ble_eq_true rfl⟩, Nat.le_of_ble_eq_true rfl, Nat.le_of_ble_eq_true rfl⟩ rfl h_m (Nat.le_of_ble_eq_true rfl) (fun v1 w1 hp => ?_)
  obtain ⟨rfl, hw8⟩ := hp
  replace hw8 := hw8.symm
  subst hw8
  refine x_iload F dL_law_169 rfl ?_
  refine x_icmp_eq F dL_law_171 rfl (fun _ => ?_) (fun hc => absurd hc (by decide))
  refine x_iload F dL_law_176 rfl ?_
  refine x_if_ne F dL_law_178 rfl (fun hc => absurd hc (by decide)) (fun _ => ?_)
  refine x_aload_n F dL_law_181 rfl rfl ?_
  refine x_iconst (v := 0) F dL_law_182 (by decide) ?_
  refine x_lald F dL_law_183 rfl h_o (by unfold vp_in; decide) ?_
  rw [show g (0 : Int32).toNatClampNeg = 0 from hg]
  refine x_iload F dL_law_184 rfl ?_
  refine x_i2l F dL_law_186 ?_
  refine x_lcmp F dL_law_187 ?_
  refine x_if_eq F dL_law_188 rfl (fun h188 => ?_) (fun hc => absurd hc (fun q => q (by decide)))
  refine x_goto F dL_law_193 rfl ?_
  exact x_widen (Nat.le_of_ble_eq_true rfl) (Nat.le_of_ble_eq_true rfl) (x_lk (NEXT _) ⟨rfl, rfl, rfl, rfl, rfl, trivial⟩)
set_option maxRecDepth 100000 in
set_option maxHeartbeats 4000000 in
theorem law_many (F : x_Fix p s m #[.ref b] meth c cL_law 9 RL xTs rt nm D dA vwC1 tyL1 B) (hX : va_X b 6 xs s s.heap) (hbB : b < B) (hl : l.stackTraces = false) (hF : FR w M Fa Ca Aa Ro Tr 0) (hM : MR w (dA 99) mo re fa cl ad ca 0 0) (ho : w o = some (aL 1 f)) (NEXT : ∀ w1, X p l e room_1 s m #[.ref b] below meth c Q D dA vwC1 B 9 40 200 1813 [(0, .ref b), (1, .ref M), (2, .ref mo), (3, .ref o), (4, .int 0)] [] w1) : X p l e room_1 s m #[.ref b] below meth c Q D dA vwC1 B 9 15 73 1350 [(0, .ref b), (1, .ref M), (2, .ref mo), (3, .ref o), (4, .int 0)] [] w := by
  by_cases hx : xs ((0 : Int32) + 1).toNatClampNeg < 0 ∨ ¬ xs ((0 : Int32) + 1).toNatClampNeg ≤ 10
  · refine x_aload_n F dL_law_1350 rfl rfl ?_
    refine x_aload_n F dL_law_1351 rfl rfl ?_
    refine x_iload F dL_law_1352 rfl ?_
    refine x_iconst (v := 1) F dL_law_1354 (by decide) ?_
    refine x_iadd F dL_law_1355 ?_
    refine x_sld F hX hbB (by unfold vp_in; decide) dL_law_1356 ?_
    refine x_aload_n F dL_law_1357 rfl rfl ?_
    refine x_callSW (av := [.ref M, .int _, .ref o]) (rest := []) F dL_law_1358 (x_gSW q294 q295 q0 q296) (w_manyX hl hF.1 _ hx o) rfl rfl rfl xd_L_many ⟨Nat.le_of_ble_eq_true rfl, Nat.le_of_ble_eq_true rfl⟩ ⟨Nat.le_of_ble_eq_true rfl, Nat.le_of_ble_eq_true rfl⟩ rfl rfl (Nat.le_of_ble_eq_true rfl) (fun v1 w1 hp => ?_)
    obtain ⟨rfl, hw8⟩ := hp
    replace hw8 := hw8.symm
    subst hw8
    refine x_istore F dL_law_1361 (by decide) ?_
    refine x_aload_n F dL_law_1363 rfl rfl ?_
    refine x_aload_n F dL_law_1364 rfl rfl ?_
    refine x_iload F dL_law_1365 rfl ?_
    refine x_iconst (v := 1) F dL_law_1367 (by decide) ?_
    refine x_iadd F dL_law_1368 ?_
    refine x_sld F hX hbB (by unfold vp_in; decide) dL_law_1369 ?_
    refine x_cVi1 (ci := 7) (C := RX12) (T := TX12) (N := 2) F dL_law_1370 (x_gV q581 q582 q583 q5 q584) rfl (m_manyX hM _ hx) ⟨rfl, rfl, rfl, xd_X12_many, ⟨Nat.le_of_ble_eq_true rfl, Nat.le_of_ble_eq_true rfl⟩, Nat.le_of_ble_eq_true rfl, Nat.le_of_ble_eq_true rfl⟩ rfl hM.1 (Nat.le_of_ble_eq_true rfl) (fun v1 w1 hp => ?_)
    obtain ⟨rfl, hw9⟩ := hp
    have h_m : w1 mo = some (oM 1 re) := by rw [hw9]; exact x_set_eq _ _ _
    refine x_istore F dL_law_1373 (by decide) ?_
    refine x_aload_n F dL_law_1375 rfl rfl ?_
    refine x_cVi0 (ci := 7) (C := RX12) (T := TX12) (N := 2) F dL_law_1376 (x_gV q389 q390 q391 q5 q392) rfl (m_thr h_m) ⟨rfl, rfl, rfl, xd_X12_thrown, ⟨Nat.le_of_ble_eq_true rfl, Nat.le_of_ble_eq_true rfl⟩, Nat.le_of_ble_eq_true rfl, Nat.le_of_ble_eq_true rfl⟩ rfl h_m (Nat.le_of_ble_eq_true rfl) (fun v1 w1 hp => ?_)
    obtain ⟨rfl, hw8⟩ := hp
    replace hw8 := hw8.symm
    subst hw8
    refine x_iload F dL_law_1379 rfl ?_
    refine x_icmp_eq F dL_law_1381 rfl (fun _ => ?_) (fun hc => absurd hc (by decide))
    refine x_iload F dL_law_1386 rfl ?_
    refine x_if_ne F dL_law_1388 rfl (fun _ => ?_) (fun hc => absurd hc (by decide))
    refine x_goto F dL_law_1403 rfl ?_
    exact x_widen (Nat.le_of_ble_eq_true rfl) (Nat.le_of_ble_eq_true rfl) (x_lk (NEXT _) ⟨rfl, rfl, rfl, rfl, rfl, trivial⟩)
  · obtain ⟨t, ht, hxt⟩ := nI_of2 (M := 10) (n := 10) (by decide) (fun q => hx (Or.inl q)) (Decidable.not_not.mp (fun q => hx (Or.inr q)))
    refine x_aload_n F dL_law_1350 rfl rfl ?_
    refine x_aload_n F dL_law_1351 rfl rfl ?_
    refine x_iload F dL_law_1352 rfl ?_
    refine x_iconst (v := 1) F dL_law_1354 (by decide) ?_
    refine x_iadd F dL_law_1355 ?_
    refine x_sld F hX hbB (by unfold vp_in; decide) dL_law_1356 ?_
    rw [hxt]
    refine x_aload_n F dL_law_1357 rfl rfl ?_
    refine x_callSW (av := [.ref M, .int (nI t), .ref o]) (rest := []) F dL_law_1358 (x_gSW q294 q295 q0 q296) (w_many hF ho ht) rfl rfl rfl xd_L_many ⟨Nat.le_of_ble_eq_true rfl, Nat.le_of_ble_eq_true rfl⟩ ⟨Nat.le_of_ble_eq_true rfl, Nat.le_of_ble_eq_true rfl⟩ rfl rfl (Nat.le_of_ble_eq_true rfl) (fun v1 w1 hp => ?_)
    obtain ⟨rfl, ⟨g, ho1, hg⟩, hk⟩ := hp
    have hM1 := hM.keep hF ho hk
    have ne_omo : ¬ o = mo := w_ne ho1 hM1.1 (fun z => by cases z)
    refine x_istore F dL_law_1361 (by decide) ?_
    refine x_aload_n F dL_law_1363 rfl rfl ?_
    refine x_aload_n F dL_law_1364 rfl rfl ?_
    refine x_iload F dL_law_1365 rfl ?_
    refine x_iconst (v := 1) F dL_law_1367 (by decide) ?_
    refine x_iadd F dL_law_1368 ?_
    refine x_sld F hX hbB (by unfold vp_in; decide) dL_law_1369 ?_
    rw [hxt]
    refine x_cVi1 (ci := 7) (C := RX12) (T := TX12) (N := 2) F dL_law_1370 (x_gV q581 q582 q583 q5 q584) rfl (m_many hM1 ht) ⟨rfl, rfl, rfl, xd_X12_many, ⟨Nat.le_of_ble_eq_true rfl, Nat.le_of_ble_eq_true rfl⟩, Nat.le_of_ble_eq_true rfl, Nat.le_of_ble_eq_true rfl⟩ rfl hM1.1 (Nat.le_of_ble_eq_true rfl) (fun v1 w1 hp => ?_)
    obtain ⟨rfl, hw9⟩ := hp
    have h_m : w1 mo = some (oM 0 re) := by rw [hw9]; exact x_set_eq _ _ _
    have h_o : w1 o = some (aL 1 g) := by rw [hw9, x_set_ne _ _ ne_omo]; exact ho1
    refine x_istore F dL_law_1373 (by decide) ?_
    refine x_aload_n F dL_law_1375 rfl rfl ?_
    refine x_cVi0 (ci := 7) (C := RX12) (T := TX12) (N := 2) F dL_law_1376 (x_gV q389 q390 q391 q5 q392) rfl (m_thr h_m) ⟨rfl, rfl, rfl, xd_X12_thrown, ⟨Nat.le_of_ble_eq_true rfl, Nat.le_of_ble_eq_true rfl⟩, Nat.le_of_ble_eq_true rfl, Nat.le_of_ble_eq_true rfl⟩ rfl h_m (Nat.le_of_ble_eq_true rfl) (fun v1 w1 hp => ?_)
    obtain ⟨rfl, hw8⟩ := hp
    replace hw8 := hw8.symm
    subst hw8
    refine x_iload F dL_law_1379 rfl ?_
    refine x_icmp_eq F dL_law_1381 rfl (fun _ => ?_) (fun hc => absurd hc (by decide))
    refine x_iload F dL_law_1386 rfl ?_
    refine x_if_ne F dL_law_1388 rfl (fun hc => absurd hc (by decide)) (fun _ => ?_)
    refine x_aload_n F dL_law_1391 rfl rfl ?_
    refine x_iconst (v := 0) F dL_law_1392 (by decide) ?_
    refine x_lald F dL_law_1393 rfl h_o (by unfold vp_in; decide) ?_
    rw [show g (0 : Int32).toNatClampNeg = 0 from hg]
    refine x_iload F dL_law_1394 rfl ?_
    refine x_i2l F dL_law_1396 ?_
    refine x_lcmp F dL_law_1397 ?_
    refine x_if_eq F dL_law_1398 rfl (fun h1398 => ?_) (fun hc => absurd hc (fun q => q (by decide)))
    refine x_goto F dL_law_1403 rfl ?_
    exact x_widen (Nat.le_of_ble_eq_true rfl) (Nat.le_of_ble_eq_true rfl) (x_lk (NEXT _) ⟨rfl, rfl, rfl, rfl, rfl, trivial⟩)
set_option maxRecDepth 100000 in
set_option maxHeartbeats 4000000 in
theorem law_pass (F : x_Fix p s m #[.ref b] meth c cL_law 9 RL xTs rt nm D dA vwC1 tyL1 B) (hX : va_X b 6 xs s s.heap) (hbB : b < B) (hl : l.stackTraces = false) (hF : FR w M Fa Ca Aa Ro Tr 0) (hM : MR w (dA 99) mo re fa cl ad ca 0 0) (ho : w o = some (aL 1 f)) (NEXT : ∀ w1, X p l e room_1 s m #[.ref b] below meth c Q D dA vwC1 B 9 40 200 1813 [(0, .ref b), (1, .ref M), (2, .ref mo), (3, .ref o), (4, .int 0)] [] w1) : X p l e room_1 s m #[.ref b] below meth c Q D dA vwC1 B 9 15 73 911 [(0, .ref b), (1, .ref M), (2, .ref mo), (3, .ref o), (4, .int 0)] [] w := by
  by_cases hx : xs ((0 : Int32) + 1).toNatClampNeg < 1 ∨ ¬ xs ((0 : Int32) + 1).toNatClampNeg ≤ 100
  · refine x_aload_n F dL_law_911 rfl rfl ?_
    refine x_aload_n F dL_law_912 rfl rfl ?_
    refine x_iload F dL_law_913 rfl ?_
    refine x_iconst (v := 1) F dL_law_915 (by decide) ?_
    refine x_iadd F dL_law_916 ?_
    refine x_sld F hX hbB (by unfold vp_in; decide) dL_law_917 ?_
    refine x_aload_n F dL_law_918 rfl rfl ?_
    refine x_callSW (av := [.ref M, .int _, .ref o]) (rest := []) F dL_law_919 (x_gSW q248 q249 q0 q250) (w_passX hl hF.1 _ hx o) rfl rfl rfl xd_L_pass ⟨Nat.le_of_ble_eq_true rfl, Nat.le_of_ble_eq_true rfl⟩ ⟨Nat.le_of_ble_eq_true rfl, Nat.le_of_ble_eq_true rfl⟩ rfl rfl (Nat.le_of_ble_eq_true rfl) (fun v1 w1 hp => ?_)
    obtain ⟨rfl, hw8⟩ := hp
    replace hw8 := hw8.symm
    subst hw8
    refine x_istore F dL_law_922 (by decide) ?_
    refine x_aload_n F dL_law_924 rfl rfl ?_
    refine x_aload_n F dL_law_925 rfl rfl ?_
    refine x_iload F dL_law_926 rfl ?_
    refine x_iconst (v := 1) F dL_law_928 (by decide) ?_
    refine x_iadd F dL_law_929 ?_
    refine x_sld F hX hbB (by unfold vp_in; decide) dL_law_930 ?_
    refine x_cVi1 (ci := 7) (C := RX12) (T := TX12) (N := 2) F dL_law_931 (x_gV q550 q551 q552 q5 q553) rfl (m_passX hM _ hx) ⟨rfl, rfl, rfl, xd_X12_pass, ⟨Nat.le_of_ble_eq_true rfl, Nat.le_of_ble_eq_true rfl⟩, Nat.le_of_ble_eq_true rfl, Nat.le_of_ble_eq_true rfl⟩ rfl hM.1 (Nat.le_of_ble_eq_true rfl) (fun v1 w1 hp => ?_)
    obtain ⟨rfl, hw9⟩ := hp
    have h_m : w1 mo = some (oM 1 re) := by rw [hw9]; exact x_set_eq _ _ _
    refine x_istore F dL_law_934 (by decide) ?_
    refine x_aload_n F dL_law_936 rfl rfl ?_
    refine x_cVi0 (ci := 7) (C := RX12) (T := TX12) (N := 2) F dL_law_937 (x_gV q389 q390 q391 q5 q392) rfl (m_thr h_m) ⟨rfl, rfl, rfl, xd_X12_thrown, ⟨Nat.le_of_ble_eq_true rfl, Nat.le_of_ble_eq_true rfl⟩, Nat.le_of_ble_eq_true rfl, Nat.le_of_ble_eq_true rfl⟩ rfl h_m (Nat.le_of_ble_eq_true rfl) (fun v1 w1 hp => ?_)
    obtain ⟨rfl, hw8⟩ := hp
    replace hw8 := hw8.symm
    subst hw8
    refine x_iload F dL_law_940 rfl ?_
    refine x_icmp_eq F dL_law_942 rfl (fun _ => ?_) (fun hc => absurd hc (by decide))
    refine x_iload F dL_law_947 rfl ?_
    refine x_if_ne F dL_law_949 rfl (fun _ => ?_) (fun hc => absurd hc (by decide))
    refine x_goto F dL_law_964 rfl ?_
    exact x_widen (Nat.le_of_ble_eq_true rfl) (Nat.le_of_ble_eq_true rfl) (x_lk (NEXT _) ⟨rfl, rfl, rfl, rfl, rfl, trivial⟩)
  · have hx0 : ¬ xs ((0 : Int32) + 1).toNatClampNeg < 0 := fun q => hx (Or.inl (lt01 q))
    obtain ⟨t, ht, hxt⟩ := nI_of2 (M := 100) (n := 100) (by decide) hx0 (Decidable.not_not.mp (fun q => hx (Or.inr q)))
    have ht1 : 1 ≤ t := by
      have h1 : ¬ xs ((0 : Int32) + 1).toNatClampNeg < 1 := fun q => hx (Or.inl q)
      rw [hxt] at h1
      exact Nat.not_lt.mp (fun q => h1 (nI_lt q (by decide)))
    refine x_aload_n F dL_law_911 rfl rfl ?_
    refine x_aload_n F dL_law_912 rfl rfl ?_
    refine x_iload F dL_law_913 rfl ?_
    refine x_iconst (v := 1) F dL_law_915 (by decide) ?_
    refine x_iadd F dL_law_916 ?_
    refine x_sld F hX hbB (by unfold vp_in; decide) dL_law_917 ?_
    rw [hxt]
    refine x_aload_n F dL_law_918 rfl rfl ?_
    refine x_callSW (av := [.ref M, .int (nI t), .ref o]) (rest := []) F dL_law_919 (x_gSW q248 q249 q0 q250) (w_pass hF ho ht1 ht) rfl rfl rfl xd_L_pass ⟨Nat.le_of_ble_eq_true rfl, Nat.le_of_ble_eq_true rfl⟩ ⟨Nat.le_of_ble_eq_true rfl, Nat.le_of_ble_eq_true rfl⟩ rfl rfl (Nat.le_of_ble_eq_true rfl) (fun v1 w1 hp => ?_)
    obtain ⟨rfl, ⟨g, ho1, hg⟩, hk⟩ := hp
    have hM1 := hM.keep hF ho hk
    have ne_omo : ¬ o = mo := w_ne ho1 hM1.1 (fun z => by cases z)
    refine x_istore F dL_law_922 (by decide) ?_
    refine x_aload_n F dL_law_924 rfl rfl ?_
    refine x_aload_n F dL_law_925 rfl rfl ?_
    refine x_iload F dL_law_926 rfl ?_
    refine x_iconst (v := 1) F dL_law_928 (by decide) ?_
    refine x_iadd F dL_law_929 ?_
    refine x_sld F hX hbB (by unfold vp_in; decide) dL_law_930 ?_
    rw [hxt]
    refine x_cVi1 (ci := 7) (C := RX12) (T := TX12) (N := 2) F dL_law_931 (x_gV q550 q551 q552 q5 q553) rfl (m_pass hM1 ht1 ht) ⟨rfl, rfl, rfl, xd_X12_pass, ⟨Nat.le_of_ble_eq_true rfl, Nat.le_of_ble_eq_true rfl⟩, Nat.le_of_ble_eq_true rfl, Nat.le_of_ble_eq_true rfl⟩ rfl hM1.1 (Nat.le_of_ble_eq_true rfl) (fun v1 w1 hp => ?_)
    obtain ⟨rfl, h_m, hk2⟩ := hp
    have h_o : w1 o = some (aL 1 g) := hk2 _ _ ho1 ne_omo (w_ne ho1 hM1.2.1 (fun z => by cases z))
    refine x_istore F dL_law_934 (by decide) ?_
    refine x_aload_n F dL_law_936 rfl rfl ?_
    refine x_cVi0 (ci := 7) (C := RX12) (T := TX12) (N := 2) F dL_law_937 (x_gV q389 q390 q391 q5 q392) rfl (m_thr h_m) ⟨rfl, rfl, rfl, xd_X12_thrown, ⟨Nat.le_of_ble_eq_true rfl, Nat.le_of_ble_eq_true rfl⟩, Nat.le_of_ble_eq_true rfl, Nat.le_of_ble_eq_true rfl⟩ rfl h_m (Nat.le_of_ble_eq_true rfl) (fun v1 w1 hp => ?_)
    obtain ⟨rfl, hw8⟩ := hp
    replace hw8 := hw8.symm
    subst hw8
    refine x_iload F dL_law_940 rfl ?_
    refine x_icmp_eq F dL_law_942 rfl (fun _ => ?_) (fun hc => absurd hc (by decide))
    refine x_iload F dL_law_947 rfl ?_
    refine x_if_ne F dL_law_949 rfl (fun hc => absurd hc (by decide)) (fun _ => ?_)
    refine x_aload_n F dL_law_952 rfl rfl ?_
    refine x_iconst (v := 0) F dL_law_953 (by decide) ?_
    refine x_lald F dL_law_954 rfl h_o (by unfold vp_in; decide) ?_
    rw [show g (0 : Int32).toNatClampNeg = 0 from hg]
    refine x_iload F dL_law_955 rfl ?_
    refine x_i2l F dL_law_957 ?_
    refine x_lcmp F dL_law_958 ?_
    refine x_if_eq F dL_law_959 rfl (fun h959 => ?_) (fun hc => absurd hc (fun q => q (by decide)))
    refine x_goto F dL_law_964 rfl ?_
    exact x_widen (Nat.le_of_ble_eq_true rfl) (Nat.le_of_ble_eq_true rfl) (x_lk (NEXT _) ⟨rfl, rfl, rfl, rfl, rfl, trivial⟩)
set_option maxRecDepth 100000 in
set_option maxHeartbeats 4000000 in
theorem law_servedShare (F : x_Fix p s m #[.ref b] meth c cL_law 9 RL xTs rt nm D dA vwC1 tyL1 B) (hX : va_X b 6 xs s s.heap) (hbB : b < B) (hl : l.stackTraces = false) (hF : FR w M Fa Ca Aa Ro Tr 0) (hM : MR w (dA 99) mo re fa cl ad ca 0 0) (ho : w o = some (aL 1 f)) (NEXT : ∀ w1, X p l e room_1 s m #[.ref b] below meth c Q D dA vwC1 B 9 40 200 1813 [(0, .ref b), (1, .ref M), (2, .ref mo), (3, .ref o), (4, .int 0)] [] w1) : X p l e room_1 s m #[.ref b] below meth c Q D dA vwC1 B 9 15 73 1406 [(0, .ref b), (1, .ref M), (2, .ref mo), (3, .ref o), (4, .int 0)] [] w := by
  refine x_aload_n F dL_law_1406 rfl rfl ?_
  refine x_cVi0 (ci := 5) (C := RX6) (T := TX6) (N := 12) F dL_law_1407 (x_gV q103 q104 q105 q1 q106) rfl (c_share hF) ⟨rfl, rfl, rfl, xd_X6_servedShare, ⟨Nat.le_of_ble_eq_true rfl, Nat.le_of_ble_eq_true rfl⟩, Nat.le_of_ble_eq_true rfl, Nat.le_of_ble_eq_true rfl⟩ rfl hF.1 (Nat.le_of_ble_eq_true rfl) (fun v1 w1 hp => ?_)
  obtain ⟨rfl, hw8⟩ := hp
  replace hw8 := hw8.symm
  subst hw8
  refine x_dstore F dL_law_1410 (by decide) ?_
  refine x_aload_n F dL_law_1412 rfl rfl ?_
  refine x_cVi0 (ci := 7) (C := RX12) (T := TX12) (N := 2) F dL_law_1413 (x_gV q594 q595 q596 q5 q597) rfl (m_share hM) ⟨rfl, rfl, rfl, xd_X12_servedShare, ⟨Nat.le_of_ble_eq_true rfl, Nat.le_of_ble_eq_true rfl⟩, Nat.le_of_ble_eq_true rfl, Nat.le_of_ble_eq_true rfl⟩ rfl hM.1 (Nat.le_of_ble_eq_true rfl) (fun v1 w1 hp => ?_)
  obtain ⟨rfl, hw9⟩ := hp
  refine x_dstore F dL_law_1416 (by decide) ?_
  refine x_dload F dL_law_1418 rfl ?_
  refine x_dload F dL_law_1420 rfl ?_
  refine x_dcmp F dL_law_1422 ?_
  refine x_if_eq F dL_law_1423 rfl (fun h1423 => ?_) (fun hc => absurd hc (fun q => q (by decide +kernel)))
  refine x_goto F dL_law_1444 rfl ?_
  exact x_widen (Nat.le_of_ble_eq_true rfl) (Nat.le_of_ble_eq_true rfl) (x_lk (NEXT _) ⟨rfl, rfl, rfl, rfl, rfl, trivial⟩)
theorem lg_cmp_self (x : Int64) : lg_cmp x x = 0 := by
  unfold lg_cmp
  simp
set_option maxRecDepth 100000 in
set_option maxHeartbeats 4000000 in
theorem law_digest (F : x_Fix p s m #[.ref b] meth c cL_law 9 RL xTs rt nm D dA vwC1 tyL1 B) (hX : va_X b 6 xs s s.heap) (hbB : b < B) (hl : l.stackTraces = false) (hF : FR w M Fa Ca Aa Ro Tr 0) (hM : MR w (dA 99) mo re fa cl ad ca 0 0) (ho : w o = some (aL 1 f)) (NEXT : ∀ w1, X p l e room_1 s m #[.ref b] below meth c Q D dA vwC1 B 9 40 200 1813 [(0, .ref b), (1, .ref M), (2, .ref mo), (3, .ref o), (4, .int 0)] [] w1) : X p l e room_1 s m #[.ref b] below meth c Q D dA vwC1 B 9 15 73 1799 [(0, .ref b), (1, .ref M), (2, .ref mo), (3, .ref o), (4, .int 0)] [] w := by
  refine x_aload_n F dL_law_1799 rfl rfl ?_
  refine x_cVi0 (ci := 5) (C := RX6) (T := TX6) (N := 12) F dL_law_1800 (x_gV q107 q108 q109 q1 q110) rfl (c_digest hF) ⟨rfl, rfl, rfl, xd_X6_digest, ⟨Nat.le_of_ble_eq_true rfl, Nat.le_of_ble_eq_true rfl⟩, Nat.le_of_ble_eq_true rfl, Nat.le_of_ble_eq_true rfl⟩ rfl hF.1 (Nat.le_of_ble_eq_true rfl) (fun v1 w1 hp => ?_)
  obtain ⟨rfl, hw8⟩ := hp
  replace hw8 := hw8.symm
  subst hw8
  refine x_aload_n F dL_law_1803 rfl rfl ?_
  refine x_cVi0 (ci := 7) (C := RX12) (T := TX12) (N := 2) F dL_law_1804 (x_gV q624 q625 q626 q5 q627) rfl (m_digest hM) ⟨rfl, rfl, rfl, xd_X12_digest, ⟨Nat.le_of_ble_eq_true rfl, Nat.le_of_ble_eq_true rfl⟩, Nat.le_of_ble_eq_true rfl, Nat.le_of_ble_eq_true rfl⟩ rfl hM.1 (Nat.le_of_ble_eq_true rfl) (fun v1 w1 hp => ?_)
  obtain ⟨rfl, hw9⟩ := hp
  refine x_lcmp F dL_law_1807 ?_
  refine x_if_eq F dL_law_1808 rfl (fun h1808 => ?_) (fun hc => absurd hc (fun q => q (lg_cmp_self _)))
  exact x_widen (Nat.le_of_ble_eq_true rfl) (Nat.le_of_ble_eq_true rfl) (x_lk (NEXT _) ⟨rfl, rfl, rfl, rfl, rfl, trivial⟩)
end LAW

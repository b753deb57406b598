theorem dL_act_205 : decode cL_act 205 = .ok (.if_icmp .ne 94, 3) := by decide +kernel
theorem dL_act_208 : decode cL_act 208 = .ok (.aload_n 0, 1) := by decide +kernel
theorem dL_act_209 : decode cL_act 209 = .ok (.iload_n 3, 1) := by decide +kernel
theorem dL_act_210 : decode cL_act 210 = .ok (.bipush 8, 2) := by decide +kernel
theorem dL_act_212 : decode cL_act 212 = .ok (.irem, 1) := by decide +kernel
theorem dL_act_213 : decode cL_act 213 = .ok (.iconst 0, 1) := by decide +kernel
theorem dL_act_214 : decode cL_act 214 = .ok (.invokevirtual 24, 3) := by decide +kernel
theorem dL_act_217 : decode cL_act 217 = .ok (.istore 5, 2) := by decide +kernel
theorem dL_act_219 : decode cL_act 219 = .ok (.aload_n 0, 1) := by decide +kernel
theorem dL_act_220 : decode cL_act 220 = .ok (.iconst 5, 1) := by decide +kernel
theorem dL_act_221 : decode cL_act 221 = .ok (.invokevirtual 14, 3) := by decide +kernel
theorem dL_act_224 : decode cL_act 224 = .ok (.istore 6, 2) := by decide +kernel
theorem dL_act_226 : decode cL_act 226 = .ok (.aload_n 0, 1) := by decide +kernel
theorem dL_act_227 : decode cL_act 227 = .ok (.iload_n 3, 1) := by decide +kernel
theorem dL_act_228 : decode cL_act 228 = .ok (.bipush 8, 2) := by decide +kernel
theorem dL_act_230 : decode cL_act 230 = .ok (.irem, 1) := by decide +kernel
theorem dL_act_231 : decode cL_act 231 = .ok (.invokevirtual 69, 3) := by decide +kernel
theorem dL_act_234 : decode cL_act 234 = .ok (.istore 7, 2) := by decide +kernel
theorem dL_act_236 : decode cL_act 236 = .ok (.iload 5, 2) := by decide +kernel
theorem dL_act_238 : decode cL_act 238 = .ok (.bipush (-5), 2) := by decide +kernel
theorem dL_act_240 : decode cL_act 240 = .ok (.if_icmp .ne 20, 3) := by decide +kernel
theorem dL_act_243 : decode cL_act 243 = .ok (.iload 7, 2) := by decide +kernel
theorem dL_act_245 : decode cL_act 245 = .ok (.bipush (-5), 2) := by decide +kernel
theorem dL_act_247 : decode cL_act 247 = .ok (.if_icmp .ne 8, 3) := by decide +kernel
theorem dL_act_250 : decode cL_act 250 = .ok (.iload 7, 2) := by decide +kernel
theorem dL_act_252 : decode cL_act 252 = .ok (.goto 46, 3) := by decide +kernel
theorem dL_act_255 : decode cL_act 255 = .ok (.bipush (-9), 2) := by decide +kernel
theorem dL_act_257 : decode cL_act 257 = .ok (.goto 41, 3) := by decide +kernel
theorem dL_act_260 : decode cL_act 260 = .ok (.iload 7, 2) := by decide +kernel
theorem dL_act_262 : decode cL_act 262 = .ok (.iload 6, 2) := by decide +kernel
theorem dL_act_264 : decode cL_act 264 = .ok (.if_icmp .lt 32, 3) := by decide +kernel
theorem dL_act_267 : decode cL_act 267 = .ok (.aload_n 0, 1) := by decide +kernel
theorem dL_act_268 : decode cL_act 268 = .ok (.iconst 5, 1) := by decide +kernel
theorem dL_act_269 : decode cL_act 269 = .ok (.invokevirtual 14, 3) := by decide +kernel
theorem dL_act_272 : decode cL_act 272 = .ok (.iload 7, 2) := by decide +kernel
theorem dL_act_274 : decode cL_act 274 = .ok (.if_icmp .ne 22, 3) := by decide +kernel
theorem dL_act_277 : decode cL_act 277 = .ok (.aload_n 0, 1) := by decide +kernel
theorem dL_act_278 : decode cL_act 278 = .ok (.iload_n 3, 1) := by decide +kernel
theorem dL_act_279 : decode cL_act 279 = .ok (.bipush 8, 2) := by decide +kernel
theorem dL_act_281 : decode cL_act 281 = .ok (.irem, 1) := by decide +kernel
theorem dL_act_282 : decode cL_act 282 = .ok (.iconst 0, 1) := by decide +kernel
theorem dL_act_283 : decode cL_act 283 = .ok (.invokevirtual 24, 3) := by decide +kernel
theorem dL_act_286 : decode cL_act 286 = .ok (.bipush (-5), 2) := by decide +kernel
theorem dL_act_288 : decode cL_act 288 = .ok (.if_icmp .ne 8, 3) := by decide +kernel
theorem dL_act_291 : decode cL_act 291 = .ok (.iload 7, 2) := by decide +kernel
theorem dL_act_293 : decode cL_act 293 = .ok (.goto 5, 3) := by decide +kernel
theorem dL_act_296 : decode cL_act 296 = .ok (.bipush (-9), 2) := by decide +kernel
theorem dL_act_298 : decode cL_act 298 = .ok (.ireturn, 1) := by decide +kernel
theorem dL_act_299 : decode cL_act 299 = .ok (.iload_n 2, 1) := by decide +kernel
theorem dL_act_300 : decode cL_act 300 = .ok (.bipush 13, 2) := by decide +kernel
theorem dL_act_302 : decode cL_act 302 = .ok (.if_icmp .ne 82, 3) := by decide +kernel
theorem dL_act_305 : decode cL_act 305 = .ok (.iconst 1, 1) := by decide +kernel
theorem dL_act_306 : decode cL_act 306 = .ok (.iload_n 3, 1) := by decide +kernel
theorem dL_act_307 : decode cL_act 307 = .ok (.bipush 9, 2) := by decide +kernel
theorem dL_act_309 : decode cL_act 309 = .ok (.irem, 1) := by decide +kernel
theorem dL_act_310 : decode cL_act 310 = .ok (.iadd, 1) := by decide +kernel
theorem dL_act_311 : decode cL_act 311 = .ok (.istore 5, 2) := by decide +kernel
theorem dL_act_313 : decode cL_act 313 = .ok (.aload_n 0, 1) := by decide +kernel
theorem dL_act_314 : decode cL_act 314 = .ok (.iload_n 3, 1) := by decide +kernel
theorem dL_act_315 : decode cL_act 315 = .ok (.bipush 64, 2) := by decide +kernel
theorem dL_act_317 : decode cL_act 317 = .ok (.irem, 1) := by decide +kernel
theorem dL_act_318 : decode cL_act 318 = .ok (.iconst 1, 1) := by decide +kernel
theorem dL_act_319 : decode cL_act 319 = .ok (.invokevirtual 27, 3) := by decide +kernel
theorem dL_act_322 : decode cL_act 322 = .ok (.istore 6, 2) := by decide +kernel
theorem dL_act_324 : decode cL_act 324 = .ok (.aload_n 0, 1) := by decide +kernel
theorem dL_act_325 : decode cL_act 325 = .ok (.iload 5, 2) := by decide +kernel
theorem dL_act_327 : decode cL_act 327 = .ok (.invokevirtual 51, 3) := by decide +kernel
theorem dL_act_330 : decode cL_act 330 = .ok (.istore 7, 2) := by decide +kernel
theorem dL_act_332 : decode cL_act 332 = .ok (.iload 7, 2) := by decide +kernel
theorem dL_act_334 : decode cL_act 334 = .ok (.ifCond .lt 47, 3) := by decide +kernel
theorem dL_act_337 : decode cL_act 337 = .ok (.iload 7, 2) := by decide +kernel
theorem dL_act_339 : decode cL_act 339 = .ok (.bipush 64, 2) := by decide +kernel
theorem dL_act_341 : decode cL_act 341 = .ok (.if_icmp .gt 40, 3) := by decide +kernel
theorem dL_act_344 : decode cL_act 344 = .ok (.aload_n 0, 1) := by decide +kernel
theorem dL_act_345 : decode cL_act 345 = .ok (.iload_n 3, 1) := by decide +kernel
theorem dL_act_346 : decode cL_act 346 = .ok (.bipush 64, 2) := by decide +kernel
theorem dL_act_348 : decode cL_act 348 = .ok (.irem, 1) := by decide +kernel
theorem dL_act_349 : decode cL_act 349 = .ok (.iconst 1, 1) := by decide +kernel
theorem dL_act_350 : decode cL_act 350 = .ok (.invokevirtual 27, 3) := by decide +kernel
theorem dL_act_353 : decode cL_act 353 = .ok (.iload 6, 2) := by decide +kernel
theorem dL_act_355 : decode cL_act 355 = .ok (.iload 5, 2) := by decide +kernel
theorem dL_act_357 : decode cL_act 357 = .ok (.iadd, 1) := by decide +kernel
theorem dL_act_358 : decode cL_act 358 = .ok (.bipush 9, 2) := by decide +kernel
theorem dL_act_360 : decode cL_act 360 = .ok (.if_icmp .le 8, 3) := by decide +kernel
theorem dL_act_363 : decode cL_act 363 = .ok (.bipush 9, 2) := by decide +kernel
theorem dL_act_365 : decode cL_act 365 = .ok (.goto 8, 3) := by decide +kernel
theorem dL_act_368 : decode cL_act 368 = .ok (.iload 6, 2) := by decide +kernel
theorem dL_act_370 : decode cL_act 370 = .ok (.iload 5, 2) := by decide +kernel
theorem dL_act_372 : decode cL_act 372 = .ok (.iadd, 1) := by decide +kernel
theorem dL_act_373 : decode cL_act 373 = .ok (.if_icmp .ne 8, 3) := by decide +kernel
theorem dL_act_376 : decode cL_act 376 = .ok (.iload 7, 2) := by decide +kernel
theorem dL_act_378 : decode cL_act 378 = .ok (.goto 5, 3) := by decide +kernel
theorem dL_act_381 : decode cL_act 381 = .ok (.bipush (-9), 2) := by decide +kernel
theorem dL_act_383 : decode cL_act 383 = .ok (.ireturn, 1) := by decide +kernel
theorem dL_act_384 : decode cL_act 384 = .ok (.iload_n 2, 1) := by decide +kernel
theorem dL_act_385 : decode cL_act 385 = .ok (.bipush 14, 2) := by decide +kernel
theorem dL_act_387 : decode cL_act 387 = .ok (.if_icmp .ne 120, 3) := by decide +kernel
theorem dL_act_390 : decode cL_act 390 = .ok (.iconst 1, 1) := by decide +kernel
theorem dL_act_391 : decode cL_act 391 = .ok (.iload_n 3, 1) := by decide +kernel
theorem dL_act_392 : decode cL_act 392 = .ok (.iconst 3, 1) := by decide +kernel
theorem dL_act_393 : decode cL_act 393 = .ok (.idiv, 1) := by decide +kernel
theorem dL_act_394 : decode cL_act 394 = .ok (.iload 4, 2) := by decide +kernel
theorem dL_act_396 : decode cL_act 396 = .ok (.ifCond .ne 8, 3) := by decide +kernel
theorem dL_act_399 : decode cL_act 399 = .ok (.bipush 99, 2) := by decide +kernel
theorem dL_act_401 : decode cL_act 401 = .ok (.goto 4, 3) := by decide +kernel
theorem dL_act_404 : decode cL_act 404 = .ok (.iconst 2, 1) := by decide +kernel
theorem dL_act_405 : decode cL_act 405 = .ok (.irem, 1) := by decide +kernel
theorem dL_act_406 : decode cL_act 406 = .ok (.iadd, 1) := by decide +kernel
theorem dL_act_407 : decode cL_act 407 = .ok (.istore 5, 2) := by decide +kernel
theorem dL_act_409 : decode cL_act 409 = .ok (.aload_n 0, 1) := by decide +kernel
theorem dL_act_410 : decode cL_act 410 = .ok (.iconst 0, 1) := by decide +kernel
theorem dL_act_411 : decode cL_act 411 = .ok (.invokevirtual 14, 3) := by decide +kernel
theorem dL_act_414 : decode cL_act 414 = .ok (.istore 6, 2) := by decide +kernel
theorem dL_act_416 : decode cL_act 416 = .ok (.aload_n 0, 1) := by decide +kernel
theorem dL_act_417 : decode cL_act 417 = .ok (.iload_n 3, 1) := by decide +kernel
theorem dL_act_418 : decode cL_act 418 = .ok (.bipush 64, 2) := by decide +kernel
theorem dL_act_420 : decode cL_act 420 = .ok (.irem, 1) := by decide +kernel
theorem dL_act_421 : decode cL_act 421 = .ok (.iconst 1, 1) := by decide +kernel
theorem dL_act_422 : decode cL_act 422 = .ok (.invokevirtual 27, 3) := by decide +kernel
theorem dL_act_425 : decode cL_act 425 = .ok (.istore 7, 2) := by decide +kernel
theorem dL_act_427 : decode cL_act 427 = .ok (.aload_n 0, 1) := by decide +kernel
theorem dL_act_428 : decode cL_act 428 = .ok (.iload 5, 2) := by decide +kernel
theorem dL_act_430 : decode cL_act 430 = .ok (.invokevirtual 54, 3) := by decide +kernel
theorem dL_act_433 : decode cL_act 433 = .ok (.istore 8, 2) := by decide +kernel
theorem dL_act_435 : decode cL_act 435 = .ok (.iload 8, 2) := by decide +kernel
theorem dL_act_437 : decode cL_act 437 = .ok (.iload 6, 2) := by decide +kernel
theorem dL_act_439 : decode cL_act 439 = .ok (.iload 5, 2) := by decide +kernel
theorem dL_act_441 : decode cL_act 441 = .ok (.iadd, 1) := by decide +kernel
theorem dL_act_442 : decode cL_act 442 = .ok (.if_icmp .ne 62, 3) := by decide +kernel
theorem dL_act_445 : decode cL_act 445 = .ok (.aload_n 0, 1) := by decide +kernel
theorem dL_act_446 : decode cL_act 446 = .ok (.iconst 0, 1) := by decide +kernel
theorem dL_act_447 : decode cL_act 447 = .ok (.invokevirtual 14, 3) := by decide +kernel
theorem dL_act_450 : decode cL_act 450 = .ok (.iload 8, 2) := by decide +kernel
theorem dL_act_452 : decode cL_act 452 = .ok (.if_icmp .ne 52, 3) := by decide +kernel
theorem dL_act_455 : decode cL_act 455 = .ok (.aload_n 0, 1) := by decide +kernel
theorem dL_act_456 : decode cL_act 456 = .ok (.iload_n 3, 1) := by decide +kernel
theorem dL_act_457 : decode cL_act 457 = .ok (.bipush 64, 2) := by decide +kernel
theorem dL_act_459 : decode cL_act 459 = .ok (.irem, 1) := by decide +kernel
theorem dL_act_460 : decode cL_act 460 = .ok (.iconst 1, 1) := by decide +kernel
theorem dL_act_461 : decode cL_act 461 = .ok (.invokevirtual 27, 3) := by decide +kernel
theorem dL_act_464 : decode cL_act 464 = .ok (.iload 7, 2) := by decide +kernel
theorem dL_act_466 : decode cL_act 466 = .ok (.iload 5, 2) := by decide +kernel
theorem dL_act_468 : decode cL_act 468 = .ok (.if_icmp .le 11, 3) := by decide +kernel
theorem dL_act_471 : decode cL_act 471 = .ok (.iload 7, 2) := by decide +kernel
theorem dL_act_473 : decode cL_act 473 = .ok (.iload 5, 2) := by decide +kernel
theorem dL_act_475 : decode cL_act 475 = .ok (.isub, 1) := by decide +kernel
theorem dL_act_476 : decode cL_act 476 = .ok (.goto 4, 3) := by decide +kernel
theorem dL_act_479 : decode cL_act 479 = .ok (.iconst 0, 1) := by decide +kernel
theorem dL_act_480 : decode cL_act 480 = .ok (.if_icmp .ne 24, 3) := by decide +kernel
theorem dL_act_483 : decode cL_act 483 = .ok (.aload_n 0, 1) := by decide +kernel
theorem dL_act_484 : decode cL_act 484 = .ok (.iload 4, 2) := by decide +kernel
theorem dL_act_486 : decode cL_act 486 = .ok (.iconst 1, 1) := by decide +kernel
theorem dL_act_487 : decode cL_act 487 = .ok (.invokevirtual 20, 3) := by decide +kernel
theorem dL_act_490 : decode cL_act 490 = .ok (.aload_n 0, 1) := by decide +kernel
theorem dL_act_491 : decode cL_act 491 = .ok (.bipush 12, 2) := by decide +kernel
theorem dL_act_493 : decode cL_act 493 = .ok (.invokevirtual 14, 3) := by decide +kernel
theorem dL_act_496 : decode cL_act 496 = .ok (.if_icmp .ne 8, 3) := by decide +kernel
theorem dL_act_499 : decode cL_act 499 = .ok (.iload 8, 2) := by decide +kernel
theorem dL_act_501 : decode cL_act 501 = .ok (.goto 5, 3) := by decide +kernel
theorem dL_act_504 : decode cL_act 504 = .ok (.bipush (-9), 2) := by decide +kernel
theorem dL_act_506 : decode cL_act 506 = .ok (.ireturn, 1) := by decide +kernel
theorem dL_act_507 : decode cL_act 507 = .ok (.iload_n 3, 1) := by decide +kernel
theorem dL_act_508 : decode cL_act 508 = .ok (.iconst 2, 1) := by decide +kernel
theorem dL_act_509 : decode cL_act 509 = .ok (.irem, 1) := by decide +kernel
theorem dL_act_510 : decode cL_act 510 = .ok (.ifCond .ne 90, 3) := by decide +kernel
theorem dL_act_513 : decode cL_act 513 = .ok (.aload_n 0, 1) := by decide +kernel
theorem dL_act_514 : decode cL_act 514 = .ok (.iconst 5, 1) := by decide +kernel
theorem dL_act_515 : decode cL_act 515 = .ok (.invokevirtual 14, 3) := by decide +kernel
theorem dL_act_518 : decode cL_act 518 = .ok (.iconst 1, 1) := by decide +kernel
theorem dL_act_519 : decode cL_act 519 = .ok (.if_icmp .le 8, 3) := by decide +kernel
theorem dL_act_522 : decode cL_act 522 = .ok (.bipush (-4), 2) := by decide +kernel
theorem dL_act_524 : decode cL_act 524 = .ok (.goto 8, 3) := by decide +kernel
theorem dL_act_527 : decode cL_act 527 = .ok (.aload_n 0, 1) := by decide +kernel
theorem dL_act_528 : decode cL_act 528 = .ok (.iconst 4, 1) := by decide +kernel
theorem dL_act_529 : decode cL_act 529 = .ok (.invokevirtual 14, 3) := by decide +kernel
theorem dL_act_532 : decode cL_act 532 = .ok (.istore 5, 2) := by decide +kernel
theorem dL_act_534 : decode cL_act 534 = .ok (.aload_n 0, 1) := by decide +kernel
theorem dL_act_535 : decode cL_act 535 = .ok (.bipush 8, 2) := by decide +kernel
theorem dL_act_537 : decode cL_act 537 = .ok (.invokevirtual 14, 3) := by decide +kernel
theorem dL_act_540 : decode cL_act 540 = .ok (.istore 6, 2) := by decide +kernel
theorem dL_act_542 : decode cL_act 542 = .ok (.aload_n 0, 1) := by decide +kernel
theorem dL_act_543 : decode cL_act 543 = .ok (.invokevirtual 72, 3) := by decide +kernel
theorem dL_act_546 : decode cL_act 546 = .ok (.istore 7, 2) := by decide +kernel
theorem dL_act_548 : decode cL_act 548 = .ok (.iload 7, 2) := by decide +kernel
theorem dL_act_550 : decode cL_act 550 = .ok (.iload 5, 2) := by decide +kernel
theorem dL_act_552 : decode cL_act 552 = .ok (.if_icmp .ne 45, 3) := by decide +kernel
theorem dL_act_555 : decode cL_act 555 = .ok (.iload 5, 2) := by decide +kernel
theorem dL_act_557 : decode cL_act 557 = .ok (.ifCond .lt 35, 3) := by decide +kernel
theorem dL_act_560 : decode cL_act 560 = .ok (.aload_n 0, 1) := by decide +kernel
theorem dL_act_561 : decode cL_act 561 = .ok (.bipush 8, 2) := by decide +kernel
theorem dL_act_563 : decode cL_act 563 = .ok (.invokevirtual 14, 3) := by decide +kernel
theorem dL_act_566 : decode cL_act 566 = .ok (.iload 6, 2) := by decide +kernel
theorem dL_act_568 : decode cL_act 568 = .ok (.iload 5, 2) := by decide +kernel
theorem dL_act_570 : decode cL_act 570 = .ok (.iadd, 1) := by decide +kernel
theorem dL_act_571 : decode cL_act 571 = .ok (.if_icmp .ne 26, 3) := by decide +kernel
theorem dL_act_574 : decode cL_act 574 = .ok (.aload_n 0, 1) := by decide +kernel
theorem dL_act_575 : decode cL_act 575 = .ok (.bipush 6, 2) := by decide +kernel
theorem dL_act_577 : decode cL_act 577 = .ok (.invokevirtual 14, 3) := by decide +kernel
theorem dL_act_580 : decode cL_act 580 = .ok (.ifCond .ne 17, 3) := by decide +kernel
theorem dL_act_583 : decode cL_act 583 = .ok (.aload_n 0, 1) := by decide +kernel
theorem dL_act_584 : decode cL_act 584 = .ok (.bipush 11, 2) := by decide +kernel
theorem dL_act_586 : decode cL_act 586 = .ok (.invokevirtual 14, 3) := by decide +kernel
theorem dL_act_589 : decode cL_act 589 = .ok (.ifCond .ne 8, 3) := by decide +kernel
theorem dL_act_592 : decode cL_act 592 = .ok (.iload 7, 2) := by decide +kernel
theorem dL_act_594 : decode cL_act 594 = .ok (.goto 5, 3) := by decide +kernel
theorem dL_act_597 : decode cL_act 597 = .ok (.bipush (-9), 2) := by decide +kernel
theorem dL_act_599 : decode cL_act 599 = .ok (.ireturn, 1) := by decide +kernel
theorem dL_act_600 : decode cL_act 600 = .ok (.iload_n 3, 1) := by decide +kernel
theorem dL_act_601 : decode cL_act 601 = .ok (.iconst 2, 1) := by decide +kernel
theorem dL_act_602 : decode cL_act 602 = .ok (.idiv, 1) := by decide +kernel
theorem dL_act_603 : decode cL_act 603 = .ok (.iconst 3, 1) := by decide +kernel
theorem dL_act_604 : decode cL_act 604 = .ok (.irem, 1) := by decide +kernel
theorem dL_act_605 : decode cL_act 605 = .ok (.istore 5, 2) := by decide +kernel
theorem dL_act_607 : decode cL_act 607 = .ok (.iload 5, 2) := by decide +kernel
theorem dL_act_609 : decode cL_act 609 = .ok (.ifCond .ne 15, 3) := by decide +kernel
theorem dL_act_612 : decode cL_act 612 = .ok (.iconst 1, 1) := by decide +kernel
theorem dL_act_613 : decode cL_act 613 = .ok (.iload_n 3, 1) := by decide +kernel
theorem dL_act_614 : decode cL_act 614 = .ok (.bipush 6, 2) := by decide +kernel
theorem dL_act_616 : decode cL_act 616 = .ok (.idiv, 1) := by decide +kernel
theorem dL_act_617 : decode cL_act 617 = .ok (.bipush 30, 2) := by decide +kernel
theorem dL_act_619 : decode cL_act 619 = .ok (.irem, 1) := by decide +kernel
theorem dL_act_620 : decode cL_act 620 = .ok (.iadd, 1) := by decide +kernel
theorem dL_act_621 : decode cL_act 621 = .ok (.goto 27, 3) := by decide +kernel
theorem dL_act_624 : decode cL_act 624 = .ok (.iload 5, 2) := by decide +kernel
theorem dL_act_626 : decode cL_act 626 = .ok (.iconst 1, 1) := by decide +kernel
theorem dL_act_627 : decode cL_act 627 = .ok (.if_icmp .ne 12, 3) := by decide +kernel
theorem dL_act_630 : decode cL_act 630 = .ok (.iload_n 3, 1) := by decide +kernel
theorem dL_act_631 : decode cL_act 631 = .ok (.bipush 6, 2) := by decide +kernel
theorem dL_act_633 : decode cL_act 633 = .ok (.idiv, 1) := by decide +kernel
theorem dL_act_634 : decode cL_act 634 = .ok (.iconst 3, 1) := by decide +kernel
theorem dL_act_635 : decode cL_act 635 = .ok (.irem, 1) := by decide +kernel
theorem dL_act_636 : decode cL_act 636 = .ok (.goto 12, 3) := by decide +kernel
theorem dL_act_639 : decode cL_act 639 = .ok (.iconst 1, 1) := by decide +kernel
theorem dL_act_640 : decode cL_act 640 = .ok (.iload_n 3, 1) := by decide +kernel
theorem dL_act_641 : decode cL_act 641 = .ok (.bipush 6, 2) := by decide +kernel
theorem dL_act_643 : decode cL_act 643 = .ok (.idiv, 1) := by decide +kernel
theorem dL_act_644 : decode cL_act 644 = .ok (.bipush 9, 2) := by decide +kernel
theorem dL_act_646 : decode cL_act 646 = .ok (.irem, 1) := by decide +kernel
theorem dL_act_647 : decode cL_act 647 = .ok (.iadd, 1) := by decide +kernel
theorem dL_act_648 : decode cL_act 648 = .ok (.istore 6, 2) := by decide +kernel
theorem dL_act_650 : decode cL_act 650 = .ok (.aload_n 0, 1) := by decide +kernel
theorem dL_act_651 : decode cL_act 651 = .ok (.bipush 12, 2) := by decide +kernel
theorem dL_act_653 : decode cL_act 653 = .ok (.iload 5, 2) := by decide +kernel
theorem dL_act_655 : decode cL_act 655 = .ok (.iadd, 1) := by decide +kernel

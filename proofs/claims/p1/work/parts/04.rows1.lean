theorem dX12_init_213 : decode cX12_init 213 = .ok (.putfield 87, 3) := by decide +kernel
theorem dX12_init_216 : decode cX12_init 216 = .ok (.aload_n 0, 1) := by decide +kernel
theorem dX12_init_217 : decode cX12_init 217 = .ok (.sipush 16384, 3) := by decide +kernel
theorem dX12_init_220 : decode cX12_init 220 = .ok (.newarray .int, 2) := by decide +kernel
theorem dX12_init_222 : decode cX12_init 222 = .ok (.putfield 90, 3) := by decide +kernel
theorem dX12_init_225 : decode cX12_init 225 = .ok (.aload_n 0, 1) := by decide +kernel
theorem dX12_init_226 : decode cX12_init 226 = .ok (.ldc 74, 2) := by decide +kernel
theorem dX12_init_228 : decode cX12_init 228 = .ok (.newarray .int, 2) := by decide +kernel
theorem dX12_init_230 : decode cX12_init 230 = .ok (.putfield 93, 3) := by decide +kernel
theorem dX12_init_233 : decode cX12_init 233 = .ok (.aload_n 0, 1) := by decide +kernel
theorem dX12_init_234 : decode cX12_init 234 = .ok (.ldc 74, 2) := by decide +kernel
theorem dX12_init_236 : decode cX12_init 236 = .ok (.newarray .int, 2) := by decide +kernel
theorem dX12_init_238 : decode cX12_init 238 = .ok (.putfield 96, 3) := by decide +kernel
theorem dX12_init_241 : decode cX12_init 241 = .ok (.aload_n 0, 1) := by decide +kernel
theorem dX12_init_242 : decode cX12_init 242 = .ok (.sipush 20000, 3) := by decide +kernel
theorem dX12_init_245 : decode cX12_init 245 = .ok (.newarray .int, 2) := by decide +kernel
theorem dX12_init_247 : decode cX12_init 247 = .ok (.putfield 99, 3) := by decide +kernel
theorem dX12_init_250 : decode cX12_init 250 = .ok (.aload_n 0, 1) := by decide +kernel
theorem dX12_init_251 : decode cX12_init 251 = .ok (.bipush 6, 2) := by decide +kernel
theorem dX12_init_253 : decode cX12_init 253 = .ok (.newarray .int, 2) := by decide +kernel
theorem dX12_init_255 : decode cX12_init 255 = .ok (.putfield 102, 3) := by decide +kernel
theorem dX12_init_258 : decode cX12_init 258 = .ok (.aload_n 0, 1) := by decide +kernel
theorem dX12_init_259 : decode cX12_init 259 = .ok (.bipush 6, 2) := by decide +kernel
theorem dX12_init_261 : decode cX12_init 261 = .ok (.newarray .int, 2) := by decide +kernel
theorem dX12_init_263 : decode cX12_init 263 = .ok (.putfield 105, 3) := by decide +kernel
theorem dX12_init_266 : decode cX12_init 266 = .ok (.aload_n 0, 1) := by decide +kernel
theorem dX12_init_267 : decode cX12_init 267 = .ok (.ldc 108, 2) := by decide +kernel
theorem dX12_init_269 : decode cX12_init 269 = .ok (.newarray .int, 2) := by decide +kernel
theorem dX12_init_271 : decode cX12_init 271 = .ok (.putfield 109, 3) := by decide +kernel
theorem dX12_init_274 : decode cX12_init 274 = .ok (.aload_n 0, 1) := by decide +kernel
theorem dX12_init_275 : decode cX12_init 275 = .ok (.ldc 108, 2) := by decide +kernel
theorem dX12_init_277 : decode cX12_init 277 = .ok (.newarray .int, 2) := by decide +kernel
theorem dX12_init_279 : decode cX12_init 279 = .ok (.putfield 112, 3) := by decide +kernel
theorem dX12_init_282 : decode cX12_init 282 = .ok (.aload_n 0, 1) := by decide +kernel
theorem dX12_init_283 : decode cX12_init 283 = .ok (.ldc 108, 2) := by decide +kernel
theorem dX12_init_285 : decode cX12_init 285 = .ok (.newarray .int, 2) := by decide +kernel
theorem dX12_init_287 : decode cX12_init 287 = .ok (.putfield 115, 3) := by decide +kernel
theorem dX12_init_290 : decode cX12_init 290 = .ok (.aload_n 0, 1) := by decide +kernel
theorem dX12_init_291 : decode cX12_init 291 = .ok (.ldc 108, 2) := by decide +kernel
theorem dX12_init_293 : decode cX12_init 293 = .ok (.newarray .int, 2) := by decide +kernel
theorem dX12_init_295 : decode cX12_init 295 = .ok (.putfield 118, 3) := by decide +kernel
theorem dX12_init_298 : decode cX12_init 298 = .ok (.aload_n 0, 1) := by decide +kernel
theorem dX12_init_299 : decode cX12_init 299 = .ok (.ldc 108, 2) := by decide +kernel
theorem dX12_init_301 : decode cX12_init 301 = .ok (.newarray .int, 2) := by decide +kernel
theorem dX12_init_303 : decode cX12_init 303 = .ok (.putfield 121, 3) := by decide +kernel
theorem dX12_init_306 : decode cX12_init 306 = .ok (.aload_n 0, 1) := by decide +kernel
theorem dX12_init_307 : decode cX12_init 307 = .ok (.sipush 4096, 3) := by decide +kernel
theorem dX12_init_310 : decode cX12_init 310 = .ok (.newarray .int, 2) := by decide +kernel
theorem dX12_init_312 : decode cX12_init 312 = .ok (.putfield 124, 3) := by decide +kernel
theorem dX12_init_315 : decode cX12_init 315 = .ok (.aload_n 0, 1) := by decide +kernel
theorem dX12_init_316 : decode cX12_init 316 = .ok (.sipush 258, 3) := by decide +kernel
theorem dX12_init_319 : decode cX12_init 319 = .ok (.newarray .int, 2) := by decide +kernel
theorem dX12_init_321 : decode cX12_init 321 = .ok (.putfield 127, 3) := by decide +kernel
theorem dX12_init_324 : decode cX12_init 324 = .ok (.aload_n 0, 1) := by decide +kernel
theorem dX12_init_325 : decode cX12_init 325 = .ok (.sipush 430, 3) := by decide +kernel
theorem dX12_init_328 : decode cX12_init 328 = .ok (.newarray .int, 2) := by decide +kernel
theorem dX12_init_330 : decode cX12_init 330 = .ok (.putfield 130, 3) := by decide +kernel
theorem dX12_init_333 : decode cX12_init 333 = .ok (.aload_n 0, 1) := by decide +kernel
theorem dX12_init_334 : decode cX12_init 334 = .ok (.sipush 430, 3) := by decide +kernel
theorem dX12_init_337 : decode cX12_init 337 = .ok (.newarray .int, 2) := by decide +kernel
theorem dX12_init_339 : decode cX12_init 339 = .ok (.putfield 133, 3) := by decide +kernel
theorem dX12_init_342 : decode cX12_init 342 = .ok (.aload_n 0, 1) := by decide +kernel
theorem dX12_init_343 : decode cX12_init 343 = .ok (.sipush 430, 3) := by decide +kernel
theorem dX12_init_346 : decode cX12_init 346 = .ok (.newarray .int, 2) := by decide +kernel
theorem dX12_init_348 : decode cX12_init 348 = .ok (.putfield 136, 3) := by decide +kernel
theorem dX12_init_351 : decode cX12_init 351 = .ok (.aload_n 0, 1) := by decide +kernel
theorem dX12_init_352 : decode cX12_init 352 = .ok (.bipush 40, 2) := by decide +kernel
theorem dX12_init_354 : decode cX12_init 354 = .ok (.newarray .int, 2) := by decide +kernel
theorem dX12_init_356 : decode cX12_init 356 = .ok (.putfield 139, 3) := by decide +kernel
theorem dX12_init_359 : decode cX12_init 359 = .ok (.aload_n 0, 1) := by decide +kernel
theorem dX12_init_360 : decode cX12_init 360 = .ok (.bipush 40, 2) := by decide +kernel
theorem dX12_init_362 : decode cX12_init 362 = .ok (.newarray .int, 2) := by decide +kernel
theorem dX12_init_364 : decode cX12_init 364 = .ok (.putfield 142, 3) := by decide +kernel
theorem dX12_init_367 : decode cX12_init 367 = .ok (.aload_n 0, 1) := by decide +kernel
theorem dX12_init_368 : decode cX12_init 368 = .ok (.bipush 60, 2) := by decide +kernel
theorem dX12_init_370 : decode cX12_init 370 = .ok (.newarray .int, 2) := by decide +kernel
theorem dX12_init_372 : decode cX12_init 372 = .ok (.putfield 145, 3) := by decide +kernel
theorem dX12_init_375 : decode cX12_init 375 = .ok (.aload_n 0, 1) := by decide +kernel
theorem dX12_init_376 : decode cX12_init 376 = .ok (.bipush 6, 2) := by decide +kernel
theorem dX12_init_378 : decode cX12_init 378 = .ok (.newarray .int, 2) := by decide +kernel
theorem dX12_init_380 : decode cX12_init 380 = .ok (.putfield 148, 3) := by decide +kernel
theorem dX12_init_383 : decode cX12_init 383 = .ok (.aload_n 0, 1) := by decide +kernel
theorem dX12_init_384 : decode cX12_init 384 = .ok (.bipush 6, 2) := by decide +kernel
theorem dX12_init_386 : decode cX12_init 386 = .ok (.newarray .int, 2) := by decide +kernel
theorem dX12_init_388 : decode cX12_init 388 = .ok (.putfield 151, 3) := by decide +kernel
theorem dX12_init_391 : decode cX12_init 391 = .ok (.aload_n 0, 1) := by decide +kernel
theorem dX12_init_392 : decode cX12_init 392 = .ok (.bipush 6, 2) := by decide +kernel
theorem dX12_init_394 : decode cX12_init 394 = .ok (.newarray .int, 2) := by decide +kernel
theorem dX12_init_396 : decode cX12_init 396 = .ok (.putfield 154, 3) := by decide +kernel
theorem dX12_init_399 : decode cX12_init 399 = .ok (.aload_n 0, 1) := by decide +kernel
theorem dX12_init_400 : decode cX12_init 400 = .ok (.bipush 6, 2) := by decide +kernel
theorem dX12_init_402 : decode cX12_init 402 = .ok (.newarray .int, 2) := by decide +kernel
theorem dX12_init_404 : decode cX12_init 404 = .ok (.putfield 157, 3) := by decide +kernel
theorem dX12_init_407 : decode cX12_init 407 = .ok (.aload_n 0, 1) := by decide +kernel
theorem dX12_init_408 : decode cX12_init 408 = .ok (.sipush 200, 3) := by decide +kernel
theorem dX12_init_411 : decode cX12_init 411 = .ok (.newarray .int, 2) := by decide +kernel
theorem dX12_init_413 : decode cX12_init 413 = .ok (.putfield 160, 3) := by decide +kernel
theorem dX12_init_416 : decode cX12_init 416 = .ok (.aload_n 0, 1) := by decide +kernel
theorem dX12_init_417 : decode cX12_init 417 = .ok (.sipush 200, 3) := by decide +kernel
theorem dX12_init_420 : decode cX12_init 420 = .ok (.newarray .int, 2) := by decide +kernel
theorem dX12_init_422 : decode cX12_init 422 = .ok (.putfield 163, 3) := by decide +kernel
theorem dX12_init_425 : decode cX12_init 425 = .ok (.aload_n 0, 1) := by decide +kernel
theorem dX12_init_426 : decode cX12_init 426 = .ok (.sipush 200, 3) := by decide +kernel
theorem dX12_init_429 : decode cX12_init 429 = .ok (.newarray .int, 2) := by decide +kernel
theorem dX12_init_431 : decode cX12_init 431 = .ok (.putfield 166, 3) := by decide +kernel
theorem dX12_init_434 : decode cX12_init 434 = .ok (.aload_n 0, 1) := by decide +kernel
theorem dX12_init_435 : decode cX12_init 435 = .ok (.bipush 24, 2) := by decide +kernel
theorem dX12_init_437 : decode cX12_init 437 = .ok (.newarray .int, 2) := by decide +kernel
theorem dX12_init_439 : decode cX12_init 439 = .ok (.putfield 169, 3) := by decide +kernel
theorem dX12_init_442 : decode cX12_init 442 = .ok (.aload_n 0, 1) := by decide +kernel
theorem dX12_init_443 : decode cX12_init 443 = .ok (.sipush 240, 3) := by decide +kernel
theorem dX12_init_446 : decode cX12_init 446 = .ok (.newarray .int, 2) := by decide +kernel
theorem dX12_init_448 : decode cX12_init 448 = .ok (.putfield 172, 3) := by decide +kernel
theorem dX12_init_451 : decode cX12_init 451 = .ok (.aload_n 0, 1) := by decide +kernel
theorem dX12_init_452 : decode cX12_init 452 = .ok (.sipush 240, 3) := by decide +kernel
theorem dX12_init_455 : decode cX12_init 455 = .ok (.newarray .int, 2) := by decide +kernel
theorem dX12_init_457 : decode cX12_init 457 = .ok (.putfield 175, 3) := by decide +kernel
theorem dX12_init_460 : decode cX12_init 460 = .ok (.aload_n 0, 1) := by decide +kernel
theorem dX12_init_461 : decode cX12_init 461 = .ok (.sipush 240, 3) := by decide +kernel
theorem dX12_init_464 : decode cX12_init 464 = .ok (.newarray .int, 2) := by decide +kernel
theorem dX12_init_466 : decode cX12_init 466 = .ok (.putfield 178, 3) := by decide +kernel
theorem dX12_init_469 : decode cX12_init 469 = .ok (.aload_n 0, 1) := by decide +kernel
theorem dX12_init_470 : decode cX12_init 470 = .ok (.sipush 500, 3) := by decide +kernel
theorem dX12_init_473 : decode cX12_init 473 = .ok (.newarray .int, 2) := by decide +kernel
theorem dX12_init_475 : decode cX12_init 475 = .ok (.putfield 181, 3) := by decide +kernel
theorem dX12_init_478 : decode cX12_init 478 = .ok (.aload_n 0, 1) := by decide +kernel
theorem dX12_init_479 : decode cX12_init 479 = .ok (.bipush 40, 2) := by decide +kernel
theorem dX12_init_481 : decode cX12_init 481 = .ok (.newarray .int, 2) := by decide +kernel
theorem dX12_init_483 : decode cX12_init 483 = .ok (.putfield 184, 3) := by decide +kernel
theorem dX12_init_486 : decode cX12_init 486 = .ok (.aload_n 0, 1) := by decide +kernel
theorem dX12_init_487 : decode cX12_init 487 = .ok (.bipush 40, 2) := by decide +kernel
theorem dX12_init_489 : decode cX12_init 489 = .ok (.newarray .int, 2) := by decide +kernel
theorem dX12_init_491 : decode cX12_init 491 = .ok (.putfield 187, 3) := by decide +kernel
theorem dX12_init_494 : decode cX12_init 494 = .ok (.aload_n 0, 1) := by decide +kernel
theorem dX12_init_495 : decode cX12_init 495 = .ok (.sipush 200, 3) := by decide +kernel
theorem dX12_init_498 : decode cX12_init 498 = .ok (.newarray .int, 2) := by decide +kernel
theorem dX12_init_500 : decode cX12_init 500 = .ok (.putfield 190, 3) := by decide +kernel
theorem dX12_init_503 : decode cX12_init 503 = .ok (.aload_n 0, 1) := by decide +kernel
theorem dX12_init_504 : decode cX12_init 504 = .ok (.sipush 200, 3) := by decide +kernel
theorem dX12_init_507 : decode cX12_init 507 = .ok (.newarray .int, 2) := by decide +kernel
theorem dX12_init_509 : decode cX12_init 509 = .ok (.putfield 193, 3) := by decide +kernel
theorem dX12_init_512 : decode cX12_init 512 = .ok (.aload_n 0, 1) := by decide +kernel
theorem dX12_init_513 : decode cX12_init 513 = .ok (.sipush 240, 3) := by decide +kernel
theorem dX12_init_516 : decode cX12_init 516 = .ok (.newarray .int, 2) := by decide +kernel
theorem dX12_init_518 : decode cX12_init 518 = .ok (.putfield 196, 3) := by decide +kernel
theorem dX12_init_521 : decode cX12_init 521 = .ok (.aload_n 0, 1) := by decide +kernel
theorem dX12_init_522 : decode cX12_init 522 = .ok (.sipush 240, 3) := by decide +kernel
theorem dX12_init_525 : decode cX12_init 525 = .ok (.newarray .int, 2) := by decide +kernel
theorem dX12_init_527 : decode cX12_init 527 = .ok (.putfield 199, 3) := by decide +kernel
theorem dX12_init_530 : decode cX12_init 530 = .ok (.aload_n 0, 1) := by decide +kernel
theorem dX12_init_531 : decode cX12_init 531 = .ok (.sipush 240, 3) := by decide +kernel
theorem dX12_init_534 : decode cX12_init 534 = .ok (.newarray .boolean, 2) := by decide +kernel
theorem dX12_init_536 : decode cX12_init 536 = .ok (.putfield 202, 3) := by decide +kernel
theorem dX12_init_539 : decode cX12_init 539 = .ok (.aload_n 0, 1) := by decide +kernel
theorem dX12_init_540 : decode cX12_init 540 = .ok (.sipush 4000, 3) := by decide +kernel
theorem dX12_init_543 : decode cX12_init 543 = .ok (.newarray .int, 2) := by decide +kernel
theorem dX12_init_545 : decode cX12_init 545 = .ok (.putfield 205, 3) := by decide +kernel
theorem dX12_init_548 : decode cX12_init 548 = .ok (.aload_n 0, 1) := by decide +kernel
theorem dX12_init_549 : decode cX12_init 549 = .ok (.sipush 4000, 3) := by decide +kernel
theorem dX12_init_552 : decode cX12_init 552 = .ok (.newarray .int, 2) := by decide +kernel
theorem dX12_init_554 : decode cX12_init 554 = .ok (.putfield 208, 3) := by decide +kernel
theorem dX12_init_557 : decode cX12_init 557 = .ok (.aload_n 0, 1) := by decide +kernel
theorem dX12_init_558 : decode cX12_init 558 = .ok (.sipush 4000, 3) := by decide +kernel
theorem dX12_init_561 : decode cX12_init 561 = .ok (.newarray .int, 2) := by decide +kernel
theorem dX12_init_563 : decode cX12_init 563 = .ok (.putfield 211, 3) := by decide +kernel
theorem dX12_init_566 : decode cX12_init 566 = .ok (.aload_n 0, 1) := by decide +kernel
theorem dX12_init_567 : decode cX12_init 567 = .ok (.sipush 4000, 3) := by decide +kernel
theorem dX12_init_570 : decode cX12_init 570 = .ok (.newarray .long, 2) := by decide +kernel
theorem dX12_init_572 : decode cX12_init 572 = .ok (.putfield 214, 3) := by decide +kernel
theorem dX12_init_575 : decode cX12_init 575 = .ok (.aload_n 0, 1) := by decide +kernel
theorem dX12_init_576 : decode cX12_init 576 = .ok (.sipush 4000, 3) := by decide +kernel
theorem dX12_init_579 : decode cX12_init 579 = .ok (.newarray .int, 2) := by decide +kernel
theorem dX12_init_581 : decode cX12_init 581 = .ok (.putfield 218, 3) := by decide +kernel
theorem dX12_init_584 : decode cX12_init 584 = .ok (.aload_n 0, 1) := by decide +kernel
theorem dX12_init_585 : decode cX12_init 585 = .ok (.sipush 4000, 3) := by decide +kernel
theorem dX12_init_588 : decode cX12_init 588 = .ok (.newarray .int, 2) := by decide +kernel
theorem dX12_init_590 : decode cX12_init 590 = .ok (.putfield 221, 3) := by decide +kernel
theorem dX12_init_593 : decode cX12_init 593 = .ok (.aload_n 0, 1) := by decide +kernel
theorem dX12_init_594 : decode cX12_init 594 = .ok (.sipush 4000, 3) := by decide +kernel
theorem dX12_init_597 : decode cX12_init 597 = .ok (.newarray .int, 2) := by decide +kernel
theorem dX12_init_599 : decode cX12_init 599 = .ok (.putfield 224, 3) := by decide +kernel
theorem dX12_init_602 : decode cX12_init 602 = .ok (.aload_n 0, 1) := by decide +kernel
theorem dX12_init_603 : decode cX12_init 603 = .ok (.sipush 4000, 3) := by decide +kernel
theorem dX12_init_606 : decode cX12_init 606 = .ok (.newarray .int, 2) := by decide +kernel
theorem dX12_init_608 : decode cX12_init 608 = .ok (.putfield 227, 3) := by decide +kernel
theorem dX12_init_611 : decode cX12_init 611 = .ok (.aload_n 0, 1) := by decide +kernel
theorem dX12_init_612 : decode cX12_init 612 = .ok (.sipush 240, 3) := by decide +kernel
theorem dX12_init_615 : decode cX12_init 615 = .ok (.newarray .int, 2) := by decide +kernel
theorem dX12_init_617 : decode cX12_init 617 = .ok (.putfield 230, 3) := by decide +kernel
theorem dX12_init_620 : decode cX12_init 620 = .ok (.aload_n 0, 1) := by decide +kernel
theorem dX12_init_621 : decode cX12_init 621 = .ok (.bipush 10, 2) := by decide +kernel
theorem dX12_init_623 : decode cX12_init 623 = .ok (.newarray .int, 2) := by decide +kernel
theorem dX12_init_625 : decode cX12_init 625 = .ok (.putfield 233, 3) := by decide +kernel
theorem dX12_init_628 : decode cX12_init 628 = .ok (.aload_n 0, 1) := by decide +kernel
theorem dX12_init_629 : decode cX12_init 629 = .ok (.sipush 4000, 3) := by decide +kernel
theorem dX12_init_632 : decode cX12_init 632 = .ok (.newarray .int, 2) := by decide +kernel
theorem dX12_init_634 : decode cX12_init 634 = .ok (.putfield 236, 3) := by decide +kernel
theorem dX12_init_637 : decode cX12_init 637 = .ok (.aload_n 0, 1) := by decide +kernel
theorem dX12_init_638 : decode cX12_init 638 = .ok (.sipush 4000, 3) := by decide +kernel
theorem dX12_init_641 : decode cX12_init 641 = .ok (.newarray .int, 2) := by decide +kernel
theorem dX12_init_643 : decode cX12_init 643 = .ok (.putfield 239, 3) := by decide +kernel
theorem dX12_init_646 : decode cX12_init 646 = .ok (.aload_n 0, 1) := by decide +kernel
theorem dX12_init_647 : decode cX12_init 647 = .ok (.sipush 4000, 3) := by decide +kernel
theorem dX12_init_650 : decode cX12_init 650 = .ok (.newarray .int, 2) := by decide +kernel
theorem dX12_init_652 : decode cX12_init 652 = .ok (.putfield 242, 3) := by decide +kernel
theorem dX12_init_655 : decode cX12_init 655 = .ok (.aload_n 0, 1) := by decide +kernel
theorem dX12_init_656 : decode cX12_init 656 = .ok (.sipush 4000, 3) := by decide +kernel
theorem dX12_init_659 : decode cX12_init 659 = .ok (.newarray .long, 2) := by decide +kernel
theorem dX12_init_661 : decode cX12_init 661 = .ok (.putfield 245, 3) := by decide +kernel
theorem dX12_init_664 : decode cX12_init 664 = .ok (.aload_n 0, 1) := by decide +kernel
theorem dX12_init_665 : decode cX12_init 665 = .ok (.sipush 240, 3) := by decide +kernel
theorem dX12_init_668 : decode cX12_init 668 = .ok (.newarray .int, 2) := by decide +kernel
theorem dX12_init_670 : decode cX12_init 670 = .ok (.putfield 248, 3) := by decide +kernel
theorem dX12_init_673 : decode cX12_init 673 = .ok (.aload_n 0, 1) := by decide +kernel
theorem dX12_init_674 : decode cX12_init 674 = .ok (.sipush 11000, 3) := by decide +kernel
theorem dX12_init_677 : decode cX12_init 677 = .ok (.newarray .int, 2) := by decide +kernel
theorem dX12_init_679 : decode cX12_init 679 = .ok (.putfield 251, 3) := by decide +kernel
theorem dX12_init_682 : decode cX12_init 682 = .ok (.aload_n 0, 1) := by decide +kernel
theorem dX12_init_683 : decode cX12_init 683 = .ok (.ldc 254, 2) := by decide +kernel
theorem dX12_init_685 : decode cX12_init 685 = .ok (.newarray .int, 2) := by decide +kernel
theorem dX12_init_687 : decode cX12_init 687 = .ok (.putfield 255, 3) := by decide +kernel
theorem dX12_init_690 : decode cX12_init 690 = .ok (.aload_n 0, 1) := by decide +kernel
theorem dX12_init_691 : decode cX12_init 691 = .ok (.bipush 40, 2) := by decide +kernel
theorem dX12_init_693 : decode cX12_init 693 = .ok (.newarray .int, 2) := by decide +kernel
theorem dX12_init_695 : decode cX12_init 695 = .ok (.putfield 258, 3) := by decide +kernel
theorem dX12_init_698 : decode cX12_init 698 = .ok (.aload_n 0, 1) := by decide +kernel
theorem dX12_init_699 : decode cX12_init 699 = .ok (.ldc_w 261, 3) := by decide +kernel
theorem dX12_init_702 : decode cX12_init 702 = .ok (.newarray .int, 2) := by decide +kernel
theorem dX12_init_704 : decode cX12_init 704 = .ok (.putfield 262, 3) := by decide +kernel
theorem dX12_init_707 : decode cX12_init 707 = .ok (.aload_n 0, 1) := by decide +kernel
theorem dX12_init_708 : decode cX12_init 708 = .ok (.bipush 40, 2) := by decide +kernel
theorem dX12_init_710 : decode cX12_init 710 = .ok (.newarray .int, 2) := by decide +kernel
theorem dX12_init_712 : decode cX12_init 712 = .ok (.putfield 265, 3) := by decide +kernel
theorem dX12_init_715 : decode cX12_init 715 = .ok (.aload_n 0, 1) := by decide +kernel
theorem dX12_init_716 : decode cX12_init 716 = .ok (.bipush 40, 2) := by decide +kernel
theorem dX12_init_718 : decode cX12_init 718 = .ok (.newarray .int, 2) := by decide +kernel
theorem dX12_init_720 : decode cX12_init 720 = .ok (.putfield 268, 3) := by decide +kernel
theorem dX12_init_723 : decode cX12_init 723 = .ok (.iconst 0, 1) := by decide +kernel
theorem dX12_init_724 : decode cX12_init 724 = .ok (.istore_n 1, 1) := by decide +kernel
theorem dX12_init_725 : decode cX12_init 725 = .ok (.iload_n 1, 1) := by decide +kernel
theorem dX12_init_726 : decode cX12_init 726 = .ok (.sipush 240, 3) := by decide +kernel
theorem dX12_init_729 : decode cX12_init 729 = .ok (.if_icmp .ge 17, 3) := by decide +kernel
theorem dX12_init_732 : decode cX12_init 732 = .ok (.aload_n 0, 1) := by decide +kernel
theorem dX12_init_733 : decode cX12_init 733 = .ok (.getfield 43, 3) := by decide +kernel
theorem dX12_init_736 : decode cX12_init 736 = .ok (.iload_n 1, 1) := by decide +kernel
theorem dX12_init_737 : decode cX12_init 737 = .ok (.bipush (-2), 2) := by decide +kernel
theorem dX12_init_739 : decode cX12_init 739 = .ok (.iastore, 1) := by decide +kernel
theorem dX12_init_740 : decode cX12_init 740 = .ok (.iinc 1 1, 3) := by decide +kernel
theorem dX12_init_743 : decode cX12_init 743 = .ok (.goto (-18), 3) := by decide +kernel
theorem dX12_init_746 : decode cX12_init 746 = .ok (.iconst 0, 1) := by decide +kernel
theorem dX12_init_747 : decode cX12_init 747 = .ok (.istore_n 1, 1) := by decide +kernel
theorem dX12_init_748 : decode cX12_init 748 = .ok (.iload_n 1, 1) := by decide +kernel
theorem dX12_init_749 : decode cX12_init 749 = .ok (.sipush 400, 3) := by decide +kernel
theorem dX12_init_752 : decode cX12_init 752 = .ok (.if_icmp .ge 16, 3) := by decide +kernel
theorem dX12_init_755 : decode cX12_init 755 = .ok (.aload_n 0, 1) := by decide +kernel
theorem dX12_init_756 : decode cX12_init 756 = .ok (.getfield 46, 3) := by decide +kernel
theorem dX12_init_759 : decode cX12_init 759 = .ok (.iload_n 1, 1) := by decide +kernel
theorem dX12_init_760 : decode cX12_init 760 = .ok (.iconst (-1), 1) := by decide +kernel
theorem dX12_init_761 : decode cX12_init 761 = .ok (.iastore, 1) := by decide +kernel
theorem dX12_init_762 : decode cX12_init 762 = .ok (.iinc 1 1, 3) := by decide +kernel
theorem dX12_init_765 : decode cX12_init 765 = .ok (.goto (-17), 3) := by decide +kernel
theorem dX12_init_768 : decode cX12_init 768 = .ok (.return_, 1) := by decide +kernel
theorem dX12_thrown_0 : decode cX12_thrown 0 = .ok (.aload_n 0, 1) := by decide +kernel
theorem dX12_thrown_1 : decode cX12_thrown 1 = .ok (.getfield 271, 3) := by decide +kernel
theorem dX12_thrown_4 : decode cX12_thrown 4 = .ok (.ireturn, 1) := by decide +kernel
theorem dX12_in_0 : decode cX12_in 0 = .ok (.iload_n 0, 1) := by decide +kernel
theorem dX12_in_1 : decode cX12_in 1 = .ok (.iload_n 1, 1) := by decide +kernel
theorem dX12_in_2 : decode cX12_in 2 = .ok (.if_icmp .lt 12, 3) := by decide +kernel
theorem dX12_in_5 : decode cX12_in 5 = .ok (.iload_n 0, 1) := by decide +kernel
theorem dX12_in_6 : decode cX12_in 6 = .ok (.iload_n 2, 1) := by decide +kernel
theorem dX12_in_7 : decode cX12_in 7 = .ok (.if_icmp .gt 7, 3) := by decide +kernel
theorem dX12_in_10 : decode cX12_in 10 = .ok (.iconst 1, 1) := by decide +kernel
theorem dX12_in_11 : decode cX12_in 11 = .ok (.goto 4, 3) := by decide +kernel
theorem dX12_in_14 : decode cX12_in 14 = .ok (.iconst 0, 1) := by decide +kernel
theorem dX12_in_15 : decode cX12_in 15 = .ok (.ireturn, 1) := by decide +kernel
theorem dX12_goes_0 : decode cX12_goes 0 = .ok (.aload_n 0, 1) := by decide +kernel
theorem dX12_goes_1 : decode cX12_goes 1 = .ok (.iload_n 1, 1) := by decide +kernel
theorem dX12_goes_2 : decode cX12_goes 2 = .ok (.ifCond .ne 7, 3) := by decide +kernel
theorem dX12_goes_5 : decode cX12_goes 5 = .ok (.iconst 1, 1) := by decide +kernel
theorem dX12_goes_6 : decode cX12_goes 6 = .ok (.goto 20, 3) := by decide +kernel
theorem dX12_goes_9 : decode cX12_goes 9 = .ok (.iload_n 2, 1) := by decide +kernel
theorem dX12_goes_10 : decode cX12_goes 10 = .ok (.ifCond .ne 7, 3) := by decide +kernel
theorem dX12_goes_13 : decode cX12_goes 13 = .ok (.iconst 2, 1) := by decide +kernel
theorem dX12_goes_14 : decode cX12_goes 14 = .ok (.goto 12, 3) := by decide +kernel
theorem dX12_goes_17 : decode cX12_goes 17 = .ok (.iload_n 3, 1) := by decide +kernel
theorem dX12_goes_18 : decode cX12_goes 18 = .ok (.ifCond .ne 7, 3) := by decide +kernel
theorem dX12_goes_21 : decode cX12_goes 21 = .ok (.iconst 3, 1) := by decide +kernel
theorem dX12_goes_22 : decode cX12_goes 22 = .ok (.goto 4, 3) := by decide +kernel
theorem dX12_goes_25 : decode cX12_goes 25 = .ok (.iconst 0, 1) := by decide +kernel
theorem dX12_goes_26 : decode cX12_goes 26 = .ok (.putfield 271, 3) := by decide +kernel
theorem dX12_goes_29 : decode cX12_goes 29 = .ok (.aload_n 0, 1) := by decide +kernel
theorem dX12_goes_30 : decode cX12_goes 30 = .ok (.getfield 271, 3) := by decide +kernel
theorem dX12_goes_33 : decode cX12_goes 33 = .ok (.ifCond .ne 7, 3) := by decide +kernel
theorem dX12_goes_36 : decode cX12_goes 36 = .ok (.iconst 1, 1) := by decide +kernel
theorem dX12_goes_37 : decode cX12_goes 37 = .ok (.goto 4, 3) := by decide +kernel
theorem dX12_goes_40 : decode cX12_goes 40 = .ok (.iconst 0, 1) := by decide +kernel
theorem dX12_goes_41 : decode cX12_goes 41 = .ok (.ireturn, 1) := by decide +kernel
theorem dX12_tells_0 : decode cX12_tells 0 = .ok (.aload_n 0, 1) := by decide +kernel
theorem dX12_tells_1 : decode cX12_tells 1 = .ok (.iconst 0, 1) := by decide +kernel
theorem dX12_tells_2 : decode cX12_tells 2 = .ok (.putfield 271, 3) := by decide +kernel
theorem dX12_tells_5 : decode cX12_tells 5 = .ok (.iload_n 1, 1) := by decide +kernel
theorem dX12_tells_6 : decode cX12_tells 6 = .ok (.ireturn, 1) := by decide +kernel
theorem dX12_isType_0 : decode cX12_isType 0 = .ok (.iload_n 1, 1) := by decide +kernel
theorem dX12_isType_1 : decode cX12_isType 1 = .ok (.iconst 0, 1) := by decide +kernel
theorem dX12_isType_2 : decode cX12_isType 2 = .ok (.aload_n 0, 1) := by decide +kernel
theorem dX12_isType_3 : decode cX12_isType 3 = .ok (.getfield 275, 3) := by decide +kernel
theorem dX12_isType_6 : decode cX12_isType 6 = .ok (.iconst 1, 1) := by decide +kernel
theorem dX12_isType_7 : decode cX12_isType 7 = .ok (.isub, 1) := by decide +kernel
theorem dX12_isType_8 : decode cX12_isType 8 = .ok (.invokestatic 278, 3) := by decide +kernel
theorem dX12_isType_11 : decode cX12_isType 11 = .ok (.ireturn, 1) := by decide +kernel
theorem dX12_isExpression_0 : decode cX12_isExpression 0 = .ok (.iload_n 1, 1) := by decide +kernel
theorem dX12_isExpression_1 : decode cX12_isExpression 1 = .ok (.iconst 0, 1) := by decide +kernel
theorem dX12_isExpression_2 : decode cX12_isExpression 2 = .ok (.aload_n 0, 1) := by decide +kernel
theorem dX12_isExpression_3 : decode cX12_isExpression 3 = .ok (.getfield 282, 3) := by decide +kernel
theorem dX12_isExpression_6 : decode cX12_isExpression 6 = .ok (.iconst 1, 1) := by decide +kernel
theorem dX12_isExpression_7 : decode cX12_isExpression 7 = .ok (.isub, 1) := by decide +kernel
theorem dX12_isExpression_8 : decode cX12_isExpression 8 = .ok (.invokestatic 278, 3) := by decide +kernel
theorem dX12_isExpression_11 : decode cX12_isExpression 11 = .ok (.ireturn, 1) := by decide +kernel
theorem dX12_isUnit_0 : decode cX12_isUnit 0 = .ok (.iload_n 1, 1) := by decide +kernel
theorem dX12_isUnit_1 : decode cX12_isUnit 1 = .ok (.iconst 0, 1) := by decide +kernel
theorem dX12_isUnit_2 : decode cX12_isUnit 2 = .ok (.aload_n 0, 1) := by decide +kernel
theorem dX12_isUnit_3 : decode cX12_isUnit 3 = .ok (.getfield 285, 3) := by decide +kernel
theorem dX12_isUnit_6 : decode cX12_isUnit 6 = .ok (.iconst 1, 1) := by decide +kernel
theorem dX12_isUnit_7 : decode cX12_isUnit 7 = .ok (.isub, 1) := by decide +kernel
theorem dX12_isUnit_8 : decode cX12_isUnit 8 = .ok (.invokestatic 278, 3) := by decide +kernel
theorem dX12_isUnit_11 : decode cX12_isUnit 11 = .ok (.ireturn, 1) := by decide +kernel
theorem dX12_isNode_0 : decode cX12_isNode 0 = .ok (.iload_n 1, 1) := by decide +kernel
theorem dX12_isNode_1 : decode cX12_isNode 1 = .ok (.iconst 0, 1) := by decide +kernel
theorem dX12_isNode_2 : decode cX12_isNode 2 = .ok (.aload_n 0, 1) := by decide +kernel
theorem dX12_isNode_3 : decode cX12_isNode 3 = .ok (.getfield 288, 3) := by decide +kernel
theorem dX12_isNode_6 : decode cX12_isNode 6 = .ok (.iconst 1, 1) := by decide +kernel
theorem dX12_isNode_7 : decode cX12_isNode 7 = .ok (.isub, 1) := by decide +kernel
theorem dX12_isNode_8 : decode cX12_isNode 8 = .ok (.invokestatic 278, 3) := by decide +kernel
theorem dX12_isNode_11 : decode cX12_isNode 11 = .ok (.ireturn, 1) := by decide +kernel
theorem dX12_isName_0 : decode cX12_isName 0 = .ok (.iload_n 0, 1) := by decide +kernel
theorem dX12_isName_1 : decode cX12_isName 1 = .ok (.iconst 0, 1) := by decide +kernel
theorem dX12_isName_2 : decode cX12_isName 2 = .ok (.iconst 5, 1) := by decide +kernel
theorem dX12_isName_3 : decode cX12_isName 3 = .ok (.invokestatic 278, 3) := by decide +kernel
theorem dX12_isName_6 : decode cX12_isName 6 = .ok (.ireturn, 1) := by decide +kernel
theorem dX12_isValue_0 : decode cX12_isValue 0 = .ok (.iload_n 0, 1) := by decide +kernel
theorem dX12_isValue_1 : decode cX12_isValue 1 = .ok (.iconst 0, 1) := by decide +kernel
theorem dX12_isValue_2 : decode cX12_isValue 2 = .ok (.bipush 9, 2) := by decide +kernel
theorem dX12_isValue_4 : decode cX12_isValue 4 = .ok (.invokestatic 278, 3) := by decide +kernel
theorem dX12_isValue_7 : decode cX12_isValue 7 = .ok (.ireturn, 1) := by decide +kernel
theorem dX12_type_0 : decode cX12_type 0 = .ok (.iload_n 1, 1) := by decide +kernel
theorem dX12_type_1 : decode cX12_type 1 = .ok (.iconst 0, 1) := by decide +kernel
theorem dX12_type_2 : decode cX12_type 2 = .ok (.iconst 2, 1) := by decide +kernel
theorem dX12_type_3 : decode cX12_type 3 = .ok (.invokestatic 278, 3) := by decide +kernel
theorem dX12_type_6 : decode cX12_type 6 = .ok (.ifCond .eq 19, 3) := by decide +kernel
theorem dX12_type_9 : decode cX12_type 9 = .ok (.iload_n 1, 1) := by decide +kernel
theorem dX12_type_10 : decode cX12_type 10 = .ok (.iconst 2, 1) := by decide +kernel
theorem dX12_type_11 : decode cX12_type 11 = .ok (.if_icmp .ne 10, 3) := by decide +kernel
theorem dX12_type_14 : decode cX12_type 14 = .ok (.iload_n 2, 1) := by decide +kernel
theorem dX12_type_15 : decode cX12_type 15 = .ok (.invokestatic 291, 3) := by decide +kernel
theorem dX12_type_18 : decode cX12_type 18 = .ok (.ifCond .eq 7, 3) := by decide +kernel
theorem dX12_type_21 : decode cX12_type 21 = .ok (.iconst 1, 1) := by decide +kernel
theorem dX12_type_22 : decode cX12_type 22 = .ok (.goto 4, 3) := by decide +kernel
theorem dX12_type_25 : decode cX12_type 25 = .ok (.iconst 0, 1) := by decide +kernel
theorem dX12_type_26 : decode cX12_type 26 = .ok (.istore 4, 2) := by decide +kernel
theorem dX12_type_28 : decode cX12_type 28 = .ok (.iload_n 1, 1) := by decide +kernel
theorem dX12_type_29 : decode cX12_type 29 = .ok (.iconst 1, 1) := by decide +kernel
theorem dX12_type_30 : decode cX12_type 30 = .ok (.if_icmp .ne 19, 3) := by decide +kernel
theorem dX12_type_33 : decode cX12_type 33 = .ok (.aload_n 0, 1) := by decide +kernel
theorem dX12_type_34 : decode cX12_type 34 = .ok (.iload_n 2, 1) := by decide +kernel
theorem dX12_type_35 : decode cX12_type 35 = .ok (.invokevirtual 295, 3) := by decide +kernel
theorem dX12_type_38 : decode cX12_type 38 = .ok (.ifCond .eq 15, 3) := by decide +kernel
theorem dX12_type_49 : decode cX12_type 49 = .ok (.iconst 1, 1) := by decide +kernel
theorem dX12_type_50 : decode cX12_type 50 = .ok (.goto 4, 3) := by decide +kernel
theorem dX12_type_53 : decode cX12_type 53 = .ok (.iconst 0, 1) := by decide +kernel
theorem dX12_type_54 : decode cX12_type 54 = .ok (.istore 5, 2) := by decide +kernel
theorem dX12_type_56 : decode cX12_type 56 = .ok (.iload 4, 2) := by decide +kernel
theorem dX12_type_58 : decode cX12_type 58 = .ok (.ifCond .eq 31, 3) := by decide +kernel
theorem dX12_type_61 : decode cX12_type 61 = .ok (.iload 5, 2) := by decide +kernel
theorem dX12_type_63 : decode cX12_type 63 = .ok (.ifCond .eq 26, 3) := by decide +kernel
theorem dX12_type_66 : decode cX12_type 66 = .ok (.iload_n 1, 1) := by decide +kernel
theorem dX12_type_67 : decode cX12_type 67 = .ok (.iconst 1, 1) := by decide +kernel
theorem dX12_type_68 : decode cX12_type 68 = .ok (.if_icmp .ne 21, 3) := by decide +kernel
theorem dX12_type_89 : decode cX12_type 89 = .ok (.iconst 1, 1) := by decide +kernel
theorem dX12_type_90 : decode cX12_type 90 = .ok (.istore 6, 2) := by decide +kernel
theorem dX12_type_92 : decode cX12_type 92 = .ok (.aload_n 0, 1) := by decide +kernel
theorem dX12_type_93 : decode cX12_type 93 = .ok (.iload 4, 2) := by decide +kernel
theorem dX12_type_95 : decode cX12_type 95 = .ok (.iload 5, 2) := by decide +kernel
theorem dX12_type_97 : decode cX12_type 97 = .ok (.aload_n 0, 1) := by decide +kernel
theorem dX12_type_98 : decode cX12_type 98 = .ok (.getfield 275, 3) := by decide +kernel
theorem dX12_type_101 : decode cX12_type 101 = .ok (.bipush 60, 2) := by decide +kernel
theorem dX12_type_103 : decode cX12_type 103 = .ok (.if_icmp .ge 14, 3) := by decide +kernel
theorem dX12_type_106 : decode cX12_type 106 = .ok (.iload 6, 2) := by decide +kernel
theorem dX12_type_108 : decode cX12_type 108 = .ok (.bipush 12, 2) := by decide +kernel
theorem dX12_type_110 : decode cX12_type 110 = .ok (.if_icmp .gt 7, 3) := by decide +kernel
theorem dX12_type_113 : decode cX12_type 113 = .ok (.iconst 1, 1) := by decide +kernel
theorem dX12_type_114 : decode cX12_type 114 = .ok (.goto 4, 3) := by decide +kernel
theorem dX12_type_118 : decode cX12_type 118 = .ok (.invokevirtual 298, 3) := by decide +kernel
theorem dX12_type_121 : decode cX12_type 121 = .ok (.ifCond .ne 5, 3) := by decide +kernel
theorem dX12_type_124 : decode cX12_type 124 = .ok (.iconst 0, 1) := by decide +kernel
theorem dX12_type_125 : decode cX12_type 125 = .ok (.ireturn, 1) := by decide +kernel
theorem dX12_type_126 : decode cX12_type 126 = .ok (.aload_n 0, 1) := by decide +kernel
theorem dX12_type_127 : decode cX12_type 127 = .ok (.getfield 7, 3) := by decide +kernel
theorem dX12_type_130 : decode cX12_type 130 = .ok (.aload_n 0, 1) := by decide +kernel
theorem dX12_type_131 : decode cX12_type 131 = .ok (.getfield 275, 3) := by decide +kernel
theorem dX12_type_134 : decode cX12_type 134 = .ok (.iload_n 1, 1) := by decide +kernel
theorem dX12_type_135 : decode cX12_type 135 = .ok (.iastore, 1) := by decide +kernel
theorem dX12_type_136 : decode cX12_type 136 = .ok (.aload_n 0, 1) := by decide +kernel
theorem dX12_type_137 : decode cX12_type 137 = .ok (.getfield 13, 3) := by decide +kernel
theorem dX12_type_140 : decode cX12_type 140 = .ok (.aload_n 0, 1) := by decide +kernel
theorem dX12_type_141 : decode cX12_type 141 = .ok (.getfield 275, 3) := by decide +kernel
theorem dX12_type_144 : decode cX12_type 144 = .ok (.iload_n 1, 1) := by decide +kernel
theorem dX12_type_145 : decode cX12_type 145 = .ok (.ifCond .ne 7, 3) := by decide +kernel
theorem dX12_type_148 : decode cX12_type 148 = .ok (.iconst 0, 1) := by decide +kernel
theorem dX12_type_149 : decode cX12_type 149 = .ok (.goto 4, 3) := by decide +kernel
theorem dX12_type_152 : decode cX12_type 152 = .ok (.iload_n 2, 1) := by decide +kernel
theorem dX12_type_153 : decode cX12_type 153 = .ok (.iastore, 1) := by decide +kernel
theorem dX12_type_154 : decode cX12_type 154 = .ok (.aload_n 0, 1) := by decide +kernel
theorem dX12_type_155 : decode cX12_type 155 = .ok (.getfield 16, 3) := by decide +kernel
theorem dX12_type_158 : decode cX12_type 158 = .ok (.aload_n 0, 1) := by decide +kernel
theorem dX12_type_159 : decode cX12_type 159 = .ok (.getfield 275, 3) := by decide +kernel
theorem dX12_type_162 : decode cX12_type 162 = .ok (.iload_n 1, 1) := by decide +kernel
theorem dX12_type_163 : decode cX12_type 163 = .ok (.iconst 1, 1) := by decide +kernel
theorem dX12_type_164 : decode cX12_type 164 = .ok (.if_icmp .ne 7, 3) := by decide +kernel
theorem dX12_type_171 : decode cX12_type 171 = .ok (.iconst 0, 1) := by decide +kernel
theorem dX12_type_172 : decode cX12_type 172 = .ok (.iastore, 1) := by decide +kernel
theorem dX12_type_173 : decode cX12_type 173 = .ok (.aload_n 0, 1) := by decide +kernel
theorem dX12_type_174 : decode cX12_type 174 = .ok (.getfield 19, 3) := by decide +kernel
theorem dX12_type_177 : decode cX12_type 177 = .ok (.aload_n 0, 1) := by decide +kernel
theorem dX12_type_178 : decode cX12_type 178 = .ok (.getfield 275, 3) := by decide +kernel
theorem dX12_type_181 : decode cX12_type 181 = .ok (.iload 6, 2) := by decide +kernel
theorem dX12_type_183 : decode cX12_type 183 = .ok (.iastore, 1) := by decide +kernel
theorem dX12_type_184 : decode cX12_type 184 = .ok (.aload_n 0, 1) := by decide +kernel
theorem dX12_type_185 : decode cX12_type 185 = .ok (.getfield 22, 3) := by decide +kernel
theorem dX12_type_188 : decode cX12_type 188 = .ok (.aload_n 0, 1) := by decide +kernel
theorem dX12_type_189 : decode cX12_type 189 = .ok (.getfield 275, 3) := by decide +kernel
theorem dX12_type_192 : decode cX12_type 192 = .ok (.iload_n 1, 1) := by decide +kernel
theorem dX12_type_193 : decode cX12_type 193 = .ok (.iconst 2, 1) := by decide +kernel
theorem dX12_type_194 : decode cX12_type 194 = .ok (.if_icmp .ne 9, 3) := by decide +kernel
theorem dX12_type_197 : decode cX12_type 197 = .ok (.iconst 1, 1) := by decide +kernel
theorem dX12_type_198 : decode cX12_type 198 = .ok (.iload_n 2, 1) := by decide +kernel
theorem dX12_type_199 : decode cX12_type 199 = .ok (.ishl, 1) := by decide +kernel
theorem dX12_type_200 : decode cX12_type 200 = .ok (.goto 25, 3) := by decide +kernel
theorem dX12_type_203 : decode cX12_type 203 = .ok (.iload_n 1, 1) := by decide +kernel
theorem dX12_type_204 : decode cX12_type 204 = .ok (.iconst 1, 1) := by decide +kernel
theorem dX12_type_205 : decode cX12_type 205 = .ok (.if_icmp .ne 19, 3) := by decide +kernel
theorem dX12_type_224 : decode cX12_type 224 = .ok (.iconst 0, 1) := by decide +kernel
theorem dX12_type_225 : decode cX12_type 225 = .ok (.iastore, 1) := by decide +kernel
theorem dX12_type_226 : decode cX12_type 226 = .ok (.aload_n 0, 1) := by decide +kernel
theorem dX12_type_227 : decode cX12_type 227 = .ok (.dup, 1) := by decide +kernel
theorem dX12_type_228 : decode cX12_type 228 = .ok (.getfield 275, 3) := by decide +kernel
theorem dX12_type_231 : decode cX12_type 231 = .ok (.iconst 1, 1) := by decide +kernel
theorem dX12_type_232 : decode cX12_type 232 = .ok (.iadd, 1) := by decide +kernel
theorem dX12_type_233 : decode cX12_type 233 = .ok (.putfield 275, 3) := by decide +kernel
theorem dX12_type_236 : decode cX12_type 236 = .ok (.aload_n 0, 1) := by decide +kernel
theorem dX12_type_237 : decode cX12_type 237 = .ok (.getfield 275, 3) := by decide +kernel
theorem dX12_type_240 : decode cX12_type 240 = .ok (.iconst 1, 1) := by decide +kernel
theorem dX12_type_241 : decode cX12_type 241 = .ok (.isub, 1) := by decide +kernel
theorem dX12_type_242 : decode cX12_type 242 = .ok (.ireturn, 1) := by decide +kernel
theorem dX12_made_0 : decode cX12_made 0 = .ok (.aload_n 0, 1) := by decide +kernel
theorem dX12_made_1 : decode cX12_made 1 = .ok (.getfield 25, 3) := by decide +kernel
theorem dX12_made_4 : decode cX12_made 4 = .ok (.aload_n 0, 1) := by decide +kernel
theorem dX12_made_5 : decode cX12_made 5 = .ok (.getfield 282, 3) := by decide +kernel
theorem dX12_made_8 : decode cX12_made 8 = .ok (.iload_n 1, 1) := by decide +kernel
theorem dX12_made_9 : decode cX12_made 9 = .ok (.iastore, 1) := by decide +kernel
theorem dX12_made_10 : decode cX12_made 10 = .ok (.aload_n 0, 1) := by decide +kernel
theorem dX12_made_11 : decode cX12_made 11 = .ok (.getfield 28, 3) := by decide +kernel
theorem dX12_made_14 : decode cX12_made 14 = .ok (.aload_n 0, 1) := by decide +kernel
theorem dX12_made_15 : decode cX12_made 15 = .ok (.getfield 282, 3) := by decide +kernel
theorem dX12_made_18 : decode cX12_made 18 = .ok (.iload_n 2, 1) := by decide +kernel
theorem dX12_made_19 : decode cX12_made 19 = .ok (.iastore, 1) := by decide +kernel
theorem dX12_made_20 : decode cX12_made 20 = .ok (.aload_n 0, 1) := by decide +kernel
theorem dX12_made_21 : decode cX12_made 21 = .ok (.getfield 31, 3) := by decide +kernel
theorem dX12_made_24 : decode cX12_made 24 = .ok (.aload_n 0, 1) := by decide +kernel
theorem dX12_made_25 : decode cX12_made 25 = .ok (.getfield 282, 3) := by decide +kernel
theorem dX12_made_28 : decode cX12_made 28 = .ok (.iload_n 3, 1) := by decide +kernel
theorem dX12_made_29 : decode cX12_made 29 = .ok (.iastore, 1) := by decide +kernel
theorem dX12_made_30 : decode cX12_made 30 = .ok (.aload_n 0, 1) := by decide +kernel
theorem dX12_made_31 : decode cX12_made 31 = .ok (.getfield 34, 3) := by decide +kernel
theorem dX12_made_34 : decode cX12_made 34 = .ok (.aload_n 0, 1) := by decide +kernel
theorem dX12_made_35 : decode cX12_made 35 = .ok (.getfield 282, 3) := by decide +kernel
theorem dX12_made_38 : decode cX12_made 38 = .ok (.iload 4, 2) := by decide +kernel
theorem dX12_made_40 : decode cX12_made 40 = .ok (.iastore, 1) := by decide +kernel
theorem dX12_made_41 : decode cX12_made 41 = .ok (.aload_n 0, 1) := by decide +kernel
theorem dX12_made_42 : decode cX12_made 42 = .ok (.getfield 37, 3) := by decide +kernel
theorem dX12_made_45 : decode cX12_made 45 = .ok (.aload_n 0, 1) := by decide +kernel
theorem dX12_made_46 : decode cX12_made 46 = .ok (.getfield 282, 3) := by decide +kernel
theorem dX12_made_49 : decode cX12_made 49 = .ok (.iload 5, 2) := by decide +kernel
theorem dX12_made_51 : decode cX12_made 51 = .ok (.iastore, 1) := by decide +kernel
theorem dX12_made_52 : decode cX12_made 52 = .ok (.aload_n 0, 1) := by decide +kernel
theorem dX12_made_53 : decode cX12_made 53 = .ok (.dup, 1) := by decide +kernel
theorem dX12_made_54 : decode cX12_made 54 = .ok (.getfield 282, 3) := by decide +kernel
theorem dX12_made_57 : decode cX12_made 57 = .ok (.iconst 1, 1) := by decide +kernel
theorem dX12_made_58 : decode cX12_made 58 = .ok (.iadd, 1) := by decide +kernel
theorem dX12_made_59 : decode cX12_made 59 = .ok (.putfield 282, 3) := by decide +kernel
theorem dX12_made_62 : decode cX12_made 62 = .ok (.aload_n 0, 1) := by decide +kernel
theorem dX12_made_63 : decode cX12_made 63 = .ok (.getfield 282, 3) := by decide +kernel
theorem dX12_made_66 : decode cX12_made 66 = .ok (.iconst 1, 1) := by decide +kernel
theorem dX12_made_67 : decode cX12_made 67 = .ok (.isub, 1) := by decide +kernel
theorem dX12_made_68 : decode cX12_made 68 = .ok (.ireturn, 1) := by decide +kernel
theorem dX12_leaf_0 : decode cX12_leaf 0 = .ok (.aload_n 0, 1) := by decide +kernel
theorem dX12_leaf_1 : decode cX12_leaf 1 = .ok (.iload_n 1, 1) := by decide +kernel
theorem dX12_leaf_2 : decode cX12_leaf 2 = .ok (.ifCond .eq 10, 3) := by decide +kernel
theorem dX12_leaf_5 : decode cX12_leaf 5 = .ok (.iload_n 2, 1) := by decide +kernel
theorem dX12_leaf_6 : decode cX12_leaf 6 = .ok (.invokestatic 302, 3) := by decide +kernel
theorem dX12_leaf_9 : decode cX12_leaf 9 = .ok (.ifCond .eq 7, 3) := by decide +kernel
theorem dX12_leaf_12 : decode cX12_leaf 12 = .ok (.iconst 1, 1) := by decide +kernel
theorem dX12_leaf_13 : decode cX12_leaf 13 = .ok (.goto 4, 3) := by decide +kernel
theorem dX12_leaf_16 : decode cX12_leaf 16 = .ok (.iconst 0, 1) := by decide +kernel
theorem dX12_leaf_17 : decode cX12_leaf 17 = .ok (.aload_n 0, 1) := by decide +kernel
theorem dX12_leaf_18 : decode cX12_leaf 18 = .ok (.getfield 282, 3) := by decide +kernel
theorem dX12_leaf_21 : decode cX12_leaf 21 = .ok (.bipush 120, 2) := by decide +kernel
theorem dX12_leaf_23 : decode cX12_leaf 23 = .ok (.if_icmp .ge 7, 3) := by decide +kernel
theorem dX12_leaf_26 : decode cX12_leaf 26 = .ok (.iconst 1, 1) := by decide +kernel
theorem dX12_leaf_27 : decode cX12_leaf 27 = .ok (.goto 4, 3) := by decide +kernel
theorem dX12_leaf_31 : decode cX12_leaf 31 = .ok (.iconst 1, 1) := by decide +kernel
theorem dX12_leaf_32 : decode cX12_leaf 32 = .ok (.invokevirtual 298, 3) := by decide +kernel
theorem dX12_leaf_35 : decode cX12_leaf 35 = .ok (.ifCond .eq 23, 3) := by decide +kernel
theorem dX12_leaf_38 : decode cX12_leaf 38 = .ok (.aload_n 0, 1) := by decide +kernel
theorem dX12_leaf_39 : decode cX12_leaf 39 = .ok (.iload_n 1, 1) := by decide +kernel
theorem dX12_leaf_40 : decode cX12_leaf 40 = .ok (.ifCond .eq 7, 3) := by decide +kernel
theorem dX12_leaf_43 : decode cX12_leaf 43 = .ok (.iconst 1, 1) := by decide +kernel
theorem dX12_leaf_44 : decode cX12_leaf 44 = .ok (.goto 4, 3) := by decide +kernel
theorem dX12_leaf_47 : decode cX12_leaf 47 = .ok (.iconst 0, 1) := by decide +kernel
theorem dX12_leaf_48 : decode cX12_leaf 48 = .ok (.iload_n 2, 1) := by decide +kernel
theorem dX12_leaf_49 : decode cX12_leaf 49 = .ok (.iconst 0, 1) := by decide +kernel
theorem dX12_leaf_50 : decode cX12_leaf 50 = .ok (.iconst 0, 1) := by decide +kernel
theorem dX12_leaf_51 : decode cX12_leaf 51 = .ok (.iconst 1, 1) := by decide +kernel
theorem dX12_leaf_52 : decode cX12_leaf 52 = .ok (.invokevirtual 305, 3) := by decide +kernel
theorem dX12_leaf_55 : decode cX12_leaf 55 = .ok (.goto 4, 3) := by decide +kernel
theorem dX12_leaf_58 : decode cX12_leaf 58 = .ok (.iconst 0, 1) := by decide +kernel
theorem dX12_leaf_59 : decode cX12_leaf 59 = .ok (.ireturn, 1) := by decide +kernel
theorem dX12_partsOf_0 : decode cX12_partsOf 0 = .ok (.iload_n 0, 1) := by decide +kernel
theorem dX12_partsOf_1 : decode cX12_partsOf 1 = .ok (.iconst 2, 1) := by decide +kernel
theorem dX12_partsOf_2 : decode cX12_partsOf 2 = .ok (.if_icmp .ge 7, 3) := by decide +kernel
theorem dX12_partsOf_5 : decode cX12_partsOf 5 = .ok (.iconst 0, 1) := by decide +kernel
theorem dX12_partsOf_6 : decode cX12_partsOf 6 = .ok (.goto 28, 3) := by decide +kernel
theorem dX12_partsOf_9 : decode cX12_partsOf 9 = .ok (.iload_n 0, 1) := by decide +kernel
theorem dX12_partsOf_10 : decode cX12_partsOf 10 = .ok (.iconst 4, 1) := by decide +kernel
theorem dX12_partsOf_11 : decode cX12_partsOf 11 = .ok (.if_icmp .eq 8, 3) := by decide +kernel
theorem dX12_partsOf_14 : decode cX12_partsOf 14 = .ok (.iload_n 0, 1) := by decide +kernel
theorem dX12_partsOf_15 : decode cX12_partsOf 15 = .ok (.iconst 5, 1) := by decide +kernel
theorem dX12_partsOf_16 : decode cX12_partsOf 16 = .ok (.if_icmp .ne 7, 3) := by decide +kernel
theorem dX12_partsOf_19 : decode cX12_partsOf 19 = .ok (.iconst 1, 1) := by decide +kernel
theorem dX12_partsOf_20 : decode cX12_partsOf 20 = .ok (.goto 14, 3) := by decide +kernel
theorem dX12_partsOf_23 : decode cX12_partsOf 23 = .ok (.iload_n 0, 1) := by decide +kernel
theorem dX12_partsOf_24 : decode cX12_partsOf 24 = .ok (.bipush 6, 2) := by decide +kernel
theorem dX12_partsOf_26 : decode cX12_partsOf 26 = .ok (.if_icmp .ne 7, 3) := by decide +kernel
theorem dX12_partsOf_29 : decode cX12_partsOf 29 = .ok (.iconst 3, 1) := by decide +kernel
theorem dX12_partsOf_30 : decode cX12_partsOf 30 = .ok (.goto 4, 3) := by decide +kernel
theorem dX12_partsOf_33 : decode cX12_partsOf 33 = .ok (.iconst 2, 1) := by decide +kernel
theorem dX12_partsOf_34 : decode cX12_partsOf 34 = .ok (.ireturn, 1) := by decide +kernel
theorem dX12_expression_0 : decode cX12_expression 0 = .ok (.iload_n 1, 1) := by decide +kernel
theorem dX12_expression_1 : decode cX12_expression 1 = .ok (.iconst 0, 1) := by decide +kernel
theorem dX12_expression_2 : decode cX12_expression 2 = .ok (.iconst 4, 1) := by decide +kernel
theorem dX12_expression_3 : decode cX12_expression 3 = .ok (.invokestatic 278, 3) := by decide +kernel
theorem dX12_expression_6 : decode cX12_expression 6 = .ok (.istore 5, 2) := by decide +kernel
theorem dX12_expression_8 : decode cX12_expression 8 = .ok (.iload 5, 2) := by decide +kernel
theorem dX12_expression_10 : decode cX12_expression 10 = .ok (.ifCond .eq 12, 3) := by decide +kernel
theorem dX12_expression_13 : decode cX12_expression 13 = .ok (.iload_n 1, 1) := by decide +kernel
theorem dX12_expression_14 : decode cX12_expression 14 = .ok (.iconst 2, 1) := by decide +kernel
theorem dX12_expression_15 : decode cX12_expression 15 = .ok (.iadd, 1) := by decide +kernel
theorem dX12_expression_16 : decode cX12_expression 16 = .ok (.invokestatic 309, 3) := by decide +kernel
theorem dX12_expression_19 : decode cX12_expression 19 = .ok (.goto 4, 3) := by decide +kernel
theorem dX12_expression_22 : decode cX12_expression 22 = .ok (.iconst 0, 1) := by decide +kernel
theorem dX12_expression_23 : decode cX12_expression 23 = .ok (.istore 6, 2) := by decide +kernel
theorem dX12_expression_25 : decode cX12_expression 25 = .ok (.iload 6, 2) := by decide +kernel
theorem dX12_expression_27 : decode cX12_expression 27 = .ok (.iconst 1, 1) := by decide +kernel
theorem dX12_expression_28 : decode cX12_expression 28 = .ok (.if_icmp .lt 11, 3) := by decide +kernel
theorem dX12_expression_31 : decode cX12_expression 31 = .ok (.aload_n 0, 1) := by decide +kernel
theorem dX12_expression_32 : decode cX12_expression 32 = .ok (.iload_n 2, 1) := by decide +kernel
theorem dX12_expression_33 : decode cX12_expression 33 = .ok (.invokevirtual 313, 3) := by decide +kernel
theorem dX12_expression_36 : decode cX12_expression 36 = .ok (.ifCond .eq 36, 3) := by decide +kernel
theorem dX12_expression_39 : decode cX12_expression 39 = .ok (.iload 6, 2) := by decide +kernel
theorem dX12_expression_41 : decode cX12_expression 41 = .ok (.iconst 2, 1) := by decide +kernel
theorem dX12_expression_42 : decode cX12_expression 42 = .ok (.if_icmp .lt 11, 3) := by decide +kernel
theorem dX12_expression_53 : decode cX12_expression 53 = .ok (.iload 6, 2) := by decide +kernel
theorem dX12_expression_55 : decode cX12_expression 55 = .ok (.iconst 3, 1) := by decide +kernel
theorem dX12_expression_56 : decode cX12_expression 56 = .ok (.if_icmp .lt 12, 3) := by decide +kernel
theorem dX12_expression_68 : decode cX12_expression 68 = .ok (.iconst 1, 1) := by decide +kernel
theorem dX12_expression_69 : decode cX12_expression 69 = .ok (.goto 4, 3) := by decide +kernel
theorem dX12_expression_72 : decode cX12_expression 72 = .ok (.iconst 0, 1) := by decide +kernel
theorem dX12_expression_73 : decode cX12_expression 73 = .ok (.istore 7, 2) := by decide +kernel
theorem dX12_expression_75 : decode cX12_expression 75 = .ok (.iconst 1, 1) := by decide +kernel
theorem dX12_expression_76 : decode cX12_expression 76 = .ok (.istore 8, 2) := by decide +kernel
theorem dX12_expression_78 : decode cX12_expression 78 = .ok (.iload 5, 2) := by decide +kernel
theorem dX12_expression_80 : decode cX12_expression 80 = .ok (.ifCond .eq 54, 3) := by decide +kernel
theorem dX12_expression_83 : decode cX12_expression 83 = .ok (.iload 7, 2) := by decide +kernel
theorem dX12_expression_85 : decode cX12_expression 85 = .ok (.ifCond .eq 49, 3) := by decide +kernel
theorem dX12_expression_134 : decode cX12_expression 134 = .ok (.aload_n 0, 1) := by decide +kernel
theorem dX12_expression_135 : decode cX12_expression 135 = .ok (.iload 5, 2) := by decide +kernel
theorem dX12_expression_137 : decode cX12_expression 137 = .ok (.iload 7, 2) := by decide +kernel
theorem dX12_expression_139 : decode cX12_expression 139 = .ok (.aload_n 0, 1) := by decide +kernel
theorem dX12_expression_140 : decode cX12_expression 140 = .ok (.getfield 282, 3) := by decide +kernel
theorem dX12_expression_143 : decode cX12_expression 143 = .ok (.bipush 120, 2) := by decide +kernel
theorem dX12_expression_145 : decode cX12_expression 145 = .ok (.if_icmp .ge 14, 3) := by decide +kernel
theorem dX12_expression_148 : decode cX12_expression 148 = .ok (.iload 8, 2) := by decide +kernel
theorem dX12_expression_150 : decode cX12_expression 150 = .ok (.bipush 12, 2) := by decide +kernel
theorem dX12_expression_152 : decode cX12_expression 152 = .ok (.if_icmp .gt 7, 3) := by decide +kernel
theorem dX12_expression_155 : decode cX12_expression 155 = .ok (.iconst 1, 1) := by decide +kernel
theorem dX12_expression_156 : decode cX12_expression 156 = .ok (.goto 4, 3) := by decide +kernel
theorem dX12_expression_160 : decode cX12_expression 160 = .ok (.invokevirtual 298, 3) := by decide +kernel
theorem dX12_expression_163 : decode cX12_expression 163 = .ok (.ifCond .ne 5, 3) := by decide +kernel
theorem dX12_expression_166 : decode cX12_expression 166 = .ok (.iconst 0, 1) := by decide +kernel
theorem dX12_expression_167 : decode cX12_expression 167 = .ok (.ireturn, 1) := by decide +kernel
theorem dX12_unit_0 : decode cX12_unit 0 = .ok (.aload_n 0, 1) := by decide +kernel
theorem dX12_unit_1 : decode cX12_unit 1 = .ok (.aload_n 0, 1) := by decide +kernel
theorem dX12_unit_2 : decode cX12_unit 2 = .ok (.getfield 285, 3) := by decide +kernel
theorem dX12_unit_5 : decode cX12_unit 5 = .ok (.bipush 8, 2) := by decide +kernel
theorem dX12_unit_7 : decode cX12_unit 7 = .ok (.if_icmp .ge 7, 3) := by decide +kernel
theorem dX12_unit_10 : decode cX12_unit 10 = .ok (.iconst 1, 1) := by decide +kernel
theorem dX12_unit_11 : decode cX12_unit 11 = .ok (.goto 4, 3) := by decide +kernel
theorem dX12_unit_15 : decode cX12_unit 15 = .ok (.iconst 1, 1) := by decide +kernel
theorem dX12_unit_16 : decode cX12_unit 16 = .ok (.iconst 1, 1) := by decide +kernel
theorem dX12_unit_17 : decode cX12_unit 17 = .ok (.invokevirtual 298, 3) := by decide +kernel
theorem dX12_unit_20 : decode cX12_unit 20 = .ok (.ifCond .ne 5, 3) := by decide +kernel
theorem dX12_unit_25 : decode cX12_unit 25 = .ok (.aload_n 0, 1) := by decide +kernel
theorem dX12_unit_26 : decode cX12_unit 26 = .ok (.getfield 40, 3) := by decide +kernel
theorem dX12_unit_29 : decode cX12_unit 29 = .ok (.aload_n 0, 1) := by decide +kernel
theorem dX12_unit_30 : decode cX12_unit 30 = .ok (.getfield 285, 3) := by decide +kernel
theorem dX12_unit_33 : decode cX12_unit 33 = .ok (.iconst 1, 1) := by decide +kernel
theorem dX12_unit_34 : decode cX12_unit 34 = .ok (.iastore, 1) := by decide +kernel
theorem dX12_unit_35 : decode cX12_unit 35 = .ok (.aload_n 0, 1) := by decide +kernel
theorem dX12_unit_36 : decode cX12_unit 36 = .ok (.dup, 1) := by decide +kernel
theorem dX12_unit_37 : decode cX12_unit 37 = .ok (.getfield 285, 3) := by decide +kernel
theorem dX12_unit_40 : decode cX12_unit 40 = .ok (.iconst 1, 1) := by decide +kernel
theorem dX12_unit_41 : decode cX12_unit 41 = .ok (.iadd, 1) := by decide +kernel
theorem dX12_unit_42 : decode cX12_unit 42 = .ok (.putfield 285, 3) := by decide +kernel
theorem dX12_unit_45 : decode cX12_unit 45 = .ok (.aload_n 0, 1) := by decide +kernel
theorem dX12_unit_46 : decode cX12_unit 46 = .ok (.getfield 285, 3) := by decide +kernel
theorem dX12_unit_49 : decode cX12_unit 49 = .ok (.iconst 1, 1) := by decide +kernel
theorem dX12_unit_50 : decode cX12_unit 50 = .ok (.isub, 1) := by decide +kernel
theorem dX12_unit_51 : decode cX12_unit 51 = .ok (.ireturn, 1) := by decide +kernel
theorem dX12_version_0 : decode cX12_version 0 = .ok (.aload_n 0, 1) := by decide +kernel
theorem dX12_version_1 : decode cX12_version 1 = .ok (.iload_n 1, 1) := by decide +kernel
theorem dX12_version_2 : decode cX12_version 2 = .ok (.invokevirtual 320, 3) := by decide +kernel
theorem dX12_version_5 : decode cX12_version 5 = .ok (.istore_n 2, 1) := by decide +kernel
theorem dX12_version_6 : decode cX12_version 6 = .ok (.aload_n 0, 1) := by decide +kernel
theorem dX12_version_7 : decode cX12_version 7 = .ok (.iload_n 2, 1) := by decide +kernel
theorem dX12_version_8 : decode cX12_version 8 = .ok (.iload_n 2, 1) := by decide +kernel
theorem dX12_version_9 : decode cX12_version 9 = .ok (.ifCond .eq 17, 3) := by decide +kernel
theorem dX12_version_26 : decode cX12_version 26 = .ok (.iconst 0, 1) := by decide +kernel
theorem dX12_version_27 : decode cX12_version 27 = .ok (.iconst 1, 1) := by decide +kernel
theorem dX12_version_28 : decode cX12_version 28 = .ok (.invokevirtual 298, 3) := by decide +kernel
theorem dX12_version_31 : decode cX12_version 31 = .ok (.ifCond .ne 5, 3) := by decide +kernel
theorem dX12_version_34 : decode cX12_version 34 = .ok (.iconst 0, 1) := by decide +kernel
theorem dX12_version_35 : decode cX12_version 35 = .ok (.ireturn, 1) := by decide +kernel
theorem dX12_setType_0 : decode cX12_setType 0 = .ok (.aload_n 0, 1) := by decide +kernel
theorem dX12_setType_1 : decode cX12_setType 1 = .ok (.aload_n 0, 1) := by decide +kernel
theorem dX12_setType_2 : decode cX12_setType 2 = .ok (.iload_n 1, 1) := by decide +kernel
theorem dX12_setType_3 : decode cX12_setType 3 = .ok (.invokevirtual 320, 3) := by decide +kernel
theorem dX12_setType_6 : decode cX12_setType 6 = .ok (.ifCond .eq 26, 3) := by decide +kernel
theorem dX12_setType_32 : decode cX12_setType 32 = .ok (.iconst 0, 1) := by decide +kernel
theorem dX12_setType_33 : decode cX12_setType 33 = .ok (.iload_n 2, 1) := by decide +kernel
theorem dX12_setType_34 : decode cX12_setType 34 = .ok (.invokestatic 291, 3) := by decide +kernel
theorem dX12_setType_37 : decode cX12_setType 37 = .ok (.iconst 1, 1) := by decide +kernel
theorem dX12_setType_38 : decode cX12_setType 38 = .ok (.invokevirtual 298, 3) := by decide +kernel
theorem dX12_setType_41 : decode cX12_setType 41 = .ok (.ifCond .eq 19, 3) := by decide +kernel
theorem dX12_setType_60 : decode cX12_setType 60 = .ok (.return_, 1) := by decide +kernel
theorem dX12_setValue_0 : decode cX12_setValue 0 = .ok (.aload_n 0, 1) := by decide +kernel
theorem dX12_setValue_1 : decode cX12_setValue 1 = .ok (.iload_n 1, 1) := by decide +kernel
theorem dX12_setValue_2 : decode cX12_setValue 2 = .ok (.invokevirtual 320, 3) := by decide +kernel
theorem dX12_setValue_5 : decode cX12_setValue 5 = .ok (.ifCond .eq 30, 3) := by decide +kernel
theorem dX12_setValue_35 : decode cX12_setValue 35 = .ok (.iconst 0, 1) := by decide +kernel
theorem dX12_setValue_36 : decode cX12_setValue 36 = .ok (.istore 6, 2) := by decide +kernel
theorem dX12_setValue_38 : decode cX12_setValue 38 = .ok (.iload_n 2, 1) := by decide +kernel
theorem dX12_setValue_39 : decode cX12_setValue 39 = .ok (.invokestatic 302, 3) := by decide +kernel
theorem dX12_setValue_42 : decode cX12_setValue 42 = .ok (.ifCond .eq 35, 3) := by decide +kernel
theorem dX12_setValue_45 : decode cX12_setValue 45 = .ok (.iload 5, 2) := by decide +kernel
theorem dX12_setValue_47 : decode cX12_setValue 47 = .ok (.iconst 0, 1) := by decide +kernel
theorem dX12_setValue_48 : decode cX12_setValue 48 = .ok (.bipush 7, 2) := by decide +kernel
theorem dX12_setValue_50 : decode cX12_setValue 50 = .ok (.invokestatic 278, 3) := by decide +kernel
theorem dX12_setValue_53 : decode cX12_setValue 53 = .ok (.ifCond .eq 24, 3) := by decide +kernel
theorem dX12_setValue_56 : decode cX12_setValue 56 = .ok (.iload 4, 2) := by decide +kernel
theorem dX12_setValue_58 : decode cX12_setValue 58 = .ok (.iconst (-1), 1) := by decide +kernel
theorem dX12_setValue_59 : decode cX12_setValue 59 = .ok (.if_icmp .ne 14, 3) := by decide +kernel
theorem dX12_setValue_62 : decode cX12_setValue 62 = .ok (.iload 5, 2) := by decide +kernel
theorem dX12_setValue_64 : decode cX12_setValue 64 = .ok (.ifCond .eq 9, 3) := by decide +kernel
theorem dX12_setValue_67 : decode cX12_setValue 67 = .ok (.iload 5, 2) := by decide +kernel
theorem dX12_setValue_69 : decode cX12_setValue 69 = .ok (.iconst 4, 1) := by decide +kernel
theorem dX12_setValue_70 : decode cX12_setValue 70 = .ok (.if_icmp .ne 7, 3) := by decide +kernel
theorem dX12_setValue_73 : decode cX12_setValue 73 = .ok (.iconst 1, 1) := by decide +kernel
theorem dX12_setValue_74 : decode cX12_setValue 74 = .ok (.goto 4, 3) := by decide +kernel
theorem dX12_setValue_77 : decode cX12_setValue 77 = .ok (.iconst 0, 1) := by decide +kernel
theorem dX12_setValue_78 : decode cX12_setValue 78 = .ok (.istore 7, 2) := by decide +kernel
theorem dX12_setValue_80 : decode cX12_setValue 80 = .ok (.aload_n 0, 1) := by decide +kernel
theorem dX12_setValue_81 : decode cX12_setValue 81 = .ok (.iload 6, 2) := by decide +kernel
theorem dX12_setValue_83 : decode cX12_setValue 83 = .ok (.iload 7, 2) := by decide +kernel
theorem dX12_setValue_85 : decode cX12_setValue 85 = .ok (.iconst 1, 1) := by decide +kernel
theorem dX12_setValue_86 : decode cX12_setValue 86 = .ok (.invokevirtual 298, 3) := by decide +kernel
theorem dX12_setValue_89 : decode cX12_setValue 89 = .ok (.ifCond .eq 41, 3) := by decide +kernel
theorem dX12_setValue_130 : decode cX12_setValue 130 = .ok (.return_, 1) := by decide +kernel
theorem dX12_remove_0 : decode cX12_remove 0 = .ok (.aload_n 0, 1) := by decide +kernel
theorem dX12_remove_1 : decode cX12_remove 1 = .ok (.aload_n 0, 1) := by decide +kernel
theorem dX12_remove_2 : decode cX12_remove 2 = .ok (.iload_n 1, 1) := by decide +kernel
theorem dX12_remove_3 : decode cX12_remove 3 = .ok (.invokevirtual 320, 3) := by decide +kernel
theorem dX12_remove_6 : decode cX12_remove 6 = .ok (.iload_n 2, 1) := by decide +kernel
theorem dX12_remove_7 : decode cX12_remove 7 = .ok (.invokestatic 302, 3) := by decide +kernel
theorem dX12_remove_10 : decode cX12_remove 10 = .ok (.iconst 1, 1) := by decide +kernel
theorem dX12_remove_11 : decode cX12_remove 11 = .ok (.invokevirtual 298, 3) := by decide +kernel
theorem dX12_remove_14 : decode cX12_remove 14 = .ok (.ifCond .ne 5, 3) := by decide +kernel
theorem dX12_remove_17 : decode cX12_remove 17 = .ok (.iconst 0, 1) := by decide +kernel
theorem dX12_remove_18 : decode cX12_remove 18 = .ok (.ireturn, 1) := by decide +kernel
theorem dX12_unitNode_0 : decode cX12_unitNode 0 = .ok (.aload_n 0, 1) := by decide +kernel
theorem dX12_unitNode_1 : decode cX12_unitNode 1 = .ok (.iload_n 1, 1) := by decide +kernel
theorem dX12_unitNode_2 : decode cX12_unitNode 2 = .ok (.invokevirtual 320, 3) := by decide +kernel
theorem dX12_unitNode_5 : decode cX12_unitNode 5 = .ok (.ifCond .eq 28, 3) := by decide +kernel
theorem dX12_unitNode_33 : decode cX12_unitNode 33 = .ok (.iconst 0, 1) := by decide +kernel
theorem dX12_unitNode_34 : decode cX12_unitNode 34 = .ok (.istore_n 3, 1) := by decide +kernel
theorem dX12_unitNode_35 : decode cX12_unitNode 35 = .ok (.aload_n 0, 1) := by decide +kernel
theorem dX12_unitNode_36 : decode cX12_unitNode 36 = .ok (.iload_n 3, 1) := by decide +kernel
theorem dX12_unitNode_37 : decode cX12_unitNode 37 = .ok (.aload_n 0, 1) := by decide +kernel
theorem dX12_unitNode_38 : decode cX12_unitNode 38 = .ok (.getfield 288, 3) := by decide +kernel
theorem dX12_unitNode_41 : decode cX12_unitNode 41 = .ok (.bipush 40, 2) := by decide +kernel
theorem dX12_unitNode_43 : decode cX12_unitNode 43 = .ok (.if_icmp .ge 7, 3) := by decide +kernel
theorem dX12_unitNode_46 : decode cX12_unitNode 46 = .ok (.iconst 1, 1) := by decide +kernel
theorem dX12_unitNode_47 : decode cX12_unitNode 47 = .ok (.goto 4, 3) := by decide +kernel
theorem dX12_unitNode_51 : decode cX12_unitNode 51 = .ok (.iconst 1, 1) := by decide +kernel
theorem dX12_unitNode_52 : decode cX12_unitNode 52 = .ok (.invokevirtual 298, 3) := by decide +kernel
theorem dX12_unitNode_55 : decode cX12_unitNode 55 = .ok (.ifCond .eq 16, 3) := by decide +kernel
theorem dX12_unitNode_71 : decode cX12_unitNode 71 = .ok (.iconst 0, 1) := by decide +kernel
theorem dX12_unitNode_72 : decode cX12_unitNode 72 = .ok (.ireturn, 1) := by decide +kernel
theorem dX12_node_0 : decode cX12_node 0 = .ok (.aload_n 0, 1) := by decide +kernel
theorem dX12_node_1 : decode cX12_node 1 = .ok (.iload_n 2, 1) := by decide +kernel
theorem dX12_node_2 : decode cX12_node 2 = .ok (.invokevirtual 330, 3) := by decide +kernel
theorem dX12_node_5 : decode cX12_node 5 = .ok (.ifCond .eq 15, 3) := by decide +kernel
theorem dX12_node_20 : decode cX12_node 20 = .ok (.iconst 0, 1) := by decide +kernel
theorem dX12_node_21 : decode cX12_node 21 = .ok (.istore 5, 2) := by decide +kernel
theorem dX12_node_23 : decode cX12_node 23 = .ok (.iload 5, 2) := by decide +kernel
theorem dX12_node_25 : decode cX12_node 25 = .ok (.ifCond .eq 21, 3) := by decide +kernel
theorem dX12_node_46 : decode cX12_node 46 = .ok (.iconst 1, 1) := by decide +kernel
theorem dX12_node_47 : decode cX12_node 47 = .ok (.istore 6, 2) := by decide +kernel
theorem dX12_node_49 : decode cX12_node 49 = .ok (.aload_n 0, 1) := by decide +kernel
theorem dX12_node_50 : decode cX12_node 50 = .ok (.iload_n 1, 1) := by decide +kernel
theorem dX12_node_51 : decode cX12_node 51 = .ok (.iconst 0, 1) := by decide +kernel
theorem dX12_node_52 : decode cX12_node 52 = .ok (.iconst 2, 1) := by decide +kernel
theorem dX12_node_53 : decode cX12_node 53 = .ok (.invokestatic 278, 3) := by decide +kernel
theorem dX12_node_56 : decode cX12_node 56 = .ok (.iload 5, 2) := by decide +kernel
theorem dX12_node_58 : decode cX12_node 58 = .ok (.aload_n 0, 1) := by decide +kernel
theorem dX12_node_59 : decode cX12_node 59 = .ok (.getfield 288, 3) := by decide +kernel
theorem dX12_node_62 : decode cX12_node 62 = .ok (.bipush 40, 2) := by decide +kernel
theorem dX12_node_64 : decode cX12_node 64 = .ok (.if_icmp .ge 14, 3) := by decide +kernel
theorem dX12_node_67 : decode cX12_node 67 = .ok (.iload 6, 2) := by decide +kernel
theorem dX12_node_69 : decode cX12_node 69 = .ok (.bipush 24, 2) := by decide +kernel
theorem dX12_node_71 : decode cX12_node 71 = .ok (.if_icmp .gt 7, 3) := by decide +kernel
theorem dX12_node_74 : decode cX12_node 74 = .ok (.iconst 1, 1) := by decide +kernel
theorem dX12_node_75 : decode cX12_node 75 = .ok (.goto 4, 3) := by decide +kernel
theorem dX12_node_79 : decode cX12_node 79 = .ok (.invokevirtual 298, 3) := by decide +kernel
theorem dX12_node_82 : decode cX12_node 82 = .ok (.ifCond .ne 5, 3) := by decide +kernel
theorem dX12_node_85 : decode cX12_node 85 = .ok (.iconst 0, 1) := by decide +kernel
theorem dX12_node_86 : decode cX12_node 86 = .ok (.ireturn, 1) := by decide +kernel
theorem dX12_choose_0 : decode cX12_choose 0 = .ok (.aload_n 0, 1) := by decide +kernel
theorem dX12_choose_1 : decode cX12_choose 1 = .ok (.iload_n 1, 1) := by decide +kernel
theorem dX12_choose_2 : decode cX12_choose 2 = .ok (.invokevirtual 330, 3) := by decide +kernel
theorem dX12_choose_5 : decode cX12_choose 5 = .ok (.ifCond .eq 23, 3) := by decide +kernel
theorem dX12_choose_28 : decode cX12_choose 28 = .ok (.iconst 0, 1) := by decide +kernel
theorem dX12_choose_29 : decode cX12_choose 29 = .ok (.istore 4, 2) := by decide +kernel
theorem dX12_choose_31 : decode cX12_choose 31 = .ok (.iload 4, 2) := by decide +kernel
theorem dX12_choose_33 : decode cX12_choose 33 = .ok (.ifCond .eq 28, 3) := by decide +kernel
theorem dX12_choose_61 : decode cX12_choose 61 = .ok (.iconst 1, 1) := by decide +kernel
theorem dX12_choose_62 : decode cX12_choose 62 = .ok (.istore 5, 2) := by decide +kernel
theorem dX12_choose_64 : decode cX12_choose 64 = .ok (.aload_n 0, 1) := by decide +kernel
theorem dX12_choose_65 : decode cX12_choose 65 = .ok (.iload 4, 2) := by decide +kernel
theorem dX12_choose_67 : decode cX12_choose 67 = .ok (.aload_n 0, 1) := by decide +kernel
theorem dX12_choose_68 : decode cX12_choose 68 = .ok (.getfield 288, 3) := by decide +kernel
theorem dX12_choose_71 : decode cX12_choose 71 = .ok (.bipush 40, 2) := by decide +kernel
theorem dX12_choose_73 : decode cX12_choose 73 = .ok (.if_icmp .ge 14, 3) := by decide +kernel
theorem dX12_choose_76 : decode cX12_choose 76 = .ok (.iload 5, 2) := by decide +kernel
theorem dX12_choose_78 : decode cX12_choose 78 = .ok (.bipush 24, 2) := by decide +kernel
theorem dX12_choose_80 : decode cX12_choose 80 = .ok (.if_icmp .gt 7, 3) := by decide +kernel
theorem dX12_choose_83 : decode cX12_choose 83 = .ok (.iconst 1, 1) := by decide +kernel
theorem dX12_choose_84 : decode cX12_choose 84 = .ok (.goto 4, 3) := by decide +kernel
theorem dX12_choose_88 : decode cX12_choose 88 = .ok (.iconst 1, 1) := by decide +kernel
theorem dX12_choose_89 : decode cX12_choose 89 = .ok (.invokevirtual 298, 3) := by decide +kernel
theorem dX12_choose_92 : decode cX12_choose 92 = .ok (.ifCond .eq 17, 3) := by decide +kernel
theorem dX12_choose_109 : decode cX12_choose 109 = .ok (.iconst 0, 1) := by decide +kernel
theorem dX12_choose_110 : decode cX12_choose 110 = .ok (.ireturn, 1) := by decide +kernel
theorem dX12_rename_0 : decode cX12_rename 0 = .ok (.aload_n 0, 1) := by decide +kernel
theorem dX12_rename_1 : decode cX12_rename 1 = .ok (.iload_n 1, 1) := by decide +kernel
theorem dX12_rename_2 : decode cX12_rename 2 = .ok (.invokevirtual 330, 3) := by decide +kernel
theorem dX12_rename_5 : decode cX12_rename 5 = .ok (.istore 4, 2) := by decide +kernel
theorem dX12_rename_7 : decode cX12_rename 7 = .ok (.iload_n 2, 1) := by decide +kernel
theorem dX12_rename_8 : decode cX12_rename 8 = .ok (.invokestatic 302, 3) := by decide +kernel
theorem dX12_rename_11 : decode cX12_rename 11 = .ok (.ifCond .eq 24, 3) := by decide +kernel
theorem dX12_rename_14 : decode cX12_rename 14 = .ok (.iload_n 3, 1) := by decide +kernel
theorem dX12_rename_15 : decode cX12_rename 15 = .ok (.iconst (-1), 1) := by decide +kernel
theorem dX12_rename_16 : decode cX12_rename 16 = .ok (.if_icmp .eq 10, 3) := by decide +kernel
theorem dX12_rename_19 : decode cX12_rename 19 = .ok (.iload_n 3, 1) := by decide +kernel
theorem dX12_rename_20 : decode cX12_rename 20 = .ok (.invokestatic 302, 3) := by decide +kernel
theorem dX12_rename_23 : decode cX12_rename 23 = .ok (.ifCond .eq 12, 3) := by decide +kernel
theorem dX12_rename_26 : decode cX12_rename 26 = .ok (.iload_n 2, 1) := by decide +kernel
theorem dX12_rename_27 : decode cX12_rename 27 = .ok (.iload_n 3, 1) := by decide +kernel
theorem dX12_rename_28 : decode cX12_rename 28 = .ok (.if_icmp .eq 7, 3) := by decide +kernel
theorem dX12_rename_31 : decode cX12_rename 31 = .ok (.iconst 1, 1) := by decide +kernel
theorem dX12_rename_32 : decode cX12_rename 32 = .ok (.goto 4, 3) := by decide +kernel
theorem dX12_rename_35 : decode cX12_rename 35 = .ok (.iconst 0, 1) := by decide +kernel
theorem dX12_rename_36 : decode cX12_rename 36 = .ok (.istore 5, 2) := by decide +kernel
theorem dX12_rename_38 : decode cX12_rename 38 = .ok (.iload 4, 2) := by decide +kernel
theorem dX12_rename_40 : decode cX12_rename 40 = .ok (.ifCond .eq 14, 3) := by decide +kernel
theorem dX12_rename_54 : decode cX12_rename 54 = .ok (.iconst 1, 1) := by decide +kernel
theorem dX12_rename_55 : decode cX12_rename 55 = .ok (.istore 6, 2) := by decide +kernel
theorem dX12_rename_57 : decode cX12_rename 57 = .ok (.aload_n 0, 1) := by decide +kernel
theorem dX12_rename_58 : decode cX12_rename 58 = .ok (.iload 4, 2) := by decide +kernel
theorem dX12_rename_60 : decode cX12_rename 60 = .ok (.iload 5, 2) := by decide +kernel
theorem dX12_rename_62 : decode cX12_rename 62 = .ok (.aload_n 0, 1) := by decide +kernel
theorem dX12_rename_63 : decode cX12_rename 63 = .ok (.getfield 288, 3) := by decide +kernel
theorem dX12_rename_66 : decode cX12_rename 66 = .ok (.bipush 40, 2) := by decide +kernel
theorem dX12_rename_68 : decode cX12_rename 68 = .ok (.if_icmp .ge 14, 3) := by decide +kernel
theorem dX12_rename_71 : decode cX12_rename 71 = .ok (.iload 6, 2) := by decide +kernel
theorem dX12_rename_73 : decode cX12_rename 73 = .ok (.bipush 24, 2) := by decide +kernel
theorem dX12_rename_75 : decode cX12_rename 75 = .ok (.if_icmp .gt 7, 3) := by decide +kernel
theorem dX12_rename_78 : decode cX12_rename 78 = .ok (.iconst 1, 1) := by decide +kernel
theorem dX12_rename_79 : decode cX12_rename 79 = .ok (.goto 4, 3) := by decide +kernel
theorem dX12_rename_83 : decode cX12_rename 83 = .ok (.invokevirtual 298, 3) := by decide +kernel
theorem dX12_rename_86 : decode cX12_rename 86 = .ok (.ifCond .ne 5, 3) := by decide +kernel
theorem dX12_rename_89 : decode cX12_rename 89 = .ok (.iconst 0, 1) := by decide +kernel
theorem dX12_rename_90 : decode cX12_rename 90 = .ok (.ireturn, 1) := by decide +kernel
theorem dX12_error_0 : decode cX12_error 0 = .ok (.aload_n 0, 1) := by decide +kernel
theorem dX12_error_1 : decode cX12_error 1 = .ok (.aload_n 0, 1) := by decide +kernel
theorem dX12_error_2 : decode cX12_error 2 = .ok (.iload_n 1, 1) := by decide +kernel
theorem dX12_error_3 : decode cX12_error 3 = .ok (.invokevirtual 330, 3) := by decide +kernel
theorem dX12_error_6 : decode cX12_error 6 = .ok (.iconst 1, 1) := by decide +kernel
theorem dX12_error_7 : decode cX12_error 7 = .ok (.iconst 1, 1) := by decide +kernel
theorem dX12_error_8 : decode cX12_error 8 = .ok (.invokevirtual 298, 3) := by decide +kernel
theorem dX12_error_11 : decode cX12_error 11 = .ok (.ifCond .ne 5, 3) := by decide +kernel
theorem dX12_error_14 : decode cX12_error 14 = .ok (.iconst 0, 1) := by decide +kernel
theorem dX12_error_15 : decode cX12_error 15 = .ok (.ireturn, 1) := by decide +kernel
theorem dX12_asks_0 : decode cX12_asks 0 = .ok (.aload_n 0, 1) := by decide +kernel
theorem dX12_asks_1 : decode cX12_asks 1 = .ok (.iload_n 1, 1) := by decide +kernel
theorem dX12_asks_2 : decode cX12_asks 2 = .ok (.invokevirtual 330, 3) := by decide +kernel
theorem dX12_asks_5 : decode cX12_asks 5 = .ok (.istore_n 3, 1) := by decide +kernel
theorem dX12_asks_6 : decode cX12_asks 6 = .ok (.aload_n 0, 1) := by decide +kernel
theorem dX12_asks_7 : decode cX12_asks 7 = .ok (.iload_n 3, 1) := by decide +kernel
theorem dX12_asks_8 : decode cX12_asks 8 = .ok (.iload_n 2, 1) := by decide +kernel
theorem dX12_asks_9 : decode cX12_asks 9 = .ok (.iload_n 3, 1) := by decide +kernel
theorem dX12_asks_10 : decode cX12_asks 10 = .ok (.ifCond .eq 15, 3) := by decide +kernel
theorem dX12_asks_25 : decode cX12_asks 25 = .ok (.iconst 0, 1) := by decide +kernel
theorem dX12_asks_26 : decode cX12_asks 26 = .ok (.invokevirtual 298, 3) := by decide +kernel
theorem dX12_asks_29 : decode cX12_asks 29 = .ok (.ireturn, 1) := by decide +kernel
theorem dX12_typeOf_0 : decode cX12_typeOf 0 = .ok (.aload_n 0, 1) := by decide +kernel
theorem dX12_typeOf_1 : decode cX12_typeOf 1 = .ok (.iload_n 1, 1) := by decide +kernel
theorem dX12_typeOf_2 : decode cX12_typeOf 2 = .ok (.iload_n 2, 1) := by decide +kernel
theorem dX12_typeOf_3 : decode cX12_typeOf 3 = .ok (.invokestatic 291, 3) := by decide +kernel
theorem dX12_typeOf_6 : decode cX12_typeOf 6 = .ok (.invokevirtual 484, 3) := by decide +kernel
theorem dX12_typeOf_9 : decode cX12_typeOf 9 = .ok (.ifCond .ne 5, 3) := by decide +kernel
theorem dX12_typeOf_12 : decode cX12_typeOf 12 = .ok (.iconst 0, 1) := by decide +kernel
theorem dX12_typeOf_13 : decode cX12_typeOf 13 = .ok (.ireturn, 1) := by decide +kernel
theorem dX12_isSameType_0 : decode cX12_isSameType 0 = .ok (.aload_n 0, 1) := by decide +kernel
theorem dX12_isSameType_1 : decode cX12_isSameType 1 = .ok (.iload_n 1, 1) := by decide +kernel
theorem dX12_isSameType_2 : decode cX12_isSameType 2 = .ok (.invokevirtual 330, 3) := by decide +kernel
theorem dX12_isSameType_5 : decode cX12_isSameType 5 = .ok (.ifCond .eq 15, 3) := by decide +kernel
theorem dX12_isSameType_20 : decode cX12_isSameType 20 = .ok (.iconst 0, 1) := by decide +kernel
theorem dX12_isSameType_21 : decode cX12_isSameType 21 = .ok (.istore 5, 2) := by decide +kernel
theorem dX12_isSameType_23 : decode cX12_isSameType 23 = .ok (.iload 5, 2) := by decide +kernel
theorem dX12_isSameType_25 : decode cX12_isSameType 25 = .ok (.ifCond .eq 14, 3) := by decide +kernel
theorem dX12_isSameType_39 : decode cX12_isSameType 39 = .ok (.aload_n 0, 1) := by decide +kernel
theorem dX12_isSameType_40 : decode cX12_isSameType 40 = .ok (.iload 5, 2) := by decide +kernel
theorem dX12_isSameType_42 : decode cX12_isSameType 42 = .ok (.iload_n 2, 1) := by decide +kernel
theorem dX12_isSameType_43 : decode cX12_isSameType 43 = .ok (.invokestatic 291, 3) := by decide +kernel
theorem dX12_isSameType_46 : decode cX12_isSameType 46 = .ok (.ifCond .eq 15, 3) := by decide +kernel
theorem dX12_isSameType_49 : decode cX12_isSameType 49 = .ok (.iload 4, 2) := by decide +kernel
theorem dX12_isSameType_51 : decode cX12_isSameType 51 = .ok (.invokestatic 291, 3) := by decide +kernel
theorem dX12_isSameType_54 : decode cX12_isSameType 54 = .ok (.ifCond .eq 7, 3) := by decide +kernel
theorem dX12_isSameType_57 : decode cX12_isSameType 57 = .ok (.iconst 1, 1) := by decide +kernel
theorem dX12_isSameType_58 : decode cX12_isSameType 58 = .ok (.goto 4, 3) := by decide +kernel
theorem dX12_isSameType_61 : decode cX12_isSameType 61 = .ok (.iconst 0, 1) := by decide +kernel
theorem dX12_isSameType_62 : decode cX12_isSameType 62 = .ok (.iload 5, 2) := by decide +kernel
theorem dX12_isSameType_64 : decode cX12_isSameType 64 = .ok (.ifCond .eq 25, 3) := by decide +kernel
theorem dX12_isSameType_89 : decode cX12_isSameType 89 = .ok (.iconst 0, 1) := by decide +kernel
theorem dX12_isSameType_90 : decode cX12_isSameType 90 = .ok (.invokevirtual 298, 3) := by decide +kernel
theorem dX12_isSameType_93 : decode cX12_isSameType 93 = .ok (.ifCond .ne 5, 3) := by decide +kernel
theorem dX12_isSameType_96 : decode cX12_isSameType 96 = .ok (.iconst 0, 1) := by decide +kernel
theorem dX12_isSameType_97 : decode cX12_isSameType 97 = .ok (.ireturn, 1) := by decide +kernel
theorem dX12_valueOf_0 : decode cX12_valueOf 0 = .ok (.aload_n 0, 1) := by decide +kernel
theorem dX12_valueOf_1 : decode cX12_valueOf 1 = .ok (.iload_n 1, 1) := by decide +kernel
theorem dX12_valueOf_2 : decode cX12_valueOf 2 = .ok (.iload_n 2, 1) := by decide +kernel
theorem dX12_valueOf_3 : decode cX12_valueOf 3 = .ok (.invokestatic 302, 3) := by decide +kernel
theorem dX12_valueOf_6 : decode cX12_valueOf 6 = .ok (.invokevirtual 484, 3) := by decide +kernel
theorem dX12_valueOf_9 : decode cX12_valueOf 9 = .ok (.ifCond .eq 13, 3) := by decide +kernel
theorem dX12_valueOf_22 : decode cX12_valueOf 22 = .ok (.iconst 0, 1) := by decide +kernel
theorem dX12_valueOf_23 : decode cX12_valueOf 23 = .ok (.ireturn, 1) := by decide +kernel
theorem dX12_size_0 : decode cX12_size 0 = .ok (.aload_n 0, 1) := by decide +kernel
theorem dX12_size_1 : decode cX12_size 1 = .ok (.iload_n 1, 1) := by decide +kernel
theorem dX12_size_2 : decode cX12_size 2 = .ok (.iload_n 2, 1) := by decide +kernel
theorem dX12_size_3 : decode cX12_size 3 = .ok (.invokestatic 302, 3) := by decide +kernel
theorem dX12_size_6 : decode cX12_size 6 = .ok (.invokevirtual 484, 3) := by decide +kernel
theorem dX12_size_9 : decode cX12_size 9 = .ok (.ifCond .eq 13, 3) := by decide +kernel
theorem dX12_size_22 : decode cX12_size 22 = .ok (.iconst 0, 1) := by decide +kernel
theorem dX12_size_23 : decode cX12_size 23 = .ok (.goto 14, 3) := by decide +kernel
theorem dX12_size_37 : decode cX12_size 37 = .ok (.ireturn, 1) := by decide +kernel
theorem dX12_run_0 : decode cX12_run 0 = .ok (.aload_n 0, 1) := by decide +kernel
theorem dX12_run_1 : decode cX12_run 1 = .ok (.aload_n 0, 1) := by decide +kernel
theorem dX12_run_2 : decode cX12_run 2 = .ok (.iload_n 1, 1) := by decide +kernel
theorem dX12_run_3 : decode cX12_run 3 = .ok (.invokevirtual 330, 3) := by decide +kernel
theorem dX12_run_6 : decode cX12_run 6 = .ok (.iconst 1, 1) := by decide +kernel
theorem dX12_run_7 : decode cX12_run 7 = .ok (.iconst 1, 1) := by decide +kernel
theorem dX12_run_8 : decode cX12_run 8 = .ok (.invokevirtual 298, 3) := by decide +kernel
theorem dX12_run_11 : decode cX12_run 11 = .ok (.ifCond .ne 5, 3) := by decide +kernel
theorem dX12_run_14 : decode cX12_run 14 = .ok (.iconst 0, 1) := by decide +kernel
theorem dX12_run_15 : decode cX12_run 15 = .ok (.ireturn, 1) := by decide +kernel
theorem dX12_result_0 : decode cX12_result 0 = .ok (.iload_n 1, 1) := by decide +kernel
theorem dX12_result_1 : decode cX12_result 1 = .ok (.invokestatic 302, 3) := by decide +kernel
theorem dX12_result_4 : decode cX12_result 4 = .ok (.ifCond .eq 35, 3) := by decide +kernel
theorem dX12_result_7 : decode cX12_result 7 = .ok (.aload_n 0, 1) := by decide +kernel
theorem dX12_result_8 : decode cX12_result 8 = .ok (.getfield 591, 3) := by decide +kernel
theorem dX12_result_11 : decode cX12_result 11 = .ok (.ifCond .eq 28, 3) := by decide +kernel

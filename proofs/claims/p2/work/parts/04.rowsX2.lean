theorem dL_law_296 : decode cL_law 296 = .ok (.aload_n 1, 1) := by decide +kernel
theorem dL_law_297 : decode cL_law 297 = .ok (.aload_n 0, 1) := by decide +kernel
theorem dL_law_298 : decode cL_law 298 = .ok (.iload 4, 2) := by decide +kernel
theorem dL_law_300 : decode cL_law 300 = .ok (.iconst 1, 1) := by decide +kernel
theorem dL_law_301 : decode cL_law 301 = .ok (.iadd, 1) := by decide +kernel
theorem dL_law_302 : decode cL_law 302 = .ok (.iaload, 1) := by decide +kernel
theorem dL_law_303 : decode cL_law 303 = .ok (.aload_n 0, 1) := by decide +kernel
theorem dL_law_304 : decode cL_law 304 = .ok (.iload 4, 2) := by decide +kernel
theorem dL_law_306 : decode cL_law 306 = .ok (.iconst 2, 1) := by decide +kernel
theorem dL_law_307 : decode cL_law 307 = .ok (.iadd, 1) := by decide +kernel
theorem dL_law_308 : decode cL_law 308 = .ok (.iaload, 1) := by decide +kernel
theorem dL_law_309 : decode cL_law 309 = .ok (.aload_n 0, 1) := by decide +kernel
theorem dL_law_310 : decode cL_law 310 = .ok (.iload 4, 2) := by decide +kernel
theorem dL_law_312 : decode cL_law 312 = .ok (.iconst 3, 1) := by decide +kernel
theorem dL_law_313 : decode cL_law 313 = .ok (.iadd, 1) := by decide +kernel
theorem dL_law_314 : decode cL_law 314 = .ok (.iaload, 1) := by decide +kernel
theorem dL_law_315 : decode cL_law 315 = .ok (.aload_n 0, 1) := by decide +kernel
theorem dL_law_316 : decode cL_law 316 = .ok (.iload 4, 2) := by decide +kernel
theorem dL_law_318 : decode cL_law 318 = .ok (.iconst 4, 1) := by decide +kernel
theorem dL_law_319 : decode cL_law 319 = .ok (.iadd, 1) := by decide +kernel
theorem dL_law_320 : decode cL_law 320 = .ok (.iaload, 1) := by decide +kernel
theorem dL_law_321 : decode cL_law 321 = .ok (.aload_n 3, 1) := by decide +kernel
theorem dL_law_322 : decode cL_law 322 = .ok (.invokestatic 113, 3) := by decide +kernel
theorem dL_law_325 : decode cL_law 325 = .ok (.istore 5, 2) := by decide +kernel
theorem dL_law_327 : decode cL_law 327 = .ok (.aload_n 2, 1) := by decide +kernel
theorem dL_law_328 : decode cL_law 328 = .ok (.aload_n 0, 1) := by decide +kernel
theorem dL_law_329 : decode cL_law 329 = .ok (.iload 4, 2) := by decide +kernel
theorem dL_law_331 : decode cL_law 331 = .ok (.iconst 1, 1) := by decide +kernel
theorem dL_law_332 : decode cL_law 332 = .ok (.iadd, 1) := by decide +kernel
theorem dL_law_333 : decode cL_law 333 = .ok (.iaload, 1) := by decide +kernel
theorem dL_law_334 : decode cL_law 334 = .ok (.aload_n 0, 1) := by decide +kernel
theorem dL_law_335 : decode cL_law 335 = .ok (.iload 4, 2) := by decide +kernel
theorem dL_law_337 : decode cL_law 337 = .ok (.iconst 2, 1) := by decide +kernel
theorem dL_law_338 : decode cL_law 338 = .ok (.iadd, 1) := by decide +kernel
theorem dL_law_339 : decode cL_law 339 = .ok (.iaload, 1) := by decide +kernel
theorem dL_law_340 : decode cL_law 340 = .ok (.aload_n 0, 1) := by decide +kernel
theorem dL_law_341 : decode cL_law 341 = .ok (.iload 4, 2) := by decide +kernel
theorem dL_law_343 : decode cL_law 343 = .ok (.iconst 3, 1) := by decide +kernel
theorem dL_law_344 : decode cL_law 344 = .ok (.iadd, 1) := by decide +kernel
theorem dL_law_345 : decode cL_law 345 = .ok (.iaload, 1) := by decide +kernel
theorem dL_law_346 : decode cL_law 346 = .ok (.aload_n 0, 1) := by decide +kernel
theorem dL_law_347 : decode cL_law 347 = .ok (.iload 4, 2) := by decide +kernel
theorem dL_law_349 : decode cL_law 349 = .ok (.iconst 4, 1) := by decide +kernel
theorem dL_law_350 : decode cL_law 350 = .ok (.iadd, 1) := by decide +kernel
theorem dL_law_351 : decode cL_law 351 = .ok (.iaload, 1) := by decide +kernel
theorem dL_law_352 : decode cL_law 352 = .ok (.invokevirtual 116, 3) := by decide +kernel
theorem dL_law_355 : decode cL_law 355 = .ok (.istore 6, 2) := by decide +kernel
theorem dL_law_357 : decode cL_law 357 = .ok (.goto 864, 3) := by decide +kernel
theorem dL_law_360 : decode cL_law 360 = .ok (.aload_n 1, 1) := by decide +kernel
theorem dL_law_361 : decode cL_law 361 = .ok (.aload_n 3, 1) := by decide +kernel
theorem dL_law_362 : decode cL_law 362 = .ok (.invokestatic 117, 3) := by decide +kernel
theorem dL_law_365 : decode cL_law 365 = .ok (.istore 5, 2) := by decide +kernel
theorem dL_law_367 : decode cL_law 367 = .ok (.aload_n 2, 1) := by decide +kernel
theorem dL_law_368 : decode cL_law 368 = .ok (.invokevirtual 120, 3) := by decide +kernel
theorem dL_law_371 : decode cL_law 371 = .ok (.istore 6, 2) := by decide +kernel
theorem dL_law_373 : decode cL_law 373 = .ok (.goto 848, 3) := by decide +kernel
theorem dL_law_376 : decode cL_law 376 = .ok (.aload_n 1, 1) := by decide +kernel
theorem dL_law_377 : decode cL_law 377 = .ok (.aload_n 0, 1) := by decide +kernel
theorem dL_law_378 : decode cL_law 378 = .ok (.iload 4, 2) := by decide +kernel
theorem dL_law_380 : decode cL_law 380 = .ok (.iconst 1, 1) := by decide +kernel
theorem dL_law_381 : decode cL_law 381 = .ok (.iadd, 1) := by decide +kernel
theorem dL_law_382 : decode cL_law 382 = .ok (.iaload, 1) := by decide +kernel
theorem dL_law_383 : decode cL_law 383 = .ok (.aload_n 3, 1) := by decide +kernel
theorem dL_law_384 : decode cL_law 384 = .ok (.invokestatic 121, 3) := by decide +kernel
theorem dL_law_387 : decode cL_law 387 = .ok (.istore 5, 2) := by decide +kernel
theorem dL_law_389 : decode cL_law 389 = .ok (.aload_n 2, 1) := by decide +kernel
theorem dL_law_390 : decode cL_law 390 = .ok (.aload_n 0, 1) := by decide +kernel
theorem dL_law_391 : decode cL_law 391 = .ok (.iload 4, 2) := by decide +kernel
theorem dL_law_393 : decode cL_law 393 = .ok (.iconst 1, 1) := by decide +kernel
theorem dL_law_394 : decode cL_law 394 = .ok (.iadd, 1) := by decide +kernel
theorem dL_law_395 : decode cL_law 395 = .ok (.iaload, 1) := by decide +kernel
theorem dL_law_396 : decode cL_law 396 = .ok (.invokevirtual 124, 3) := by decide +kernel
theorem dL_law_399 : decode cL_law 399 = .ok (.istore 6, 2) := by decide +kernel
theorem dL_law_401 : decode cL_law 401 = .ok (.goto 820, 3) := by decide +kernel
theorem dL_law_404 : decode cL_law 404 = .ok (.aload_n 1, 1) := by decide +kernel
theorem dL_law_405 : decode cL_law 405 = .ok (.aload_n 0, 1) := by decide +kernel
theorem dL_law_406 : decode cL_law 406 = .ok (.iload 4, 2) := by decide +kernel
theorem dL_law_408 : decode cL_law 408 = .ok (.iconst 1, 1) := by decide +kernel
theorem dL_law_409 : decode cL_law 409 = .ok (.iadd, 1) := by decide +kernel
theorem dL_law_410 : decode cL_law 410 = .ok (.iaload, 1) := by decide +kernel
theorem dL_law_411 : decode cL_law 411 = .ok (.aload_n 0, 1) := by decide +kernel
theorem dL_law_412 : decode cL_law 412 = .ok (.iload 4, 2) := by decide +kernel
theorem dL_law_414 : decode cL_law 414 = .ok (.iconst 2, 1) := by decide +kernel
theorem dL_law_415 : decode cL_law 415 = .ok (.iadd, 1) := by decide +kernel
theorem dL_law_416 : decode cL_law 416 = .ok (.iaload, 1) := by decide +kernel
theorem dL_law_417 : decode cL_law 417 = .ok (.aload_n 0, 1) := by decide +kernel
theorem dL_law_418 : decode cL_law 418 = .ok (.iload 4, 2) := by decide +kernel
theorem dL_law_420 : decode cL_law 420 = .ok (.iconst 3, 1) := by decide +kernel
theorem dL_law_421 : decode cL_law 421 = .ok (.iadd, 1) := by decide +kernel
theorem dL_law_422 : decode cL_law 422 = .ok (.iaload, 1) := by decide +kernel
theorem dL_law_423 : decode cL_law 423 = .ok (.invokestatic 125, 3) := by decide +kernel
theorem dL_law_426 : decode cL_law 426 = .ok (.istore 5, 2) := by decide +kernel
theorem dL_law_428 : decode cL_law 428 = .ok (.aload_n 2, 1) := by decide +kernel
theorem dL_law_429 : decode cL_law 429 = .ok (.aload_n 0, 1) := by decide +kernel
theorem dL_law_430 : decode cL_law 430 = .ok (.iload 4, 2) := by decide +kernel
theorem dL_law_432 : decode cL_law 432 = .ok (.iconst 1, 1) := by decide +kernel
theorem dL_law_433 : decode cL_law 433 = .ok (.iadd, 1) := by decide +kernel
theorem dL_law_434 : decode cL_law 434 = .ok (.iaload, 1) := by decide +kernel
theorem dL_law_435 : decode cL_law 435 = .ok (.aload_n 0, 1) := by decide +kernel
theorem dL_law_436 : decode cL_law 436 = .ok (.iload 4, 2) := by decide +kernel
theorem dL_law_438 : decode cL_law 438 = .ok (.iconst 2, 1) := by decide +kernel
theorem dL_law_439 : decode cL_law 439 = .ok (.iadd, 1) := by decide +kernel
theorem dL_law_440 : decode cL_law 440 = .ok (.iaload, 1) := by decide +kernel
theorem dL_law_441 : decode cL_law 441 = .ok (.aload_n 0, 1) := by decide +kernel
theorem dL_law_442 : decode cL_law 442 = .ok (.iload 4, 2) := by decide +kernel
theorem dL_law_444 : decode cL_law 444 = .ok (.iconst 3, 1) := by decide +kernel
theorem dL_law_445 : decode cL_law 445 = .ok (.iadd, 1) := by decide +kernel
theorem dL_law_446 : decode cL_law 446 = .ok (.iaload, 1) := by decide +kernel
theorem dL_law_447 : decode cL_law 447 = .ok (.invokevirtual 128, 3) := by decide +kernel
theorem dL_law_450 : decode cL_law 450 = .ok (.goto 771, 3) := by decide +kernel
theorem dL_law_453 : decode cL_law 453 = .ok (.aload_n 1, 1) := by decide +kernel
theorem dL_law_454 : decode cL_law 454 = .ok (.aload_n 0, 1) := by decide +kernel
theorem dL_law_455 : decode cL_law 455 = .ok (.iload 4, 2) := by decide +kernel
theorem dL_law_457 : decode cL_law 457 = .ok (.iconst 1, 1) := by decide +kernel
theorem dL_law_458 : decode cL_law 458 = .ok (.iadd, 1) := by decide +kernel
theorem dL_law_459 : decode cL_law 459 = .ok (.iaload, 1) := by decide +kernel
theorem dL_law_460 : decode cL_law 460 = .ok (.aload_n 0, 1) := by decide +kernel
theorem dL_law_461 : decode cL_law 461 = .ok (.iload 4, 2) := by decide +kernel
theorem dL_law_463 : decode cL_law 463 = .ok (.iconst 2, 1) := by decide +kernel
theorem dL_law_464 : decode cL_law 464 = .ok (.iadd, 1) := by decide +kernel
theorem dL_law_465 : decode cL_law 465 = .ok (.iaload, 1) := by decide +kernel
theorem dL_law_466 : decode cL_law 466 = .ok (.aload_n 0, 1) := by decide +kernel
theorem dL_law_467 : decode cL_law 467 = .ok (.iload 4, 2) := by decide +kernel
theorem dL_law_469 : decode cL_law 469 = .ok (.iconst 3, 1) := by decide +kernel
theorem dL_law_470 : decode cL_law 470 = .ok (.iadd, 1) := by decide +kernel
theorem dL_law_471 : decode cL_law 471 = .ok (.iaload, 1) := by decide +kernel
theorem dL_law_472 : decode cL_law 472 = .ok (.aload_n 0, 1) := by decide +kernel
theorem dL_law_473 : decode cL_law 473 = .ok (.iload 4, 2) := by decide +kernel
theorem dL_law_475 : decode cL_law 475 = .ok (.iconst 4, 1) := by decide +kernel
theorem dL_law_476 : decode cL_law 476 = .ok (.iadd, 1) := by decide +kernel
theorem dL_law_477 : decode cL_law 477 = .ok (.iaload, 1) := by decide +kernel
theorem dL_law_478 : decode cL_law 478 = .ok (.aload_n 0, 1) := by decide +kernel
theorem dL_law_479 : decode cL_law 479 = .ok (.iload 4, 2) := by decide +kernel
theorem dL_law_481 : decode cL_law 481 = .ok (.iconst 5, 1) := by decide +kernel
theorem dL_law_482 : decode cL_law 482 = .ok (.iadd, 1) := by decide +kernel
theorem dL_law_483 : decode cL_law 483 = .ok (.iaload, 1) := by decide +kernel
theorem dL_law_484 : decode cL_law 484 = .ok (.invokestatic 129, 3) := by decide +kernel
theorem dL_law_487 : decode cL_law 487 = .ok (.istore 5, 2) := by decide +kernel
theorem dL_law_489 : decode cL_law 489 = .ok (.aload_n 2, 1) := by decide +kernel
theorem dL_law_490 : decode cL_law 490 = .ok (.aload_n 0, 1) := by decide +kernel
theorem dL_law_491 : decode cL_law 491 = .ok (.iload 4, 2) := by decide +kernel
theorem dL_law_493 : decode cL_law 493 = .ok (.iconst 1, 1) := by decide +kernel
theorem dL_law_494 : decode cL_law 494 = .ok (.iadd, 1) := by decide +kernel
theorem dL_law_495 : decode cL_law 495 = .ok (.iaload, 1) := by decide +kernel
theorem dL_law_496 : decode cL_law 496 = .ok (.aload_n 0, 1) := by decide +kernel
theorem dL_law_497 : decode cL_law 497 = .ok (.iload 4, 2) := by decide +kernel
theorem dL_law_499 : decode cL_law 499 = .ok (.iconst 2, 1) := by decide +kernel
theorem dL_law_500 : decode cL_law 500 = .ok (.iadd, 1) := by decide +kernel
theorem dL_law_501 : decode cL_law 501 = .ok (.iaload, 1) := by decide +kernel
theorem dL_law_502 : decode cL_law 502 = .ok (.aload_n 0, 1) := by decide +kernel
theorem dL_law_503 : decode cL_law 503 = .ok (.iload 4, 2) := by decide +kernel
theorem dL_law_505 : decode cL_law 505 = .ok (.iconst 3, 1) := by decide +kernel
theorem dL_law_506 : decode cL_law 506 = .ok (.iadd, 1) := by decide +kernel
theorem dL_law_507 : decode cL_law 507 = .ok (.iaload, 1) := by decide +kernel
theorem dL_law_508 : decode cL_law 508 = .ok (.aload_n 0, 1) := by decide +kernel
theorem dL_law_509 : decode cL_law 509 = .ok (.iload 4, 2) := by decide +kernel
theorem dL_law_511 : decode cL_law 511 = .ok (.iconst 4, 1) := by decide +kernel
theorem dL_law_512 : decode cL_law 512 = .ok (.iadd, 1) := by decide +kernel
theorem dL_law_513 : decode cL_law 513 = .ok (.iaload, 1) := by decide +kernel
theorem dL_law_514 : decode cL_law 514 = .ok (.aload_n 0, 1) := by decide +kernel
theorem dL_law_515 : decode cL_law 515 = .ok (.iload 4, 2) := by decide +kernel
theorem dL_law_517 : decode cL_law 517 = .ok (.iconst 5, 1) := by decide +kernel
theorem dL_law_518 : decode cL_law 518 = .ok (.iadd, 1) := by decide +kernel
theorem dL_law_519 : decode cL_law 519 = .ok (.iaload, 1) := by decide +kernel
theorem dL_law_520 : decode cL_law 520 = .ok (.invokevirtual 132, 3) := by decide +kernel
theorem dL_law_523 : decode cL_law 523 = .ok (.goto 698, 3) := by decide +kernel
theorem dL_law_526 : decode cL_law 526 = .ok (.aload_n 1, 1) := by decide +kernel
theorem dL_law_527 : decode cL_law 527 = .ok (.aload_n 0, 1) := by decide +kernel
theorem dL_law_528 : decode cL_law 528 = .ok (.iload 4, 2) := by decide +kernel
theorem dL_law_530 : decode cL_law 530 = .ok (.iconst 1, 1) := by decide +kernel
theorem dL_law_531 : decode cL_law 531 = .ok (.iadd, 1) := by decide +kernel
theorem dL_law_532 : decode cL_law 532 = .ok (.iaload, 1) := by decide +kernel
theorem dL_law_533 : decode cL_law 533 = .ok (.aload_n 0, 1) := by decide +kernel
theorem dL_law_534 : decode cL_law 534 = .ok (.iload 4, 2) := by decide +kernel
theorem dL_law_536 : decode cL_law 536 = .ok (.iconst 2, 1) := by decide +kernel
theorem dL_law_537 : decode cL_law 537 = .ok (.iadd, 1) := by decide +kernel
theorem dL_law_538 : decode cL_law 538 = .ok (.iaload, 1) := by decide +kernel
theorem dL_law_539 : decode cL_law 539 = .ok (.aload_n 3, 1) := by decide +kernel
theorem dL_law_540 : decode cL_law 540 = .ok (.invokestatic 133, 3) := by decide +kernel
theorem dL_law_543 : decode cL_law 543 = .ok (.istore 5, 2) := by decide +kernel
theorem dL_law_545 : decode cL_law 545 = .ok (.aload_n 2, 1) := by decide +kernel
theorem dL_law_546 : decode cL_law 546 = .ok (.aload_n 0, 1) := by decide +kernel
theorem dL_law_547 : decode cL_law 547 = .ok (.iload 4, 2) := by decide +kernel
theorem dL_law_549 : decode cL_law 549 = .ok (.iconst 1, 1) := by decide +kernel
theorem dL_law_550 : decode cL_law 550 = .ok (.iadd, 1) := by decide +kernel
theorem dL_law_551 : decode cL_law 551 = .ok (.iaload, 1) := by decide +kernel
theorem dL_law_552 : decode cL_law 552 = .ok (.aload_n 0, 1) := by decide +kernel
theorem dL_law_553 : decode cL_law 553 = .ok (.iload 4, 2) := by decide +kernel
theorem dL_law_555 : decode cL_law 555 = .ok (.iconst 2, 1) := by decide +kernel
theorem dL_law_556 : decode cL_law 556 = .ok (.iadd, 1) := by decide +kernel
theorem dL_law_557 : decode cL_law 557 = .ok (.iaload, 1) := by decide +kernel
theorem dL_law_558 : decode cL_law 558 = .ok (.invokevirtual 136, 3) := by decide +kernel
theorem dL_law_561 : decode cL_law 561 = .ok (.istore 6, 2) := by decide +kernel
theorem dL_law_563 : decode cL_law 563 = .ok (.goto 658, 3) := by decide +kernel
theorem dL_law_566 : decode cL_law 566 = .ok (.aload_n 1, 1) := by decide +kernel
theorem dL_law_567 : decode cL_law 567 = .ok (.aload_n 0, 1) := by decide +kernel
theorem dL_law_568 : decode cL_law 568 = .ok (.iload 4, 2) := by decide +kernel
theorem dL_law_570 : decode cL_law 570 = .ok (.iconst 1, 1) := by decide +kernel
theorem dL_law_571 : decode cL_law 571 = .ok (.iadd, 1) := by decide +kernel
theorem dL_law_572 : decode cL_law 572 = .ok (.iaload, 1) := by decide +kernel
theorem dL_law_573 : decode cL_law 573 = .ok (.aload_n 0, 1) := by decide +kernel
theorem dL_law_574 : decode cL_law 574 = .ok (.iload 4, 2) := by decide +kernel
theorem dL_law_576 : decode cL_law 576 = .ok (.iconst 2, 1) := by decide +kernel
theorem dL_law_577 : decode cL_law 577 = .ok (.iadd, 1) := by decide +kernel
theorem dL_law_578 : decode cL_law 578 = .ok (.iaload, 1) := by decide +kernel
theorem dL_law_579 : decode cL_law 579 = .ok (.aload_n 3, 1) := by decide +kernel
theorem dL_law_580 : decode cL_law 580 = .ok (.invokestatic 137, 3) := by decide +kernel
theorem dL_law_583 : decode cL_law 583 = .ok (.istore 5, 2) := by decide +kernel
theorem dL_law_585 : decode cL_law 585 = .ok (.aload_n 2, 1) := by decide +kernel
theorem dL_law_586 : decode cL_law 586 = .ok (.aload_n 0, 1) := by decide +kernel
theorem dL_law_587 : decode cL_law 587 = .ok (.iload 4, 2) := by decide +kernel
theorem dL_law_589 : decode cL_law 589 = .ok (.iconst 1, 1) := by decide +kernel
theorem dL_law_590 : decode cL_law 590 = .ok (.iadd, 1) := by decide +kernel
theorem dL_law_591 : decode cL_law 591 = .ok (.iaload, 1) := by decide +kernel
theorem dL_law_592 : decode cL_law 592 = .ok (.aload_n 0, 1) := by decide +kernel
theorem dL_law_593 : decode cL_law 593 = .ok (.iload 4, 2) := by decide +kernel
theorem dL_law_595 : decode cL_law 595 = .ok (.iconst 2, 1) := by decide +kernel
theorem dL_law_596 : decode cL_law 596 = .ok (.iadd, 1) := by decide +kernel
theorem dL_law_597 : decode cL_law 597 = .ok (.iaload, 1) := by decide +kernel
theorem dL_law_598 : decode cL_law 598 = .ok (.invokevirtual 139, 3) := by decide +kernel
theorem dL_law_601 : decode cL_law 601 = .ok (.istore 6, 2) := by decide +kernel
theorem dL_law_603 : decode cL_law 603 = .ok (.goto 618, 3) := by decide +kernel
theorem dL_law_606 : decode cL_law 606 = .ok (.aload_n 1, 1) := by decide +kernel
theorem dL_law_607 : decode cL_law 607 = .ok (.aload_n 0, 1) := by decide +kernel
theorem dL_law_608 : decode cL_law 608 = .ok (.iload 4, 2) := by decide +kernel
theorem dL_law_610 : decode cL_law 610 = .ok (.iconst 1, 1) := by decide +kernel
theorem dL_law_611 : decode cL_law 611 = .ok (.iadd, 1) := by decide +kernel
theorem dL_law_612 : decode cL_law 612 = .ok (.iaload, 1) := by decide +kernel
theorem dL_law_613 : decode cL_law 613 = .ok (.aload_n 0, 1) := by decide +kernel
theorem dL_law_614 : decode cL_law 614 = .ok (.iload 4, 2) := by decide +kernel
theorem dL_law_616 : decode cL_law 616 = .ok (.iconst 2, 1) := by decide +kernel
theorem dL_law_617 : decode cL_law 617 = .ok (.iadd, 1) := by decide +kernel
theorem dL_law_618 : decode cL_law 618 = .ok (.iaload, 1) := by decide +kernel
theorem dL_law_619 : decode cL_law 619 = .ok (.aload_n 0, 1) := by decide +kernel
theorem dL_law_620 : decode cL_law 620 = .ok (.iload 4, 2) := by decide +kernel
theorem dL_law_622 : decode cL_law 622 = .ok (.iconst 3, 1) := by decide +kernel
theorem dL_law_623 : decode cL_law 623 = .ok (.iadd, 1) := by decide +kernel
theorem dL_law_624 : decode cL_law 624 = .ok (.iaload, 1) := by decide +kernel
theorem dL_law_625 : decode cL_law 625 = .ok (.aload_n 0, 1) := by decide +kernel
theorem dL_law_626 : decode cL_law 626 = .ok (.iload 4, 2) := by decide +kernel
theorem dL_law_628 : decode cL_law 628 = .ok (.iconst 4, 1) := by decide +kernel
theorem dL_law_629 : decode cL_law 629 = .ok (.iadd, 1) := by decide +kernel
theorem dL_law_630 : decode cL_law 630 = .ok (.iaload, 1) := by decide +kernel
theorem dL_law_631 : decode cL_law 631 = .ok (.ifCond .eq 7, 3) := by decide +kernel
theorem dL_law_634 : decode cL_law 634 = .ok (.iconst 1, 1) := by decide +kernel
theorem dL_law_635 : decode cL_law 635 = .ok (.goto 4, 3) := by decide +kernel
theorem dL_law_638 : decode cL_law 638 = .ok (.iconst 0, 1) := by decide +kernel
theorem dL_law_639 : decode cL_law 639 = .ok (.aload_n 3, 1) := by decide +kernel
theorem dL_law_640 : decode cL_law 640 = .ok (.invokestatic 140, 3) := by decide +kernel
theorem dL_law_643 : decode cL_law 643 = .ok (.istore 5, 2) := by decide +kernel
theorem dL_law_645 : decode cL_law 645 = .ok (.aload_n 2, 1) := by decide +kernel
theorem dL_law_646 : decode cL_law 646 = .ok (.aload_n 0, 1) := by decide +kernel
theorem dL_law_647 : decode cL_law 647 = .ok (.iload 4, 2) := by decide +kernel
theorem dL_law_649 : decode cL_law 649 = .ok (.iconst 1, 1) := by decide +kernel
theorem dL_law_650 : decode cL_law 650 = .ok (.iadd, 1) := by decide +kernel
theorem dL_law_651 : decode cL_law 651 = .ok (.iaload, 1) := by decide +kernel
theorem dL_law_652 : decode cL_law 652 = .ok (.aload_n 0, 1) := by decide +kernel
theorem dL_law_653 : decode cL_law 653 = .ok (.iload 4, 2) := by decide +kernel
theorem dL_law_655 : decode cL_law 655 = .ok (.iconst 2, 1) := by decide +kernel
theorem dL_law_656 : decode cL_law 656 = .ok (.iadd, 1) := by decide +kernel
theorem dL_law_657 : decode cL_law 657 = .ok (.iaload, 1) := by decide +kernel
theorem dL_law_658 : decode cL_law 658 = .ok (.aload_n 0, 1) := by decide +kernel
theorem dL_law_659 : decode cL_law 659 = .ok (.iload 4, 2) := by decide +kernel
theorem dL_law_661 : decode cL_law 661 = .ok (.iconst 3, 1) := by decide +kernel
theorem dL_law_662 : decode cL_law 662 = .ok (.iadd, 1) := by decide +kernel
theorem dL_law_663 : decode cL_law 663 = .ok (.iaload, 1) := by decide +kernel
theorem dL_law_664 : decode cL_law 664 = .ok (.aload_n 0, 1) := by decide +kernel
theorem dL_law_665 : decode cL_law 665 = .ok (.iload 4, 2) := by decide +kernel
theorem dL_law_667 : decode cL_law 667 = .ok (.iconst 4, 1) := by decide +kernel
theorem dL_law_668 : decode cL_law 668 = .ok (.iadd, 1) := by decide +kernel
theorem dL_law_669 : decode cL_law 669 = .ok (.iaload, 1) := by decide +kernel
theorem dL_law_670 : decode cL_law 670 = .ok (.ifCond .eq 7, 3) := by decide +kernel
theorem dL_law_673 : decode cL_law 673 = .ok (.iconst 1, 1) := by decide +kernel
theorem dL_law_674 : decode cL_law 674 = .ok (.goto 4, 3) := by decide +kernel
theorem dL_law_677 : decode cL_law 677 = .ok (.iconst 0, 1) := by decide +kernel
theorem dL_law_678 : decode cL_law 678 = .ok (.invokevirtual 143, 3) := by decide +kernel
theorem dL_law_681 : decode cL_law 681 = .ok (.istore 6, 2) := by decide +kernel
theorem dL_law_683 : decode cL_law 683 = .ok (.goto 538, 3) := by decide +kernel
theorem dL_law_686 : decode cL_law 686 = .ok (.aload_n 1, 1) := by decide +kernel
theorem dL_law_687 : decode cL_law 687 = .ok (.aload_n 0, 1) := by decide +kernel
theorem dL_law_688 : decode cL_law 688 = .ok (.iload 4, 2) := by decide +kernel
theorem dL_law_690 : decode cL_law 690 = .ok (.iconst 1, 1) := by decide +kernel
theorem dL_law_691 : decode cL_law 691 = .ok (.iadd, 1) := by decide +kernel
theorem dL_law_692 : decode cL_law 692 = .ok (.iaload, 1) := by decide +kernel
theorem dL_law_693 : decode cL_law 693 = .ok (.aload_n 0, 1) := by decide +kernel
theorem dL_law_694 : decode cL_law 694 = .ok (.iload 4, 2) := by decide +kernel
theorem dL_law_696 : decode cL_law 696 = .ok (.iconst 2, 1) := by decide +kernel
theorem dL_law_697 : decode cL_law 697 = .ok (.iadd, 1) := by decide +kernel
theorem dL_law_698 : decode cL_law 698 = .ok (.iaload, 1) := by decide +kernel
theorem dL_law_699 : decode cL_law 699 = .ok (.aload_n 0, 1) := by decide +kernel
theorem dL_law_700 : decode cL_law 700 = .ok (.iload 4, 2) := by decide +kernel
theorem dL_law_702 : decode cL_law 702 = .ok (.iconst 3, 1) := by decide +kernel
theorem dL_law_703 : decode cL_law 703 = .ok (.iadd, 1) := by decide +kernel
theorem dL_law_704 : decode cL_law 704 = .ok (.iaload, 1) := by decide +kernel
theorem dL_law_705 : decode cL_law 705 = .ok (.aload_n 3, 1) := by decide +kernel
theorem dL_law_706 : decode cL_law 706 = .ok (.invokestatic 144, 3) := by decide +kernel
theorem dL_law_709 : decode cL_law 709 = .ok (.istore 5, 2) := by decide +kernel
theorem dL_law_711 : decode cL_law 711 = .ok (.aload_n 2, 1) := by decide +kernel
theorem dL_law_712 : decode cL_law 712 = .ok (.aload_n 0, 1) := by decide +kernel
theorem dL_law_713 : decode cL_law 713 = .ok (.iload 4, 2) := by decide +kernel
theorem dL_law_715 : decode cL_law 715 = .ok (.iconst 1, 1) := by decide +kernel
theorem dL_law_716 : decode cL_law 716 = .ok (.iadd, 1) := by decide +kernel
theorem dL_law_717 : decode cL_law 717 = .ok (.iaload, 1) := by decide +kernel
theorem dL_law_718 : decode cL_law 718 = .ok (.aload_n 0, 1) := by decide +kernel
theorem dL_law_719 : decode cL_law 719 = .ok (.iload 4, 2) := by decide +kernel
theorem dL_law_721 : decode cL_law 721 = .ok (.iconst 2, 1) := by decide +kernel
theorem dL_law_722 : decode cL_law 722 = .ok (.iadd, 1) := by decide +kernel
theorem dL_law_723 : decode cL_law 723 = .ok (.iaload, 1) := by decide +kernel
theorem dL_law_724 : decode cL_law 724 = .ok (.aload_n 0, 1) := by decide +kernel
theorem dL_law_725 : decode cL_law 725 = .ok (.iload 4, 2) := by decide +kernel
theorem dL_law_727 : decode cL_law 727 = .ok (.iconst 3, 1) := by decide +kernel
theorem dL_law_728 : decode cL_law 728 = .ok (.iadd, 1) := by decide +kernel
theorem dL_law_729 : decode cL_law 729 = .ok (.iaload, 1) := by decide +kernel
theorem dL_law_730 : decode cL_law 730 = .ok (.invokevirtual 146, 3) := by decide +kernel
theorem dL_law_733 : decode cL_law 733 = .ok (.istore 6, 2) := by decide +kernel
theorem dL_law_735 : decode cL_law 735 = .ok (.goto 486, 3) := by decide +kernel
theorem dL_law_738 : decode cL_law 738 = .ok (.aload_n 1, 1) := by decide +kernel
theorem dL_law_739 : decode cL_law 739 = .ok (.aload_n 0, 1) := by decide +kernel
theorem dL_law_740 : decode cL_law 740 = .ok (.iload 4, 2) := by decide +kernel
theorem dL_law_742 : decode cL_law 742 = .ok (.iconst 1, 1) := by decide +kernel
theorem dL_law_743 : decode cL_law 743 = .ok (.iadd, 1) := by decide +kernel
theorem dL_law_744 : decode cL_law 744 = .ok (.iaload, 1) := by decide +kernel
theorem dL_law_745 : decode cL_law 745 = .ok (.aload_n 0, 1) := by decide +kernel
theorem dL_law_746 : decode cL_law 746 = .ok (.iload 4, 2) := by decide +kernel
theorem dL_law_748 : decode cL_law 748 = .ok (.iconst 2, 1) := by decide +kernel
theorem dL_law_749 : decode cL_law 749 = .ok (.iadd, 1) := by decide +kernel
theorem dL_law_750 : decode cL_law 750 = .ok (.iaload, 1) := by decide +kernel
theorem dL_law_751 : decode cL_law 751 = .ok (.aload_n 0, 1) := by decide +kernel
theorem dL_law_752 : decode cL_law 752 = .ok (.iload 4, 2) := by decide +kernel
theorem dL_law_754 : decode cL_law 754 = .ok (.iconst 3, 1) := by decide +kernel
theorem dL_law_755 : decode cL_law 755 = .ok (.iadd, 1) := by decide +kernel
theorem dL_law_756 : decode cL_law 756 = .ok (.iaload, 1) := by decide +kernel
theorem dL_law_757 : decode cL_law 757 = .ok (.aload_n 3, 1) := by decide +kernel
theorem dL_law_758 : decode cL_law 758 = .ok (.invokestatic 147, 3) := by decide +kernel
theorem dL_law_761 : decode cL_law 761 = .ok (.istore 5, 2) := by decide +kernel
theorem dL_law_763 : decode cL_law 763 = .ok (.aload_n 2, 1) := by decide +kernel
theorem dL_law_764 : decode cL_law 764 = .ok (.aload_n 0, 1) := by decide +kernel
theorem dL_law_765 : decode cL_law 765 = .ok (.iload 4, 2) := by decide +kernel
theorem dL_law_767 : decode cL_law 767 = .ok (.iconst 1, 1) := by decide +kernel
theorem dL_law_768 : decode cL_law 768 = .ok (.iadd, 1) := by decide +kernel
theorem dL_law_769 : decode cL_law 769 = .ok (.iaload, 1) := by decide +kernel
theorem dL_law_770 : decode cL_law 770 = .ok (.aload_n 0, 1) := by decide +kernel
theorem dL_law_771 : decode cL_law 771 = .ok (.iload 4, 2) := by decide +kernel
theorem dL_law_773 : decode cL_law 773 = .ok (.iconst 2, 1) := by decide +kernel
theorem dL_law_774 : decode cL_law 774 = .ok (.iadd, 1) := by decide +kernel
theorem dL_law_775 : decode cL_law 775 = .ok (.iaload, 1) := by decide +kernel
theorem dL_law_776 : decode cL_law 776 = .ok (.aload_n 0, 1) := by decide +kernel
theorem dL_law_777 : decode cL_law 777 = .ok (.iload 4, 2) := by decide +kernel
theorem dL_law_779 : decode cL_law 779 = .ok (.iconst 3, 1) := by decide +kernel
theorem dL_law_780 : decode cL_law 780 = .ok (.iadd, 1) := by decide +kernel
theorem dL_law_781 : decode cL_law 781 = .ok (.iaload, 1) := by decide +kernel
theorem dL_law_782 : decode cL_law 782 = .ok (.invokevirtual 149, 3) := by decide +kernel
theorem dL_law_785 : decode cL_law 785 = .ok (.istore 6, 2) := by decide +kernel
theorem dL_law_787 : decode cL_law 787 = .ok (.goto 434, 3) := by decide +kernel
theorem dL_law_790 : decode cL_law 790 = .ok (.aload_n 1, 1) := by decide +kernel
theorem dL_law_791 : decode cL_law 791 = .ok (.aload_n 0, 1) := by decide +kernel
theorem dL_law_792 : decode cL_law 792 = .ok (.iload 4, 2) := by decide +kernel
theorem dL_law_794 : decode cL_law 794 = .ok (.iconst 1, 1) := by decide +kernel
theorem dL_law_795 : decode cL_law 795 = .ok (.iadd, 1) := by decide +kernel
theorem dL_law_796 : decode cL_law 796 = .ok (.iaload, 1) := by decide +kernel
theorem dL_law_797 : decode cL_law 797 = .ok (.aload_n 3, 1) := by decide +kernel
theorem dL_law_798 : decode cL_law 798 = .ok (.invokestatic 150, 3) := by decide +kernel
theorem dL_law_801 : decode cL_law 801 = .ok (.istore 5, 2) := by decide +kernel
theorem dL_law_803 : decode cL_law 803 = .ok (.aload_n 2, 1) := by decide +kernel
theorem dL_law_804 : decode cL_law 804 = .ok (.aload_n 0, 1) := by decide +kernel
theorem dL_law_805 : decode cL_law 805 = .ok (.iload 4, 2) := by decide +kernel
theorem dL_law_807 : decode cL_law 807 = .ok (.iconst 1, 1) := by decide +kernel
theorem dL_law_808 : decode cL_law 808 = .ok (.iadd, 1) := by decide +kernel
theorem dL_law_809 : decode cL_law 809 = .ok (.iaload, 1) := by decide +kernel
theorem dL_law_810 : decode cL_law 810 = .ok (.invokevirtual 152, 3) := by decide +kernel
theorem dL_law_813 : decode cL_law 813 = .ok (.istore 6, 2) := by decide +kernel
theorem dL_law_815 : decode cL_law 815 = .ok (.goto 406, 3) := by decide +kernel
theorem dL_law_818 : decode cL_law 818 = .ok (.aload_n 1, 1) := by decide +kernel
theorem dL_law_819 : decode cL_law 819 = .ok (.aload_n 0, 1) := by decide +kernel
theorem dL_law_820 : decode cL_law 820 = .ok (.iload 4, 2) := by decide +kernel
theorem dL_law_822 : decode cL_law 822 = .ok (.iconst 1, 1) := by decide +kernel
theorem dL_law_823 : decode cL_law 823 = .ok (.iadd, 1) := by decide +kernel
theorem dL_law_824 : decode cL_law 824 = .ok (.iaload, 1) := by decide +kernel
theorem dL_law_825 : decode cL_law 825 = .ok (.aload_n 0, 1) := by decide +kernel
theorem dL_law_826 : decode cL_law 826 = .ok (.iload 4, 2) := by decide +kernel
theorem dL_law_828 : decode cL_law 828 = .ok (.iconst 2, 1) := by decide +kernel
theorem dL_law_829 : decode cL_law 829 = .ok (.iadd, 1) := by decide +kernel
theorem dL_law_830 : decode cL_law 830 = .ok (.iaload, 1) := by decide +kernel
theorem dL_law_831 : decode cL_law 831 = .ok (.aload_n 3, 1) := by decide +kernel
theorem dL_law_832 : decode cL_law 832 = .ok (.invokestatic 153, 3) := by decide +kernel
theorem dL_law_835 : decode cL_law 835 = .ok (.istore 5, 2) := by decide +kernel
theorem dL_law_837 : decode cL_law 837 = .ok (.aload_n 2, 1) := by decide +kernel
theorem dL_law_838 : decode cL_law 838 = .ok (.aload_n 0, 1) := by decide +kernel
theorem dL_law_839 : decode cL_law 839 = .ok (.iload 4, 2) := by decide +kernel
theorem dL_law_841 : decode cL_law 841 = .ok (.iconst 1, 1) := by decide +kernel
theorem dL_law_842 : decode cL_law 842 = .ok (.iadd, 1) := by decide +kernel
theorem dL_law_843 : decode cL_law 843 = .ok (.iaload, 1) := by decide +kernel
theorem dL_law_844 : decode cL_law 844 = .ok (.aload_n 0, 1) := by decide +kernel
theorem dL_law_845 : decode cL_law 845 = .ok (.iload 4, 2) := by decide +kernel
theorem dL_law_847 : decode cL_law 847 = .ok (.iconst 2, 1) := by decide +kernel
theorem dL_law_848 : decode cL_law 848 = .ok (.iadd, 1) := by decide +kernel
theorem dL_law_849 : decode cL_law 849 = .ok (.iaload, 1) := by decide +kernel
theorem dL_law_850 : decode cL_law 850 = .ok (.invokevirtual 155, 3) := by decide +kernel
theorem dL_law_853 : decode cL_law 853 = .ok (.istore 6, 2) := by decide +kernel
theorem dL_law_855 : decode cL_law 855 = .ok (.goto 366, 3) := by decide +kernel
theorem dL_law_858 : decode cL_law 858 = .ok (.aload_n 1, 1) := by decide +kernel
theorem dL_law_859 : decode cL_law 859 = .ok (.aload_n 0, 1) := by decide +kernel
theorem dL_law_860 : decode cL_law 860 = .ok (.iload 4, 2) := by decide +kernel
theorem dL_law_862 : decode cL_law 862 = .ok (.iconst 1, 1) := by decide +kernel
theorem dL_law_863 : decode cL_law 863 = .ok (.iadd, 1) := by decide +kernel
theorem dL_law_864 : decode cL_law 864 = .ok (.iaload, 1) := by decide +kernel
theorem dL_law_865 : decode cL_law 865 = .ok (.aload_n 0, 1) := by decide +kernel
theorem dL_law_866 : decode cL_law 866 = .ok (.iload 4, 2) := by decide +kernel
theorem dL_law_868 : decode cL_law 868 = .ok (.iconst 2, 1) := by decide +kernel
theorem dL_law_869 : decode cL_law 869 = .ok (.iadd, 1) := by decide +kernel
theorem dL_law_870 : decode cL_law 870 = .ok (.iaload, 1) := by decide +kernel
theorem dL_law_871 : decode cL_law 871 = .ok (.aload_n 0, 1) := by decide +kernel
theorem dL_law_872 : decode cL_law 872 = .ok (.iload 4, 2) := by decide +kernel
theorem dL_law_874 : decode cL_law 874 = .ok (.iconst 3, 1) := by decide +kernel
theorem dL_law_875 : decode cL_law 875 = .ok (.iadd, 1) := by decide +kernel
theorem dL_law_876 : decode cL_law 876 = .ok (.iaload, 1) := by decide +kernel
theorem dL_law_877 : decode cL_law 877 = .ok (.aload_n 0, 1) := by decide +kernel
theorem dL_law_878 : decode cL_law 878 = .ok (.iload 4, 2) := by decide +kernel
theorem dL_law_880 : decode cL_law 880 = .ok (.iconst 4, 1) := by decide +kernel
theorem dL_law_881 : decode cL_law 881 = .ok (.iadd, 1) := by decide +kernel
theorem dL_law_882 : decode cL_law 882 = .ok (.iaload, 1) := by decide +kernel
theorem dL_law_883 : decode cL_law 883 = .ok (.aload_n 3, 1) := by decide +kernel
theorem dL_law_884 : decode cL_law 884 = .ok (.invokestatic 156, 3) := by decide +kernel
theorem dL_law_887 : decode cL_law 887 = .ok (.istore 5, 2) := by decide +kernel
theorem dL_law_889 : decode cL_law 889 = .ok (.aload_n 2, 1) := by decide +kernel
theorem dL_law_890 : decode cL_law 890 = .ok (.aload_n 0, 1) := by decide +kernel
theorem dL_law_891 : decode cL_law 891 = .ok (.iload 4, 2) := by decide +kernel
theorem dL_law_893 : decode cL_law 893 = .ok (.iconst 1, 1) := by decide +kernel
theorem dL_law_894 : decode cL_law 894 = .ok (.iadd, 1) := by decide +kernel
theorem dL_law_895 : decode cL_law 895 = .ok (.iaload, 1) := by decide +kernel
theorem dL_law_896 : decode cL_law 896 = .ok (.aload_n 0, 1) := by decide +kernel
theorem dL_law_897 : decode cL_law 897 = .ok (.iload 4, 2) := by decide +kernel
theorem dL_law_899 : decode cL_law 899 = .ok (.iconst 2, 1) := by decide +kernel
theorem dL_law_900 : decode cL_law 900 = .ok (.iadd, 1) := by decide +kernel
theorem dL_law_901 : decode cL_law 901 = .ok (.iaload, 1) := by decide +kernel
theorem dL_law_902 : decode cL_law 902 = .ok (.aload_n 0, 1) := by decide +kernel
theorem dL_law_903 : decode cL_law 903 = .ok (.iload 4, 2) := by decide +kernel
theorem dL_law_905 : decode cL_law 905 = .ok (.iconst 3, 1) := by decide +kernel
theorem dL_law_906 : decode cL_law 906 = .ok (.iadd, 1) := by decide +kernel
theorem dL_law_907 : decode cL_law 907 = .ok (.iaload, 1) := by decide +kernel
theorem dL_law_908 : decode cL_law 908 = .ok (.aload_n 0, 1) := by decide +kernel
theorem dL_law_909 : decode cL_law 909 = .ok (.iload 4, 2) := by decide +kernel
theorem dL_law_911 : decode cL_law 911 = .ok (.iconst 4, 1) := by decide +kernel
theorem dL_law_912 : decode cL_law 912 = .ok (.iadd, 1) := by decide +kernel
theorem dL_law_913 : decode cL_law 913 = .ok (.iaload, 1) := by decide +kernel
theorem dL_law_914 : decode cL_law 914 = .ok (.invokevirtual 158, 3) := by decide +kernel
theorem dL_law_917 : decode cL_law 917 = .ok (.istore 6, 2) := by decide +kernel
theorem dL_law_919 : decode cL_law 919 = .ok (.goto 302, 3) := by decide +kernel
theorem dL_law_922 : decode cL_law 922 = .ok (.aload_n 1, 1) := by decide +kernel
theorem dL_law_923 : decode cL_law 923 = .ok (.aload_n 0, 1) := by decide +kernel
theorem dL_law_924 : decode cL_law 924 = .ok (.iload 4, 2) := by decide +kernel
theorem dL_law_926 : decode cL_law 926 = .ok (.iconst 1, 1) := by decide +kernel
theorem dL_law_927 : decode cL_law 927 = .ok (.iadd, 1) := by decide +kernel
theorem dL_law_928 : decode cL_law 928 = .ok (.iaload, 1) := by decide +kernel
theorem dL_law_929 : decode cL_law 929 = .ok (.aload_n 0, 1) := by decide +kernel
theorem dL_law_930 : decode cL_law 930 = .ok (.iload 4, 2) := by decide +kernel
theorem dL_law_932 : decode cL_law 932 = .ok (.iconst 2, 1) := by decide +kernel
theorem dL_law_933 : decode cL_law 933 = .ok (.iadd, 1) := by decide +kernel
theorem dL_law_934 : decode cL_law 934 = .ok (.iaload, 1) := by decide +kernel
theorem dL_law_935 : decode cL_law 935 = .ok (.aload_n 3, 1) := by decide +kernel
theorem dL_law_936 : decode cL_law 936 = .ok (.invokestatic 159, 3) := by decide +kernel
theorem dL_law_939 : decode cL_law 939 = .ok (.istore 5, 2) := by decide +kernel
theorem dL_law_941 : decode cL_law 941 = .ok (.aload_n 2, 1) := by decide +kernel
theorem dL_law_942 : decode cL_law 942 = .ok (.aload_n 0, 1) := by decide +kernel
theorem dL_law_943 : decode cL_law 943 = .ok (.iload 4, 2) := by decide +kernel
theorem dL_law_945 : decode cL_law 945 = .ok (.iconst 1, 1) := by decide +kernel
theorem dL_law_946 : decode cL_law 946 = .ok (.iadd, 1) := by decide +kernel
theorem dL_law_947 : decode cL_law 947 = .ok (.iaload, 1) := by decide +kernel
theorem dL_law_948 : decode cL_law 948 = .ok (.aload_n 0, 1) := by decide +kernel
theorem dL_law_949 : decode cL_law 949 = .ok (.iload 4, 2) := by decide +kernel
theorem dL_law_951 : decode cL_law 951 = .ok (.iconst 2, 1) := by decide +kernel
theorem dL_law_952 : decode cL_law 952 = .ok (.iadd, 1) := by decide +kernel
theorem dL_law_953 : decode cL_law 953 = .ok (.iaload, 1) := by decide +kernel
theorem dL_law_954 : decode cL_law 954 = .ok (.invokevirtual 161, 3) := by decide +kernel
theorem dL_law_957 : decode cL_law 957 = .ok (.istore 6, 2) := by decide +kernel
theorem dL_law_959 : decode cL_law 959 = .ok (.goto 262, 3) := by decide +kernel
theorem dL_law_962 : decode cL_law 962 = .ok (.aload_n 1, 1) := by decide +kernel
theorem dL_law_963 : decode cL_law 963 = .ok (.aload_n 0, 1) := by decide +kernel
theorem dL_law_964 : decode cL_law 964 = .ok (.iload 4, 2) := by decide +kernel
theorem dL_law_966 : decode cL_law 966 = .ok (.iconst 1, 1) := by decide +kernel
theorem dL_law_967 : decode cL_law 967 = .ok (.iadd, 1) := by decide +kernel
theorem dL_law_968 : decode cL_law 968 = .ok (.iaload, 1) := by decide +kernel
theorem dL_law_969 : decode cL_law 969 = .ok (.aload_n 0, 1) := by decide +kernel
theorem dL_law_970 : decode cL_law 970 = .ok (.iload 4, 2) := by decide +kernel
theorem dL_law_972 : decode cL_law 972 = .ok (.iconst 2, 1) := by decide +kernel
theorem dL_law_973 : decode cL_law 973 = .ok (.iadd, 1) := by decide +kernel
theorem dL_law_974 : decode cL_law 974 = .ok (.iaload, 1) := by decide +kernel
theorem dL_law_975 : decode cL_law 975 = .ok (.aload_n 3, 1) := by decide +kernel
theorem dL_law_976 : decode cL_law 976 = .ok (.invokestatic 162, 3) := by decide +kernel
theorem dL_law_979 : decode cL_law 979 = .ok (.istore 5, 2) := by decide +kernel
theorem dL_law_981 : decode cL_law 981 = .ok (.aload_n 2, 1) := by decide +kernel
theorem dL_law_982 : decode cL_law 982 = .ok (.aload_n 0, 1) := by decide +kernel
theorem dL_law_983 : decode cL_law 983 = .ok (.iload 4, 2) := by decide +kernel
theorem dL_law_985 : decode cL_law 985 = .ok (.iconst 1, 1) := by decide +kernel
theorem dL_law_986 : decode cL_law 986 = .ok (.iadd, 1) := by decide +kernel
theorem dL_law_987 : decode cL_law 987 = .ok (.iaload, 1) := by decide +kernel
theorem dL_law_988 : decode cL_law 988 = .ok (.aload_n 0, 1) := by decide +kernel
theorem dL_law_989 : decode cL_law 989 = .ok (.iload 4, 2) := by decide +kernel
theorem dL_law_991 : decode cL_law 991 = .ok (.iconst 2, 1) := by decide +kernel
theorem dL_law_992 : decode cL_law 992 = .ok (.iadd, 1) := by decide +kernel
theorem dL_law_993 : decode cL_law 993 = .ok (.iaload, 1) := by decide +kernel
theorem dL_law_994 : decode cL_law 994 = .ok (.invokevirtual 164, 3) := by decide +kernel
theorem dL_law_997 : decode cL_law 997 = .ok (.istore 6, 2) := by decide +kernel
theorem dL_law_999 : decode cL_law 999 = .ok (.goto 222, 3) := by decide +kernel
theorem dL_law_1002 : decode cL_law 1002 = .ok (.aload_n 1, 1) := by decide +kernel
theorem dL_law_1003 : decode cL_law 1003 = .ok (.aload_n 0, 1) := by decide +kernel
theorem dL_law_1004 : decode cL_law 1004 = .ok (.iload 4, 2) := by decide +kernel
theorem dL_law_1006 : decode cL_law 1006 = .ok (.iconst 1, 1) := by decide +kernel
theorem dL_law_1007 : decode cL_law 1007 = .ok (.iadd, 1) := by decide +kernel
theorem dL_law_1008 : decode cL_law 1008 = .ok (.iaload, 1) := by decide +kernel
theorem dL_law_1009 : decode cL_law 1009 = .ok (.aload_n 3, 1) := by decide +kernel
theorem dL_law_1010 : decode cL_law 1010 = .ok (.invokestatic 165, 3) := by decide +kernel
theorem dL_law_1013 : decode cL_law 1013 = .ok (.istore 5, 2) := by decide +kernel
theorem dL_law_1015 : decode cL_law 1015 = .ok (.aload_n 2, 1) := by decide +kernel
theorem dL_law_1016 : decode cL_law 1016 = .ok (.aload_n 0, 1) := by decide +kernel
theorem dL_law_1017 : decode cL_law 1017 = .ok (.iload 4, 2) := by decide +kernel
theorem dL_law_1019 : decode cL_law 1019 = .ok (.iconst 1, 1) := by decide +kernel
theorem dL_law_1020 : decode cL_law 1020 = .ok (.iadd, 1) := by decide +kernel
theorem dL_law_1021 : decode cL_law 1021 = .ok (.iaload, 1) := by decide +kernel
theorem dL_law_1022 : decode cL_law 1022 = .ok (.invokevirtual 167, 3) := by decide +kernel
theorem dL_law_1025 : decode cL_law 1025 = .ok (.istore 6, 2) := by decide +kernel
theorem dL_law_1027 : decode cL_law 1027 = .ok (.goto 194, 3) := by decide +kernel
theorem dL_law_1030 : decode cL_law 1030 = .ok (.aload_n 1, 1) := by decide +kernel
theorem dL_law_1031 : decode cL_law 1031 = .ok (.aload_n 0, 1) := by decide +kernel
theorem dL_law_1032 : decode cL_law 1032 = .ok (.iload 4, 2) := by decide +kernel
theorem dL_law_1034 : decode cL_law 1034 = .ok (.iconst 1, 1) := by decide +kernel
theorem dL_law_1035 : decode cL_law 1035 = .ok (.iadd, 1) := by decide +kernel
theorem dL_law_1036 : decode cL_law 1036 = .ok (.iaload, 1) := by decide +kernel
theorem dL_law_1037 : decode cL_law 1037 = .ok (.aload_n 0, 1) := by decide +kernel
theorem dL_law_1038 : decode cL_law 1038 = .ok (.iload 4, 2) := by decide +kernel
theorem dL_law_1040 : decode cL_law 1040 = .ok (.iconst 2, 1) := by decide +kernel
theorem dL_law_1041 : decode cL_law 1041 = .ok (.iadd, 1) := by decide +kernel
theorem dL_law_1042 : decode cL_law 1042 = .ok (.iaload, 1) := by decide +kernel
theorem dL_law_1043 : decode cL_law 1043 = .ok (.aload_n 3, 1) := by decide +kernel
theorem dL_law_1044 : decode cL_law 1044 = .ok (.invokestatic 168, 3) := by decide +kernel
theorem dL_law_1047 : decode cL_law 1047 = .ok (.istore 5, 2) := by decide +kernel
theorem dL_law_1049 : decode cL_law 1049 = .ok (.aload_n 2, 1) := by decide +kernel
theorem dL_law_1050 : decode cL_law 1050 = .ok (.aload_n 0, 1) := by decide +kernel
theorem dL_law_1051 : decode cL_law 1051 = .ok (.iload 4, 2) := by decide +kernel
theorem dL_law_1053 : decode cL_law 1053 = .ok (.iconst 1, 1) := by decide +kernel
theorem dL_law_1054 : decode cL_law 1054 = .ok (.iadd, 1) := by decide +kernel
theorem dL_law_1055 : decode cL_law 1055 = .ok (.iaload, 1) := by decide +kernel
theorem dL_law_1056 : decode cL_law 1056 = .ok (.aload_n 0, 1) := by decide +kernel
theorem dL_law_1057 : decode cL_law 1057 = .ok (.iload 4, 2) := by decide +kernel
theorem dL_law_1059 : decode cL_law 1059 = .ok (.iconst 2, 1) := by decide +kernel
theorem dL_law_1060 : decode cL_law 1060 = .ok (.iadd, 1) := by decide +kernel
theorem dL_law_1061 : decode cL_law 1061 = .ok (.iaload, 1) := by decide +kernel
theorem dL_law_1062 : decode cL_law 1062 = .ok (.invokevirtual 170, 3) := by decide +kernel
theorem dL_law_1065 : decode cL_law 1065 = .ok (.istore 6, 2) := by decide +kernel
theorem dL_law_1067 : decode cL_law 1067 = .ok (.goto 154, 3) := by decide +kernel
theorem dL_law_1070 : decode cL_law 1070 = .ok (.aload_n 1, 1) := by decide +kernel
theorem dL_law_1071 : decode cL_law 1071 = .ok (.invokevirtual 171, 3) := by decide +kernel
theorem dL_law_1074 : decode cL_law 1074 = .ok (.pop, 1) := by decide +kernel
theorem dL_law_1075 : decode cL_law 1075 = .ok (.aload_n 2, 1) := by decide +kernel
theorem dL_law_1076 : decode cL_law 1076 = .ok (.invokevirtual 174, 3) := by decide +kernel
theorem dL_law_1079 : decode cL_law 1079 = .ok (.pop, 1) := by decide +kernel
theorem dL_law_1080 : decode cL_law 1080 = .ok (.goto 141, 3) := by decide +kernel
theorem dL_law_1083 : decode cL_law 1083 = .ok (.aload_n 1, 1) := by decide +kernel
theorem dL_law_1084 : decode cL_law 1084 = .ok (.aload_n 0, 1) := by decide +kernel
theorem dL_law_1085 : decode cL_law 1085 = .ok (.iload 4, 2) := by decide +kernel
theorem dL_law_1087 : decode cL_law 1087 = .ok (.iconst 1, 1) := by decide +kernel
theorem dL_law_1088 : decode cL_law 1088 = .ok (.iadd, 1) := by decide +kernel
theorem dL_law_1089 : decode cL_law 1089 = .ok (.iaload, 1) := by decide +kernel
theorem dL_law_1090 : decode cL_law 1090 = .ok (.aload_n 3, 1) := by decide +kernel
theorem dL_law_1091 : decode cL_law 1091 = .ok (.invokestatic 175, 3) := by decide +kernel
theorem dL_law_1094 : decode cL_law 1094 = .ok (.istore 5, 2) := by decide +kernel
theorem dL_law_1096 : decode cL_law 1096 = .ok (.aload_n 2, 1) := by decide +kernel
theorem dL_law_1097 : decode cL_law 1097 = .ok (.aload_n 0, 1) := by decide +kernel
theorem dL_law_1098 : decode cL_law 1098 = .ok (.iload 4, 2) := by decide +kernel
theorem dL_law_1100 : decode cL_law 1100 = .ok (.iconst 1, 1) := by decide +kernel
theorem dL_law_1101 : decode cL_law 1101 = .ok (.iadd, 1) := by decide +kernel
theorem dL_law_1102 : decode cL_law 1102 = .ok (.iaload, 1) := by decide +kernel
theorem dL_law_1103 : decode cL_law 1103 = .ok (.invokevirtual 177, 3) := by decide +kernel
theorem dL_law_1106 : decode cL_law 1106 = .ok (.istore 6, 2) := by decide +kernel
theorem dL_law_1108 : decode cL_law 1108 = .ok (.goto 113, 3) := by decide +kernel
theorem dL_law_1111 : decode cL_law 1111 = .ok (.aload_n 1, 1) := by decide +kernel
theorem dL_law_1112 : decode cL_law 1112 = .ok (.invokevirtual 178, 3) := by decide +kernel
theorem dL_law_1115 : decode cL_law 1115 = .ok (.pop, 1) := by decide +kernel
theorem dL_law_1116 : decode cL_law 1116 = .ok (.aload_n 2, 1) := by decide +kernel
theorem dL_law_1117 : decode cL_law 1117 = .ok (.invokevirtual 181, 3) := by decide +kernel
theorem dL_law_1120 : decode cL_law 1120 = .ok (.pop, 1) := by decide +kernel
theorem dL_law_1121 : decode cL_law 1121 = .ok (.goto 100, 3) := by decide +kernel
theorem dL_law_1124 : decode cL_law 1124 = .ok (.aload_n 1, 1) := by decide +kernel
theorem dL_law_1125 : decode cL_law 1125 = .ok (.invokevirtual 182, 3) := by decide +kernel
theorem dL_law_1128 : decode cL_law 1128 = .ok (.pop, 1) := by decide +kernel
theorem dL_law_1129 : decode cL_law 1129 = .ok (.aload_n 2, 1) := by decide +kernel
theorem dL_law_1130 : decode cL_law 1130 = .ok (.invokevirtual 185, 3) := by decide +kernel
theorem dL_law_1133 : decode cL_law 1133 = .ok (.pop, 1) := by decide +kernel
theorem dL_law_1134 : decode cL_law 1134 = .ok (.goto 87, 3) := by decide +kernel
theorem dL_law_1137 : decode cL_law 1137 = .ok (.aload_n 1, 1) := by decide +kernel
theorem dL_law_1138 : decode cL_law 1138 = .ok (.aload_n 0, 1) := by decide +kernel
theorem dL_law_1139 : decode cL_law 1139 = .ok (.iload 4, 2) := by decide +kernel
theorem dL_law_1141 : decode cL_law 1141 = .ok (.iconst 1, 1) := by decide +kernel
theorem dL_law_1142 : decode cL_law 1142 = .ok (.iadd, 1) := by decide +kernel
theorem dL_law_1143 : decode cL_law 1143 = .ok (.iaload, 1) := by decide +kernel
theorem dL_law_1144 : decode cL_law 1144 = .ok (.aload_n 3, 1) := by decide +kernel
theorem dL_law_1145 : decode cL_law 1145 = .ok (.invokestatic 186, 3) := by decide +kernel
theorem dL_law_1148 : decode cL_law 1148 = .ok (.istore 5, 2) := by decide +kernel
theorem dL_law_1150 : decode cL_law 1150 = .ok (.aload_n 2, 1) := by decide +kernel
theorem dL_law_1151 : decode cL_law 1151 = .ok (.aload_n 0, 1) := by decide +kernel
theorem dL_law_1152 : decode cL_law 1152 = .ok (.iload 4, 2) := by decide +kernel
theorem dL_law_1154 : decode cL_law 1154 = .ok (.iconst 1, 1) := by decide +kernel
theorem dL_law_1155 : decode cL_law 1155 = .ok (.iadd, 1) := by decide +kernel
theorem dL_law_1156 : decode cL_law 1156 = .ok (.iaload, 1) := by decide +kernel
theorem dL_law_1157 : decode cL_law 1157 = .ok (.invokevirtual 188, 3) := by decide +kernel
theorem dL_law_1160 : decode cL_law 1160 = .ok (.istore 6, 2) := by decide +kernel
theorem dL_law_1162 : decode cL_law 1162 = .ok (.goto 59, 3) := by decide +kernel
theorem dL_law_1165 : decode cL_law 1165 = .ok (.aload_n 1, 1) := by decide +kernel
theorem dL_law_1166 : decode cL_law 1166 = .ok (.aload_n 0, 1) := by decide +kernel
theorem dL_law_1167 : decode cL_law 1167 = .ok (.iload 4, 2) := by decide +kernel
theorem dL_law_1169 : decode cL_law 1169 = .ok (.iconst 1, 1) := by decide +kernel
theorem dL_law_1170 : decode cL_law 1170 = .ok (.iadd, 1) := by decide +kernel
theorem dL_law_1171 : decode cL_law 1171 = .ok (.iaload, 1) := by decide +kernel
theorem dL_law_1172 : decode cL_law 1172 = .ok (.aload_n 3, 1) := by decide +kernel
theorem dL_law_1173 : decode cL_law 1173 = .ok (.invokestatic 189, 3) := by decide +kernel
theorem dL_law_1176 : decode cL_law 1176 = .ok (.istore 5, 2) := by decide +kernel
theorem dL_law_1178 : decode cL_law 1178 = .ok (.aload_n 2, 1) := by decide +kernel
theorem dL_law_1179 : decode cL_law 1179 = .ok (.aload_n 0, 1) := by decide +kernel
theorem dL_law_1180 : decode cL_law 1180 = .ok (.iload 4, 2) := by decide +kernel
theorem dL_law_1182 : decode cL_law 1182 = .ok (.iconst 1, 1) := by decide +kernel
theorem dL_law_1183 : decode cL_law 1183 = .ok (.iadd, 1) := by decide +kernel
theorem dL_law_1184 : decode cL_law 1184 = .ok (.iaload, 1) := by decide +kernel
theorem dL_law_1185 : decode cL_law 1185 = .ok (.invokevirtual 191, 3) := by decide +kernel
theorem dL_law_1188 : decode cL_law 1188 = .ok (.istore 6, 2) := by decide +kernel
theorem dL_law_1190 : decode cL_law 1190 = .ok (.goto 31, 3) := by decide +kernel
theorem dL_law_1193 : decode cL_law 1193 = .ok (.aload_n 1, 1) := by decide +kernel
theorem dL_law_1194 : decode cL_law 1194 = .ok (.aload_n 0, 1) := by decide +kernel
theorem dL_law_1195 : decode cL_law 1195 = .ok (.iload 4, 2) := by decide +kernel
theorem dL_law_1197 : decode cL_law 1197 = .ok (.iconst 1, 1) := by decide +kernel
theorem dL_law_1198 : decode cL_law 1198 = .ok (.iadd, 1) := by decide +kernel
theorem dL_law_1199 : decode cL_law 1199 = .ok (.iaload, 1) := by decide +kernel
theorem dL_law_1200 : decode cL_law 1200 = .ok (.aload_n 3, 1) := by decide +kernel
theorem dL_law_1201 : decode cL_law 1201 = .ok (.invokestatic 192, 3) := by decide +kernel
theorem dL_law_1204 : decode cL_law 1204 = .ok (.istore 5, 2) := by decide +kernel
theorem dL_law_1206 : decode cL_law 1206 = .ok (.aload_n 2, 1) := by decide +kernel
theorem dL_law_1207 : decode cL_law 1207 = .ok (.aload_n 0, 1) := by decide +kernel
theorem dL_law_1208 : decode cL_law 1208 = .ok (.iload 4, 2) := by decide +kernel
theorem dL_law_1210 : decode cL_law 1210 = .ok (.iconst 1, 1) := by decide +kernel
theorem dL_law_1211 : decode cL_law 1211 = .ok (.iadd, 1) := by decide +kernel
theorem dL_law_1212 : decode cL_law 1212 = .ok (.iaload, 1) := by decide +kernel
theorem dL_law_1213 : decode cL_law 1213 = .ok (.invokevirtual 194, 3) := by decide +kernel
theorem dL_law_1216 : decode cL_law 1216 = .ok (.istore 6, 2) := by decide +kernel
theorem dL_law_1218 : decode cL_law 1218 = .ok (.goto 3, 3) := by decide +kernel
theorem dL_law_1221 : decode cL_law 1221 = .ok (.iinc 4 6, 3) := by decide +kernel
theorem dL_law_1224 : decode cL_law 1224 = .ok (.goto (-1201), 3) := by decide +kernel
theorem dL_law_1227 : decode cL_law 1227 = .ok (.iconst 1, 1) := by decide +kernel
theorem dL_law_1228 : decode cL_law 1228 = .ok (.ireturn, 1) := by decide +kernel
theorem dX2_restampFunctor_36 : decode cX2_restampFunctor 36 = .ok (.getfield 185, 3) := by decide +kernel
theorem dX2_restampFunctor_39 : decode cX2_restampFunctor 39 = .ok (.iload_n 3, 1) := by decide +kernel
theorem dX2_restampFunctor_40 : decode cX2_restampFunctor 40 = .ok (.iaload, 1) := by decide +kernel
theorem dX2_restampFunctor_41 : decode cX2_restampFunctor 41 = .ok (.if_icmp .ge 54, 3) := by decide +kernel
theorem dX2_restampFunctor_44 : decode cX2_restampFunctor 44 = .ok (.iload 5, 2) := by decide +kernel
theorem dX2_restampFunctor_46 : decode cX2_restampFunctor 46 = .ok (.aload 4, 2) := by decide +kernel
theorem dX2_restampFunctor_48 : decode cX2_restampFunctor 48 = .ok (.arraylength, 1) := by decide +kernel
theorem dX2_restampFunctor_49 : decode cX2_restampFunctor 49 = .ok (.if_icmp .ge 46, 3) := by decide +kernel
theorem dX2_restampFunctor_52 : decode cX2_restampFunctor 52 = .ok (.aload 4, 2) := by decide +kernel
theorem dX2_restampFunctor_54 : decode cX2_restampFunctor 54 = .ok (.iload 5, 2) := by decide +kernel
theorem dX2_restampFunctor_56 : decode cX2_restampFunctor 56 = .ok (.iaload, 1) := by decide +kernel
theorem dX2_restampFunctor_57 : decode cX2_restampFunctor 57 = .ok (.bipush 8, 2) := by decide +kernel
theorem dX2_restampFunctor_59 : decode cX2_restampFunctor 59 = .ok (.if_icmp .lt 30, 3) := by decide +kernel
theorem dX2_restampFunctor_62 : decode cX2_restampFunctor 62 = .ok (.aload 4, 2) := by decide +kernel
theorem dX2_restampFunctor_64 : decode cX2_restampFunctor 64 = .ok (.iload 5, 2) := by decide +kernel
theorem dX2_restampFunctor_66 : decode cX2_restampFunctor 66 = .ok (.bipush 8, 2) := by decide +kernel
theorem dX2_restampFunctor_68 : decode cX2_restampFunctor 68 = .ok (.aload_n 0, 1) := by decide +kernel
theorem dX2_restampFunctor_69 : decode cX2_restampFunctor 69 = .ok (.getfield 12, 3) := by decide +kernel
theorem dX2_restampFunctor_72 : decode cX2_restampFunctor 72 = .ok (.bipush 10, 2) := by decide +kernel
theorem dX2_restampFunctor_74 : decode cX2_restampFunctor 74 = .ok (.iload_n 2, 1) := by decide +kernel
theorem dX2_restampFunctor_75 : decode cX2_restampFunctor 75 = .ok (.aload 4, 2) := by decide +kernel
theorem dX2_restampFunctor_77 : decode cX2_restampFunctor 77 = .ok (.iload 5, 2) := by decide +kernel
theorem dX2_restampFunctor_79 : decode cX2_restampFunctor 79 = .ok (.iaload, 1) := by decide +kernel
theorem dX2_restampFunctor_80 : decode cX2_restampFunctor 80 = .ok (.bipush 8, 2) := by decide +kernel
theorem dX2_restampFunctor_82 : decode cX2_restampFunctor 82 = .ok (.isub, 1) := by decide +kernel
theorem dX2_restampFunctor_83 : decode cX2_restampFunctor 83 = .ok (.iconst 0, 1) := by decide +kernel
theorem dX2_restampFunctor_84 : decode cX2_restampFunctor 84 = .ok (.invokevirtual 124, 3) := by decide +kernel
theorem dX2_restampFunctor_87 : decode cX2_restampFunctor 87 = .ok (.iadd, 1) := by decide +kernel
theorem dX2_restampFunctor_88 : decode cX2_restampFunctor 88 = .ok (.iastore, 1) := by decide +kernel
theorem dX2_restampFunctor_89 : decode cX2_restampFunctor 89 = .ok (.iinc 5 1, 3) := by decide +kernel
theorem dX2_restampFunctor_92 : decode cX2_restampFunctor 92 = .ok (.goto (-62), 3) := by decide +kernel
theorem dX2_restampFunctor_95 : decode cX2_restampFunctor 95 = .ok (.iinc 3 1, 3) := by decide +kernel
theorem dX2_restampFunctor_98 : decode cX2_restampFunctor 98 = .ok (.goto (-88), 3) := by decide +kernel
theorem dX2_restampFunctor_101 : decode cX2_restampFunctor 101 = .ok (.return_, 1) := by decide +kernel
theorem dX2_applied_0 : decode cX2_applied 0 = .ok (.iconst 0, 1) := by decide +kernel
theorem dX2_applied_1 : decode cX2_applied 1 = .ok (.istore_n 3, 1) := by decide +kernel
theorem dX2_applied_2 : decode cX2_applied 2 = .ok (.iload_n 3, 1) := by decide +kernel
theorem dX2_applied_3 : decode cX2_applied 3 = .ok (.bipush 6, 2) := by decide +kernel
theorem dX2_applied_5 : decode cX2_applied 5 = .ok (.if_icmp .ge 38, 3) := by decide +kernel
theorem dX2_applied_8 : decode cX2_applied 8 = .ok (.aload_n 0, 1) := by decide +kernel
theorem dX2_applied_9 : decode cX2_applied 9 = .ok (.getfield 31, 3) := by decide +kernel
theorem dX2_applied_12 : decode cX2_applied 12 = .ok (.getfield 178, 3) := by decide +kernel
theorem dX2_applied_15 : decode cX2_applied 15 = .ok (.iload_n 3, 1) := by decide +kernel
theorem dX2_applied_16 : decode cX2_applied 16 = .ok (.iaload, 1) := by decide +kernel
theorem dX2_applied_17 : decode cX2_applied 17 = .ok (.iconst 1, 1) := by decide +kernel
theorem dX2_applied_18 : decode cX2_applied 18 = .ok (.if_icmp .ne 19, 3) := by decide +kernel
theorem dX2_applied_21 : decode cX2_applied 21 = .ok (.aload_n 1, 1) := by decide +kernel
theorem dX2_applied_22 : decode cX2_applied 22 = .ok (.getfield 178, 3) := by decide +kernel
theorem dX2_applied_25 : decode cX2_applied 25 = .ok (.iload_n 3, 1) := by decide +kernel
theorem dX2_applied_26 : decode cX2_applied 26 = .ok (.iaload, 1) := by decide +kernel
theorem dX2_applied_27 : decode cX2_applied 27 = .ok (.iconst 2, 1) := by decide +kernel
theorem dX2_applied_28 : decode cX2_applied 28 = .ok (.if_icmp .eq 9, 3) := by decide +kernel
theorem dX2_applied_31 : decode cX2_applied 31 = .ok (.iconst 5, 1) := by decide +kernel
theorem dX2_applied_32 : decode cX2_applied 32 = .ok (.iload_n 3, 1) := by decide +kernel
theorem dX2_applied_33 : decode cX2_applied 33 = .ok (.invokestatic 237, 3) := by decide +kernel
theorem dX2_applied_36 : decode cX2_applied 36 = .ok (.ireturn, 1) := by decide +kernel
theorem dX2_applied_37 : decode cX2_applied 37 = .ok (.iinc 3 1, 3) := by decide +kernel
theorem dX2_applied_40 : decode cX2_applied 40 = .ok (.goto (-38), 3) := by decide +kernel
theorem dX2_applied_43 : decode cX2_applied 43 = .ok (.iconst 0, 1) := by decide +kernel
theorem dX2_applied_44 : decode cX2_applied 44 = .ok (.istore_n 3, 1) := by decide +kernel
theorem dX2_applied_45 : decode cX2_applied 45 = .ok (.iload_n 3, 1) := by decide +kernel
theorem dX2_applied_46 : decode cX2_applied 46 = .ok (.bipush 10, 2) := by decide +kernel
theorem dX2_applied_48 : decode cX2_applied 48 = .ok (.if_icmp .ge 37, 3) := by decide +kernel
theorem dX2_applied_51 : decode cX2_applied 51 = .ok (.aload_n 0, 1) := by decide +kernel
theorem dX2_applied_52 : decode cX2_applied 52 = .ok (.getfield 31, 3) := by decide +kernel
theorem dX2_applied_55 : decode cX2_applied 55 = .ok (.iload_n 3, 1) := by decide +kernel
theorem dX2_applied_56 : decode cX2_applied 56 = .ok (.invokevirtual 251, 3) := by decide +kernel
theorem dX2_applied_59 : decode cX2_applied 59 = .ok (.ifCond .eq 20, 3) := by decide +kernel
theorem dX2_applied_62 : decode cX2_applied 62 = .ok (.aload_n 1, 1) := by decide +kernel
theorem dX2_applied_63 : decode cX2_applied 63 = .ok (.getfield 203, 3) := by decide +kernel
theorem dX2_applied_66 : decode cX2_applied 66 = .ok (.iload_n 3, 1) := by decide +kernel
theorem dX2_applied_67 : decode cX2_applied 67 = .ok (.iaload, 1) := by decide +kernel
theorem dX2_applied_68 : decode cX2_applied 68 = .ok (.iconst 2, 1) := by decide +kernel
theorem dX2_applied_69 : decode cX2_applied 69 = .ok (.iand, 1) := by decide +kernel
theorem dX2_applied_70 : decode cX2_applied 70 = .ok (.ifCond .ne 9, 3) := by decide +kernel
theorem dX2_applied_73 : decode cX2_applied 73 = .ok (.iconst 5, 1) := by decide +kernel
theorem dX2_applied_74 : decode cX2_applied 74 = .ok (.iload_n 3, 1) := by decide +kernel
theorem dX2_applied_75 : decode cX2_applied 75 = .ok (.invokestatic 240, 3) := by decide +kernel
theorem dX2_applied_78 : decode cX2_applied 78 = .ok (.ireturn, 1) := by decide +kernel
theorem dX2_applied_79 : decode cX2_applied 79 = .ok (.iinc 3 1, 3) := by decide +kernel
theorem dX2_applied_82 : decode cX2_applied 82 = .ok (.goto (-37), 3) := by decide +kernel
theorem dX2_applied_85 : decode cX2_applied 85 = .ok (.iconst 0, 1) := by decide +kernel
theorem dX2_applied_86 : decode cX2_applied 86 = .ok (.istore_n 3, 1) := by decide +kernel
theorem dX2_applied_87 : decode cX2_applied 87 = .ok (.iload_n 3, 1) := by decide +kernel
theorem dX2_applied_88 : decode cX2_applied 88 = .ok (.bipush 6, 2) := by decide +kernel
theorem dX2_applied_90 : decode cX2_applied 90 = .ok (.if_icmp .ge 25, 3) := by decide +kernel
theorem dX2_applied_93 : decode cX2_applied 93 = .ok (.aload_n 0, 1) := by decide +kernel
theorem dX2_applied_94 : decode cX2_applied 94 = .ok (.getfield 31, 3) := by decide +kernel
theorem dX2_applied_97 : decode cX2_applied 97 = .ok (.iload_n 3, 1) := by decide +kernel
theorem dX2_applied_98 : decode cX2_applied 98 = .ok (.invokevirtual 222, 3) := by decide +kernel
theorem dX2_applied_101 : decode cX2_applied 101 = .ok (.ifCond .ne 8, 3) := by decide +kernel
theorem dX2_applied_104 : decode cX2_applied 104 = .ok (.aload_n 2, 1) := by decide +kernel
theorem dX2_applied_105 : decode cX2_applied 105 = .ok (.iload_n 3, 1) := by decide +kernel
theorem dX2_applied_106 : decode cX2_applied 106 = .ok (.invokevirtual 281, 3) := by decide +kernel
theorem dX2_applied_109 : decode cX2_applied 109 = .ok (.iinc 3 1, 3) := by decide +kernel
theorem dX2_applied_112 : decode cX2_applied 112 = .ok (.goto (-25), 3) := by decide +kernel
theorem dX2_applied_115 : decode cX2_applied 115 = .ok (.iconst 0, 1) := by decide +kernel
theorem dX2_applied_116 : decode cX2_applied 116 = .ok (.ireturn, 1) := by decide +kernel
theorem dX2_choice_0 : decode cX2_choice 0 = .ok (.aload 4, 2) := by decide +kernel
theorem dX2_choice_2 : decode cX2_choice 2 = .ok (.invokestatic 284, 3) := by decide +kernel
theorem dX2_choice_5 : decode cX2_choice 5 = .ok (.istore 5, 2) := by decide +kernel
theorem dX2_choice_7 : decode cX2_choice 7 = .ok (.iload 5, 2) := by decide +kernel
theorem dX2_choice_9 : decode cX2_choice 9 = .ok (.ifCond .ne 10, 3) := by decide +kernel
theorem dX2_choice_12 : decode cX2_choice 12 = .ok (.aload_n 2, 1) := by decide +kernel
theorem dX2_choice_13 : decode cX2_choice 13 = .ok (.aload_n 3, 1) := by decide +kernel
theorem dX2_choice_14 : decode cX2_choice 14 = .ok (.invokestatic 288, 3) := by decide +kernel
theorem dX2_choice_17 : decode cX2_choice 17 = .ok (.istore 5, 2) := by decide +kernel
theorem dX2_choice_19 : decode cX2_choice 19 = .ok (.iload 5, 2) := by decide +kernel
theorem dX2_choice_21 : decode cX2_choice 21 = .ok (.ifCond .ne 10, 3) := by decide +kernel
theorem dX2_choice_24 : decode cX2_choice 24 = .ok (.aload_n 2, 1) := by decide +kernel
theorem dX2_choice_25 : decode cX2_choice 25 = .ok (.aload_n 3, 1) := by decide +kernel
theorem dX2_choice_26 : decode cX2_choice 26 = .ok (.invokestatic 291, 3) := by decide +kernel
theorem dX2_choice_29 : decode cX2_choice 29 = .ok (.istore 5, 2) := by decide +kernel
theorem dX2_choice_31 : decode cX2_choice 31 = .ok (.iload 5, 2) := by decide +kernel
theorem dX2_choice_33 : decode cX2_choice 33 = .ok (.ifCond .eq 6, 3) := by decide +kernel
theorem dX2_choice_36 : decode cX2_choice 36 = .ok (.iload 5, 2) := by decide +kernel
theorem dX2_choice_38 : decode cX2_choice 38 = .ok (.ireturn, 1) := by decide +kernel
theorem dX2_choice_39 : decode cX2_choice 39 = .ok (.aload_n 0, 1) := by decide +kernel
theorem dX2_choice_40 : decode cX2_choice 40 = .ok (.aload_n 1, 1) := by decide +kernel
theorem dX2_choice_41 : decode cX2_choice 41 = .ok (.aload_n 2, 1) := by decide +kernel
theorem dX2_choice_42 : decode cX2_choice 42 = .ok (.aload_n 3, 1) := by decide +kernel
theorem dX2_choice_43 : decode cX2_choice 43 = .ok (.invokevirtual 294, 3) := by decide +kernel
theorem dX2_choice_46 : decode cX2_choice 46 = .ok (.istore 6, 2) := by decide +kernel
theorem dX2_choice_48 : decode cX2_choice 48 = .ok (.iconst 0, 1) := by decide +kernel
theorem dX2_choice_49 : decode cX2_choice 49 = .ok (.istore 7, 2) := by decide +kernel
theorem dX2_choice_51 : decode cX2_choice 51 = .ok (.iload 7, 2) := by decide +kernel
theorem dX2_choice_53 : decode cX2_choice 53 = .ok (.bipush 10, 2) := by decide +kernel
theorem dX2_choice_55 : decode cX2_choice 55 = .ok (.if_icmp .ge 39, 3) := by decide +kernel
theorem dX2_choice_58 : decode cX2_choice 58 = .ok (.iload 5, 2) := by decide +kernel
theorem dX2_choice_60 : decode cX2_choice 60 = .ok (.ifCond .ne 34, 3) := by decide +kernel
theorem dX2_choice_63 : decode cX2_choice 63 = .ok (.aload_n 2, 1) := by decide +kernel
theorem dX2_choice_64 : decode cX2_choice 64 = .ok (.iload 7, 2) := by decide +kernel
theorem dX2_choice_66 : decode cX2_choice 66 = .ok (.invokevirtual 206, 3) := by decide +kernel
theorem dX2_choice_69 : decode cX2_choice 69 = .ok (.ifCond .eq 19, 3) := by decide +kernel
theorem dX2_choice_72 : decode cX2_choice 72 = .ok (.aload_n 0, 1) := by decide +kernel
theorem dX2_choice_73 : decode cX2_choice 73 = .ok (.iload 7, 2) := by decide +kernel
theorem dX2_choice_75 : decode cX2_choice 75 = .ok (.aload_n 2, 1) := by decide +kernel
theorem dX2_choice_76 : decode cX2_choice 76 = .ok (.aload_n 3, 1) := by decide +kernel
theorem dX2_choice_77 : decode cX2_choice 77 = .ok (.iload 6, 2) := by decide +kernel
theorem dX2_choice_79 : decode cX2_choice 79 = .ok (.aload_n 1, 1) := by decide +kernel
theorem dX2_choice_80 : decode cX2_choice 80 = .ok (.getfield 98, 3) := by decide +kernel
theorem dX2_choice_83 : decode cX2_choice 83 = .ok (.invokevirtual 297, 3) := by decide +kernel
theorem dX2_choice_86 : decode cX2_choice 86 = .ok (.istore 5, 2) := by decide +kernel
theorem dX2_choice_88 : decode cX2_choice 88 = .ok (.iinc 7 1, 3) := by decide +kernel
theorem dX2_choice_91 : decode cX2_choice 91 = .ok (.goto (-40), 3) := by decide +kernel
theorem dX2_choice_94 : decode cX2_choice 94 = .ok (.iload 5, 2) := by decide +kernel
theorem dX2_choice_96 : decode cX2_choice 96 = .ok (.ireturn, 1) := by decide +kernel
theorem dX2_checkThird_0 : decode cX2_checkThird 0 = .ok (.aload_n 0, 1) := by decide +kernel
theorem dX2_checkThird_1 : decode cX2_checkThird 1 = .ok (.getfield 185, 3) := by decide +kernel
theorem dX2_checkThird_4 : decode cX2_checkThird 4 = .ok (.bipush 6, 2) := by decide +kernel
theorem dX2_checkThird_6 : decode cX2_checkThird 6 = .ok (.iaload, 1) := by decide +kernel
theorem dX2_checkThird_7 : decode cX2_checkThird 7 = .ok (.iconst 1, 1) := by decide +kernel
theorem dX2_checkThird_8 : decode cX2_checkThird 8 = .ok (.if_icmp .ne 19, 3) := by decide +kernel
theorem dX2_checkThird_11 : decode cX2_checkThird 11 = .ok (.aload_n 0, 1) := by decide +kernel
theorem dX2_checkThird_12 : decode cX2_checkThird 12 = .ok (.getfield 181, 3) := by decide +kernel
theorem dX2_checkThird_15 : decode cX2_checkThird 15 = .ok (.bipush 6, 2) := by decide +kernel
theorem dX2_checkThird_17 : decode cX2_checkThird 17 = .ok (.aaload, 1) := by decide +kernel
theorem dX2_checkThird_18 : decode cX2_checkThird 18 = .ok (.iconst 0, 1) := by decide +kernel
theorem dX2_checkThird_19 : decode cX2_checkThird 19 = .ok (.iaload, 1) := by decide +kernel
theorem dX2_checkThird_20 : decode cX2_checkThird 20 = .ok (.ifCond .ne 7, 3) := by decide +kernel
theorem dX2_checkThird_23 : decode cX2_checkThird 23 = .ok (.iconst 1, 1) := by decide +kernel
theorem dX2_checkThird_24 : decode cX2_checkThird 24 = .ok (.goto 4, 3) := by decide +kernel
theorem dX2_checkThird_27 : decode cX2_checkThird 27 = .ok (.iconst 0, 1) := by decide +kernel
theorem dX2_checkThird_28 : decode cX2_checkThird 28 = .ok (.istore_n 1, 1) := by decide +kernel
theorem dX2_checkThird_29 : decode cX2_checkThird 29 = .ok (.aload_n 0, 1) := by decide +kernel
theorem dX2_checkThird_30 : decode cX2_checkThird 30 = .ok (.getfield 203, 3) := by decide +kernel
theorem dX2_checkThird_33 : decode cX2_checkThird 33 = .ok (.iconst 0, 1) := by decide +kernel
theorem dX2_checkThird_34 : decode cX2_checkThird 34 = .ok (.iaload, 1) := by decide +kernel
theorem dX2_checkThird_35 : decode cX2_checkThird 35 = .ok (.iconst 2, 1) := by decide +kernel
theorem dX2_checkThird_36 : decode cX2_checkThird 36 = .ok (.if_icmp .ne 7, 3) := by decide +kernel
theorem dX2_checkThird_39 : decode cX2_checkThird 39 = .ok (.iload_n 1, 1) := by decide +kernel
theorem dX2_checkThird_40 : decode cX2_checkThird 40 = .ok (.ifCond .ne 9, 3) := by decide +kernel
theorem dX2_checkThird_43 : decode cX2_checkThird 43 = .ok (.iconst 5, 1) := by decide +kernel
theorem dX2_checkThird_44 : decode cX2_checkThird 44 = .ok (.iconst 0, 1) := by decide +kernel
theorem dX2_checkThird_45 : decode cX2_checkThird 45 = .ok (.invokestatic 240, 3) := by decide +kernel
theorem dX2_checkThird_48 : decode cX2_checkThird 48 = .ok (.ireturn, 1) := by decide +kernel
theorem dX2_checkThird_49 : decode cX2_checkThird 49 = .ok (.iconst 0, 1) := by decide +kernel
theorem dX2_checkThird_50 : decode cX2_checkThird 50 = .ok (.istore_n 2, 1) := by decide +kernel
theorem dX2_checkThird_51 : decode cX2_checkThird 51 = .ok (.iload_n 2, 1) := by decide +kernel
theorem dX2_checkThird_52 : decode cX2_checkThird 52 = .ok (.bipush 10, 2) := by decide +kernel
theorem dX2_checkThird_54 : decode cX2_checkThird 54 = .ok (.if_icmp .ge 32, 3) := by decide +kernel
theorem dX2_checkThird_57 : decode cX2_checkThird 57 = .ok (.aload_n 0, 1) := by decide +kernel
theorem dX2_checkThird_58 : decode cX2_checkThird 58 = .ok (.iload_n 2, 1) := by decide +kernel
theorem dX2_checkThird_59 : decode cX2_checkThird 59 = .ok (.invokevirtual 251, 3) := by decide +kernel
theorem dX2_checkThird_62 : decode cX2_checkThird 62 = .ok (.ifCond .eq 18, 3) := by decide +kernel
theorem dX2_checkThird_65 : decode cX2_checkThird 65 = .ok (.aload_n 0, 1) := by decide +kernel
theorem dX2_checkThird_66 : decode cX2_checkThird 66 = .ok (.iload_n 2, 1) := by decide +kernel
theorem dX2_checkThird_67 : decode cX2_checkThird 67 = .ok (.invokevirtual 254, 3) := by decide +kernel
theorem dX2_checkThird_70 : decode cX2_checkThird 70 = .ok (.ifCond .ne 10, 3) := by decide +kernel
theorem dX2_checkThird_73 : decode cX2_checkThird 73 = .ok (.bipush 8, 2) := by decide +kernel
theorem dX2_checkThird_75 : decode cX2_checkThird 75 = .ok (.iload_n 2, 1) := by decide +kernel
theorem dX2_checkThird_76 : decode cX2_checkThird 76 = .ok (.invokestatic 240, 3) := by decide +kernel
theorem dX2_checkThird_79 : decode cX2_checkThird 79 = .ok (.ireturn, 1) := by decide +kernel
theorem dX2_checkThird_80 : decode cX2_checkThird 80 = .ok (.iinc 2 1, 3) := by decide +kernel
theorem dX2_checkThird_83 : decode cX2_checkThird 83 = .ok (.goto (-32), 3) := by decide +kernel
theorem dX2_checkThird_86 : decode cX2_checkThird 86 = .ok (.iconst 0, 1) := by decide +kernel
theorem dX2_checkThird_87 : decode cX2_checkThird 87 = .ok (.ireturn, 1) := by decide +kernel
theorem dX2_checkNames_0 : decode cX2_checkNames 0 = .ok (.iconst 0, 1) := by decide +kernel
theorem dX2_checkNames_1 : decode cX2_checkNames 1 = .ok (.istore_n 2, 1) := by decide +kernel
theorem dX2_checkNames_2 : decode cX2_checkNames 2 = .ok (.iload_n 2, 1) := by decide +kernel
theorem dX2_checkNames_3 : decode cX2_checkNames 3 = .ok (.bipush 6, 2) := by decide +kernel
theorem dX2_checkNames_5 : decode cX2_checkNames 5 = .ok (.if_icmp .ge 28, 3) := by decide +kernel
theorem dX2_checkNames_8 : decode cX2_checkNames 8 = .ok (.aload_n 0, 1) := by decide +kernel
theorem dX2_checkNames_9 : decode cX2_checkNames 9 = .ok (.iload_n 2, 1) := by decide +kernel
theorem dX2_checkNames_10 : decode cX2_checkNames 10 = .ok (.invokevirtual 222, 3) := by decide +kernel
theorem dX2_checkNames_13 : decode cX2_checkNames 13 = .ok (.aload_n 1, 1) := by decide +kernel
theorem dX2_checkNames_14 : decode cX2_checkNames 14 = .ok (.iload_n 2, 1) := by decide +kernel
theorem dX2_checkNames_15 : decode cX2_checkNames 15 = .ok (.invokevirtual 222, 3) := by decide +kernel
theorem dX2_checkNames_18 : decode cX2_checkNames 18 = .ok (.if_icmp .eq 9, 3) := by decide +kernel
theorem dX2_checkNames_21 : decode cX2_checkNames 21 = .ok (.iconst 5, 1) := by decide +kernel
theorem dX2_checkNames_22 : decode cX2_checkNames 22 = .ok (.iload_n 2, 1) := by decide +kernel
theorem dX2_checkNames_23 : decode cX2_checkNames 23 = .ok (.invokestatic 237, 3) := by decide +kernel
theorem dX2_checkNames_26 : decode cX2_checkNames 26 = .ok (.ireturn, 1) := by decide +kernel
theorem dX2_checkNames_27 : decode cX2_checkNames 27 = .ok (.iinc 2 1, 3) := by decide +kernel
theorem dX2_checkNames_30 : decode cX2_checkNames 30 = .ok (.goto (-28), 3) := by decide +kernel
theorem dX2_checkNames_33 : decode cX2_checkNames 33 = .ok (.iconst 0, 1) := by decide +kernel
theorem dX2_checkNames_34 : decode cX2_checkNames 34 = .ok (.istore_n 2, 1) := by decide +kernel
theorem dX2_checkNames_35 : decode cX2_checkNames 35 = .ok (.iload_n 2, 1) := by decide +kernel
theorem dX2_checkNames_36 : decode cX2_checkNames 36 = .ok (.bipush 10, 2) := by decide +kernel
theorem dX2_checkNames_38 : decode cX2_checkNames 38 = .ok (.if_icmp .ge 28, 3) := by decide +kernel
theorem dX2_checkNames_41 : decode cX2_checkNames 41 = .ok (.aload_n 0, 1) := by decide +kernel
theorem dX2_checkNames_42 : decode cX2_checkNames 42 = .ok (.iload_n 2, 1) := by decide +kernel
theorem dX2_checkNames_43 : decode cX2_checkNames 43 = .ok (.invokevirtual 206, 3) := by decide +kernel
theorem dX2_checkNames_46 : decode cX2_checkNames 46 = .ok (.aload_n 1, 1) := by decide +kernel
theorem dX2_checkNames_47 : decode cX2_checkNames 47 = .ok (.iload_n 2, 1) := by decide +kernel
theorem dX2_checkNames_48 : decode cX2_checkNames 48 = .ok (.invokevirtual 206, 3) := by decide +kernel
theorem dX2_checkNames_51 : decode cX2_checkNames 51 = .ok (.if_icmp .eq 9, 3) := by decide +kernel
theorem dX2_checkNames_54 : decode cX2_checkNames 54 = .ok (.iconst 5, 1) := by decide +kernel
theorem dX2_checkNames_55 : decode cX2_checkNames 55 = .ok (.iload_n 2, 1) := by decide +kernel
theorem dX2_checkNames_56 : decode cX2_checkNames 56 = .ok (.invokestatic 240, 3) := by decide +kernel
theorem dX2_checkNames_59 : decode cX2_checkNames 59 = .ok (.ireturn, 1) := by decide +kernel
theorem dX2_checkNames_60 : decode cX2_checkNames 60 = .ok (.iinc 2 1, 3) := by decide +kernel
theorem dX2_checkNames_63 : decode cX2_checkNames 63 = .ok (.goto (-28), 3) := by decide +kernel
theorem dX2_checkNames_66 : decode cX2_checkNames 66 = .ok (.iconst 0, 1) := by decide +kernel
theorem dX2_checkNames_67 : decode cX2_checkNames 67 = .ok (.ireturn, 1) := by decide +kernel
theorem dX2_checkHoles_0 : decode cX2_checkHoles 0 = .ok (.iconst 0, 1) := by decide +kernel
theorem dX2_checkHoles_1 : decode cX2_checkHoles 1 = .ok (.istore_n 2, 1) := by decide +kernel
theorem dX2_checkHoles_2 : decode cX2_checkHoles 2 = .ok (.iload_n 2, 1) := by decide +kernel
theorem dX2_checkHoles_3 : decode cX2_checkHoles 3 = .ok (.bipush 6, 2) := by decide +kernel
theorem dX2_checkHoles_5 : decode cX2_checkHoles 5 = .ok (.if_icmp .ge 36, 3) := by decide +kernel
theorem dX2_checkHoles_8 : decode cX2_checkHoles 8 = .ok (.aload_n 0, 1) := by decide +kernel
theorem dX2_checkHoles_9 : decode cX2_checkHoles 9 = .ok (.getfield 178, 3) := by decide +kernel
theorem dX2_checkHoles_12 : decode cX2_checkHoles 12 = .ok (.iload_n 2, 1) := by decide +kernel
theorem dX2_checkHoles_13 : decode cX2_checkHoles 13 = .ok (.iaload, 1) := by decide +kernel
theorem dX2_checkHoles_14 : decode cX2_checkHoles 14 = .ok (.iconst 1, 1) := by decide +kernel
theorem dX2_checkHoles_15 : decode cX2_checkHoles 15 = .ok (.if_icmp .eq 13, 3) := by decide +kernel
theorem dX2_checkHoles_18 : decode cX2_checkHoles 18 = .ok (.aload_n 1, 1) := by decide +kernel
theorem dX2_checkHoles_19 : decode cX2_checkHoles 19 = .ok (.getfield 178, 3) := by decide +kernel
theorem dX2_checkHoles_22 : decode cX2_checkHoles 22 = .ok (.iload_n 2, 1) := by decide +kernel
theorem dX2_checkHoles_23 : decode cX2_checkHoles 23 = .ok (.iaload, 1) := by decide +kernel
theorem dX2_checkHoles_24 : decode cX2_checkHoles 24 = .ok (.iconst 1, 1) := by decide +kernel
theorem dX2_checkHoles_25 : decode cX2_checkHoles 25 = .ok (.if_icmp .ne 10, 3) := by decide +kernel
theorem dX2_checkHoles_28 : decode cX2_checkHoles 28 = .ok (.bipush 8, 2) := by decide +kernel
theorem dX2_checkHoles_30 : decode cX2_checkHoles 30 = .ok (.iload_n 2, 1) := by decide +kernel
theorem dX2_checkHoles_31 : decode cX2_checkHoles 31 = .ok (.invokestatic 237, 3) := by decide +kernel
theorem dX2_checkHoles_34 : decode cX2_checkHoles 34 = .ok (.ireturn, 1) := by decide +kernel
theorem dX2_checkHoles_35 : decode cX2_checkHoles 35 = .ok (.iinc 2 1, 3) := by decide +kernel
theorem dX2_checkHoles_38 : decode cX2_checkHoles 38 = .ok (.goto (-36), 3) := by decide +kernel
theorem dX2_checkHoles_41 : decode cX2_checkHoles 41 = .ok (.iconst 0, 1) := by decide +kernel
theorem dX2_checkHoles_42 : decode cX2_checkHoles 42 = .ok (.istore_n 2, 1) := by decide +kernel
theorem dX2_checkHoles_43 : decode cX2_checkHoles 43 = .ok (.iload_n 2, 1) := by decide +kernel
theorem dX2_checkHoles_44 : decode cX2_checkHoles 44 = .ok (.bipush 10, 2) := by decide +kernel
theorem dX2_checkHoles_46 : decode cX2_checkHoles 46 = .ok (.if_icmp .ge 32, 3) := by decide +kernel
theorem dX2_checkHoles_49 : decode cX2_checkHoles 49 = .ok (.aload_n 0, 1) := by decide +kernel
theorem dX2_checkHoles_50 : decode cX2_checkHoles 50 = .ok (.iload_n 2, 1) := by decide +kernel
theorem dX2_checkHoles_51 : decode cX2_checkHoles 51 = .ok (.invokevirtual 251, 3) := by decide +kernel
theorem dX2_checkHoles_54 : decode cX2_checkHoles 54 = .ok (.ifCond .ne 11, 3) := by decide +kernel
theorem dX2_checkHoles_57 : decode cX2_checkHoles 57 = .ok (.aload_n 1, 1) := by decide +kernel
theorem dX2_checkHoles_58 : decode cX2_checkHoles 58 = .ok (.iload_n 2, 1) := by decide +kernel
theorem dX2_checkHoles_59 : decode cX2_checkHoles 59 = .ok (.invokevirtual 251, 3) := by decide +kernel
theorem dX2_checkHoles_62 : decode cX2_checkHoles 62 = .ok (.ifCond .eq 10, 3) := by decide +kernel
theorem dX2_checkHoles_65 : decode cX2_checkHoles 65 = .ok (.bipush 8, 2) := by decide +kernel
theorem dX2_checkHoles_67 : decode cX2_checkHoles 67 = .ok (.iload_n 2, 1) := by decide +kernel
theorem dX2_checkHoles_68 : decode cX2_checkHoles 68 = .ok (.invokestatic 240, 3) := by decide +kernel
theorem dX2_checkHoles_71 : decode cX2_checkHoles 71 = .ok (.ireturn, 1) := by decide +kernel
theorem dX2_checkHoles_72 : decode cX2_checkHoles 72 = .ok (.iinc 2 1, 3) := by decide +kernel
theorem dX2_checkHoles_75 : decode cX2_checkHoles 75 = .ok (.goto (-32), 3) := by decide +kernel
theorem dX2_checkHoles_78 : decode cX2_checkHoles 78 = .ok (.iconst 0, 1) := by decide +kernel
theorem dX2_checkHoles_79 : decode cX2_checkHoles 79 = .ok (.ireturn, 1) := by decide +kernel
theorem dX2_choiceTypes_0 : decode cX2_choiceTypes 0 = .ok (.iconst 0, 1) := by decide +kernel
theorem dX2_choiceTypes_1 : decode cX2_choiceTypes 1 = .ok (.istore 4, 2) := by decide +kernel
theorem dX2_choiceTypes_3 : decode cX2_choiceTypes 3 = .ok (.iconst 0, 1) := by decide +kernel
theorem dX2_choiceTypes_4 : decode cX2_choiceTypes 4 = .ok (.istore 5, 2) := by decide +kernel
theorem dX2_choiceTypes_6 : decode cX2_choiceTypes 6 = .ok (.iload 5, 2) := by decide +kernel
theorem dX2_choiceTypes_8 : decode cX2_choiceTypes 8 = .ok (.bipush 6, 2) := by decide +kernel
theorem dX2_choiceTypes_10 : decode cX2_choiceTypes 10 = .ok (.if_icmp .ge 103, 3) := by decide +kernel
theorem dX2_choiceTypes_13 : decode cX2_choiceTypes 13 = .ok (.aload_n 2, 1) := by decide +kernel
theorem dX2_choiceTypes_14 : decode cX2_choiceTypes 14 = .ok (.iload 5, 2) := by decide +kernel
theorem dX2_choiceTypes_16 : decode cX2_choiceTypes 16 = .ok (.invokevirtual 222, 3) := by decide +kernel
theorem dX2_choiceTypes_19 : decode cX2_choiceTypes 19 = .ok (.ifCond .eq 88, 3) := by decide +kernel
theorem dX2_choiceTypes_22 : decode cX2_choiceTypes 22 = .ok (.aload_n 2, 1) := by decide +kernel
theorem dX2_choiceTypes_23 : decode cX2_choiceTypes 23 = .ok (.getfield 181, 3) := by decide +kernel
theorem dX2_choiceTypes_26 : decode cX2_choiceTypes 26 = .ok (.iload 5, 2) := by decide +kernel
theorem dX2_choiceTypes_28 : decode cX2_choiceTypes 28 = .ok (.aaload, 1) := by decide +kernel
theorem dX2_choiceTypes_29 : decode cX2_choiceTypes 29 = .ok (.aload_n 2, 1) := by decide +kernel
theorem dX2_choiceTypes_30 : decode cX2_choiceTypes 30 = .ok (.getfield 185, 3) := by decide +kernel
theorem dX2_choiceTypes_33 : decode cX2_choiceTypes 33 = .ok (.iload 5, 2) := by decide +kernel
theorem dX2_choiceTypes_35 : decode cX2_choiceTypes 35 = .ok (.iaload, 1) := by decide +kernel
theorem dX2_choiceTypes_36 : decode cX2_choiceTypes 36 = .ok (.aload_n 3, 1) := by decide +kernel
theorem dX2_choiceTypes_37 : decode cX2_choiceTypes 37 = .ok (.getfield 181, 3) := by decide +kernel
theorem dX2_choiceTypes_40 : decode cX2_choiceTypes 40 = .ok (.iload 5, 2) := by decide +kernel
theorem dX2_choiceTypes_42 : decode cX2_choiceTypes 42 = .ok (.aaload, 1) := by decide +kernel
theorem dX2_choiceTypes_43 : decode cX2_choiceTypes 43 = .ok (.aload_n 3, 1) := by decide +kernel
theorem dX2_choiceTypes_44 : decode cX2_choiceTypes 44 = .ok (.getfield 185, 3) := by decide +kernel
theorem dX2_choiceTypes_47 : decode cX2_choiceTypes 47 = .ok (.iload 5, 2) := by decide +kernel
theorem dX2_choiceTypes_49 : decode cX2_choiceTypes 49 = .ok (.iaload, 1) := by decide +kernel
theorem dX2_choiceTypes_50 : decode cX2_choiceTypes 50 = .ok (.invokestatic 233, 3) := by decide +kernel
theorem dX2_choiceTypes_53 : decode cX2_choiceTypes 53 = .ok (.ifCond .eq 29, 3) := by decide +kernel
theorem dX2_choiceTypes_56 : decode cX2_choiceTypes 56 = .ok (.aload_n 1, 1) := by decide +kernel
theorem dX2_choiceTypes_57 : decode cX2_choiceTypes 57 = .ok (.getfield 98, 3) := by decide +kernel
theorem dX2_choiceTypes_60 : decode cX2_choiceTypes 60 = .ok (.iload 5, 2) := by decide +kernel
theorem dX2_choiceTypes_62 : decode cX2_choiceTypes 62 = .ok (.aload_n 2, 1) := by decide +kernel
theorem dX2_choiceTypes_63 : decode cX2_choiceTypes 63 = .ok (.getfield 181, 3) := by decide +kernel
theorem dX2_choiceTypes_66 : decode cX2_choiceTypes 66 = .ok (.iload 5, 2) := by decide +kernel
theorem dX2_choiceTypes_68 : decode cX2_choiceTypes 68 = .ok (.aaload, 1) := by decide +kernel
theorem dX2_choiceTypes_69 : decode cX2_choiceTypes 69 = .ok (.aload_n 2, 1) := by decide +kernel
theorem dX2_choiceTypes_70 : decode cX2_choiceTypes 70 = .ok (.getfield 185, 3) := by decide +kernel
theorem dX2_choiceTypes_73 : decode cX2_choiceTypes 73 = .ok (.iload 5, 2) := by decide +kernel
theorem dX2_choiceTypes_75 : decode cX2_choiceTypes 75 = .ok (.iaload, 1) := by decide +kernel
theorem dX2_choiceTypes_76 : decode cX2_choiceTypes 76 = .ok (.invokevirtual 219, 3) := by decide +kernel
theorem dX2_choiceTypes_79 : decode cX2_choiceTypes 79 = .ok (.goto 28, 3) := by decide +kernel
theorem dX2_choiceTypes_82 : decode cX2_choiceTypes 82 = .ok (.aload_n 1, 1) := by decide +kernel
theorem dX2_choiceTypes_83 : decode cX2_choiceTypes 83 = .ok (.getfield 98, 3) := by decide +kernel
theorem dX2_choiceTypes_86 : decode cX2_choiceTypes 86 = .ok (.iload 5, 2) := by decide +kernel
theorem dX2_choiceTypes_88 : decode cX2_choiceTypes 88 = .ok (.aload_n 0, 1) := by decide +kernel
theorem dX2_choiceTypes_89 : decode cX2_choiceTypes 89 = .ok (.aload_n 1, 1) := by decide +kernel
theorem dX2_choiceTypes_90 : decode cX2_choiceTypes 90 = .ok (.iload 5, 2) := by decide +kernel
theorem dX2_choiceTypes_92 : decode cX2_choiceTypes 92 = .ok (.invokevirtual 260, 3) := by decide +kernel
theorem dX2_choiceTypes_95 : decode cX2_choiceTypes 95 = .ok (.invokevirtual 274, 3) := by decide +kernel
theorem dX2_choiceTypes_98 : decode cX2_choiceTypes 98 = .ok (.iload 4, 2) := by decide +kernel
theorem dX2_choiceTypes_100 : decode cX2_choiceTypes 100 = .ok (.iconst 1, 1) := by decide +kernel
theorem dX2_choiceTypes_101 : decode cX2_choiceTypes 101 = .ok (.iload 5, 2) := by decide +kernel
theorem dX2_choiceTypes_103 : decode cX2_choiceTypes 103 = .ok (.ishl, 1) := by decide +kernel
theorem dX2_choiceTypes_104 : decode cX2_choiceTypes 104 = .ok (.ior, 1) := by decide +kernel
theorem dX2_choiceTypes_105 : decode cX2_choiceTypes 105 = .ok (.istore 4, 2) := by decide +kernel
theorem dX2_choiceTypes_107 : decode cX2_choiceTypes 107 = .ok (.iinc 5 1, 3) := by decide +kernel
theorem dX2_choiceTypes_110 : decode cX2_choiceTypes 110 = .ok (.goto (-104), 3) := by decide +kernel
theorem dX2_choiceTypes_113 : decode cX2_choiceTypes 113 = .ok (.iload 4, 2) := by decide +kernel
theorem dX2_choiceTypes_115 : decode cX2_choiceTypes 115 = .ok (.ireturn, 1) := by decide +kernel
theorem dX2_hideTypes_0 : decode cX2_hideTypes 0 = .ok (.aload_n 0, 1) := by decide +kernel
theorem dX2_hideTypes_1 : decode cX2_hideTypes 1 = .ok (.getfield 181, 3) := by decide +kernel
theorem dX2_hideTypes_4 : decode cX2_hideTypes 4 = .ok (.iload_n 1, 1) := by decide +kernel
theorem dX2_hideTypes_5 : decode cX2_hideTypes 5 = .ok (.aaload, 1) := by decide +kernel
theorem dX2_hideTypes_6 : decode cX2_hideTypes 6 = .ok (.astore 5, 2) := by decide +kernel
theorem dX2_hideTypes_8 : decode cX2_hideTypes 8 = .ok (.iconst 0, 1) := by decide +kernel
theorem dX2_hideTypes_9 : decode cX2_hideTypes 9 = .ok (.istore 6, 2) := by decide +kernel
theorem dX2_hideTypes_11 : decode cX2_hideTypes 11 = .ok (.iconst 0, 1) := by decide +kernel
theorem dX2_hideTypes_12 : decode cX2_hideTypes 12 = .ok (.istore 7, 2) := by decide +kernel
theorem dX2_hideTypes_14 : decode cX2_hideTypes 14 = .ok (.iload 7, 2) := by decide +kernel
theorem dX2_hideTypes_16 : decode cX2_hideTypes 16 = .ok (.aload_n 0, 1) := by decide +kernel
theorem dX2_hideTypes_17 : decode cX2_hideTypes 17 = .ok (.getfield 185, 3) := by decide +kernel
theorem dX2_hideTypes_20 : decode cX2_hideTypes 20 = .ok (.iload_n 1, 1) := by decide +kernel
theorem dX2_hideTypes_21 : decode cX2_hideTypes 21 = .ok (.iaload, 1) := by decide +kernel
theorem dX2_hideTypes_22 : decode cX2_hideTypes 22 = .ok (.if_icmp .ge 94, 3) := by decide +kernel
theorem dX2_hideTypes_25 : decode cX2_hideTypes 25 = .ok (.iload 7, 2) := by decide +kernel
theorem dX2_hideTypes_27 : decode cX2_hideTypes 27 = .ok (.aload 5, 2) := by decide +kernel
theorem dX2_hideTypes_29 : decode cX2_hideTypes 29 = .ok (.arraylength, 1) := by decide +kernel
theorem dX2_hideTypes_30 : decode cX2_hideTypes 30 = .ok (.if_icmp .ge 86, 3) := by decide +kernel
theorem dX2_hideTypes_33 : decode cX2_hideTypes 33 = .ok (.iload 6, 2) := by decide +kernel
theorem dX2_hideTypes_35 : decode cX2_hideTypes 35 = .ok (.aload 4, 2) := by decide +kernel
theorem dX2_hideTypes_37 : decode cX2_hideTypes 37 = .ok (.arraylength, 1) := by decide +kernel
theorem dX2_hideTypes_38 : decode cX2_hideTypes 38 = .ok (.if_icmp .ge 78, 3) := by decide +kernel
theorem dX2_hideTypes_41 : decode cX2_hideTypes 41 = .ok (.aload 5, 2) := by decide +kernel
theorem dX2_hideTypes_43 : decode cX2_hideTypes 43 = .ok (.iload 7, 2) := by decide +kernel
theorem dX2_hideTypes_45 : decode cX2_hideTypes 45 = .ok (.aload_n 0, 1) := by decide +kernel
theorem dX2_hideTypes_46 : decode cX2_hideTypes 46 = .ok (.getfield 185, 3) := by decide +kernel
theorem dX2_hideTypes_49 : decode cX2_hideTypes 49 = .ok (.iload_n 1, 1) := by decide +kernel
theorem dX2_hideTypes_50 : decode cX2_hideTypes 50 = .ok (.iaload, 1) := by decide +kernel
theorem dX2_hideTypes_51 : decode cX2_hideTypes 51 = .ok (.aload_n 0, 1) := by decide +kernel
theorem dX2_hideTypes_52 : decode cX2_hideTypes 52 = .ok (.iload_n 2, 1) := by decide +kernel
theorem dX2_hideTypes_53 : decode cX2_hideTypes 53 = .ok (.invokestatic 301, 3) := by decide +kernel
theorem dX2_hideTypes_56 : decode cX2_hideTypes 56 = .ok (.istore 8, 2) := by decide +kernel
theorem dX2_hideTypes_58 : decode cX2_hideTypes 58 = .ok (.aload 4, 2) := by decide +kernel
theorem dX2_hideTypes_60 : decode cX2_hideTypes 60 = .ok (.iload 6, 2) := by decide +kernel
theorem dX2_hideTypes_62 : decode cX2_hideTypes 62 = .ok (.iload 8, 2) := by decide +kernel
theorem dX2_hideTypes_64 : decode cX2_hideTypes 64 = .ok (.ifCond .ge 11, 3) := by decide +kernel
theorem dX2_hideTypes_67 : decode cX2_hideTypes 67 = .ok (.aload 5, 2) := by decide +kernel
theorem dX2_hideTypes_69 : decode cX2_hideTypes 69 = .ok (.iload 7, 2) := by decide +kernel
theorem dX2_hideTypes_71 : decode cX2_hideTypes 71 = .ok (.iaload, 1) := by decide +kernel
theorem dX2_hideTypes_72 : decode cX2_hideTypes 72 = .ok (.goto 12, 3) := by decide +kernel
theorem dX2_hideTypes_75 : decode cX2_hideTypes 75 = .ok (.aload_n 3, 1) := by decide +kernel
theorem dX2_hideTypes_76 : decode cX2_hideTypes 76 = .ok (.getfield 181, 3) := by decide +kernel
theorem dX2_hideTypes_79 : decode cX2_hideTypes 79 = .ok (.iload 8, 2) := by decide +kernel
theorem dX2_hideTypes_81 : decode cX2_hideTypes 81 = .ok (.aaload, 1) := by decide +kernel
theorem dX2_hideTypes_82 : decode cX2_hideTypes 82 = .ok (.iconst 0, 1) := by decide +kernel
theorem dX2_hideTypes_83 : decode cX2_hideTypes 83 = .ok (.iaload, 1) := by decide +kernel
theorem dX2_hideTypes_84 : decode cX2_hideTypes 84 = .ok (.iastore, 1) := by decide +kernel
theorem dX2_hideTypes_85 : decode cX2_hideTypes 85 = .ok (.iload 7, 2) := by decide +kernel
theorem dX2_hideTypes_87 : decode cX2_hideTypes 87 = .ok (.iload 8, 2) := by decide +kernel
theorem dX2_hideTypes_89 : decode cX2_hideTypes 89 = .ok (.ifCond .ge 7, 3) := by decide +kernel
theorem dX2_hideTypes_92 : decode cX2_hideTypes 92 = .ok (.iconst 1, 1) := by decide +kernel
theorem dX2_hideTypes_93 : decode cX2_hideTypes 93 = .ok (.goto 14, 3) := by decide +kernel
theorem dX2_hideTypes_96 : decode cX2_hideTypes 96 = .ok (.iconst 1, 1) := by decide +kernel
theorem dX2_hideTypes_97 : decode cX2_hideTypes 97 = .ok (.aload_n 0, 1) := by decide +kernel
theorem dX2_hideTypes_98 : decode cX2_hideTypes 98 = .ok (.getfield 185, 3) := by decide +kernel
theorem dX2_hideTypes_101 : decode cX2_hideTypes 101 = .ok (.iload 8, 2) := by decide +kernel
theorem dX2_hideTypes_103 : decode cX2_hideTypes 103 = .ok (.iaload, 1) := by decide +kernel
theorem dX2_hideTypes_104 : decode cX2_hideTypes 104 = .ok (.invokestatic 305, 3) := by decide +kernel
theorem dX2_hideTypes_107 : decode cX2_hideTypes 107 = .ok (.iadd, 1) := by decide +kernel
theorem dX2_hideTypes_108 : decode cX2_hideTypes 108 = .ok (.istore 7, 2) := by decide +kernel
theorem dX2_hideTypes_110 : decode cX2_hideTypes 110 = .ok (.iinc 6 1, 3) := by decide +kernel
theorem dX2_hideTypes_113 : decode cX2_hideTypes 113 = .ok (.goto (-99), 3) := by decide +kernel
theorem dX2_hideTypes_116 : decode cX2_hideTypes 116 = .ok (.iload 6, 2) := by decide +kernel
theorem dX2_hideTypes_118 : decode cX2_hideTypes 118 = .ok (.ireturn, 1) := by decide +kernel
theorem dX2_hiddenNameAt_0 : decode cX2_hiddenNameAt 0 = .ok (.iconst 0, 1) := by decide +kernel
theorem dX2_hiddenNameAt_1 : decode cX2_hiddenNameAt 1 = .ok (.istore 5, 2) := by decide +kernel
theorem dX2_hiddenNameAt_3 : decode cX2_hiddenNameAt 3 = .ok (.iload 5, 2) := by decide +kernel
theorem dX2_hiddenNameAt_5 : decode cX2_hiddenNameAt 5 = .ok (.bipush 6, 2) := by decide +kernel
theorem dX2_hiddenNameAt_7 : decode cX2_hiddenNameAt 7 = .ok (.if_icmp .ge 45, 3) := by decide +kernel
theorem dX2_hiddenNameAt_10 : decode cX2_hiddenNameAt 10 = .ok (.iload 4, 2) := by decide +kernel
theorem dX2_hiddenNameAt_12 : decode cX2_hiddenNameAt 12 = .ok (.iload 5, 2) := by decide +kernel
theorem dX2_hiddenNameAt_14 : decode cX2_hiddenNameAt 14 = .ok (.invokestatic 199, 3) := by decide +kernel
theorem dX2_hiddenNameAt_17 : decode cX2_hiddenNameAt 17 = .ok (.ifCond .eq 29, 3) := by decide +kernel
theorem dX2_hiddenNameAt_20 : decode cX2_hiddenNameAt 20 = .ok (.aload_n 0, 1) := by decide +kernel
theorem dX2_hiddenNameAt_21 : decode cX2_hiddenNameAt 21 = .ok (.iload_n 1, 1) := by decide +kernel
theorem dX2_hiddenNameAt_22 : decode cX2_hiddenNameAt 22 = .ok (.iload_n 2, 1) := by decide +kernel
theorem dX2_hiddenNameAt_23 : decode cX2_hiddenNameAt 23 = .ok (.aload_n 3, 1) := by decide +kernel
theorem dX2_hiddenNameAt_24 : decode cX2_hiddenNameAt 24 = .ok (.getfield 181, 3) := by decide +kernel
theorem dX2_hiddenNameAt_27 : decode cX2_hiddenNameAt 27 = .ok (.iload 5, 2) := by decide +kernel
theorem dX2_hiddenNameAt_29 : decode cX2_hiddenNameAt 29 = .ok (.aaload, 1) := by decide +kernel
theorem dX2_hiddenNameAt_30 : decode cX2_hiddenNameAt 30 = .ok (.aload_n 3, 1) := by decide +kernel
theorem dX2_hiddenNameAt_31 : decode cX2_hiddenNameAt 31 = .ok (.getfield 185, 3) := by decide +kernel
theorem dX2_hiddenNameAt_34 : decode cX2_hiddenNameAt 34 = .ok (.iload 5, 2) := by decide +kernel
theorem dX2_hiddenNameAt_36 : decode cX2_hiddenNameAt 36 = .ok (.iaload, 1) := by decide +kernel
theorem dX2_hiddenNameAt_37 : decode cX2_hiddenNameAt 37 = .ok (.invokestatic 308, 3) := by decide +kernel
theorem dX2_hiddenNameAt_40 : decode cX2_hiddenNameAt 40 = .ok (.ifCond .eq 6, 3) := by decide +kernel
theorem dX2_hiddenNameAt_43 : decode cX2_hiddenNameAt 43 = .ok (.iload 5, 2) := by decide +kernel
theorem dX2_hiddenNameAt_45 : decode cX2_hiddenNameAt 45 = .ok (.ireturn, 1) := by decide +kernel
theorem dX2_hiddenNameAt_46 : decode cX2_hiddenNameAt 46 = .ok (.iinc 5 1, 3) := by decide +kernel
theorem dX2_hiddenNameAt_49 : decode cX2_hiddenNameAt 49 = .ok (.goto (-46), 3) := by decide +kernel
theorem dX2_hiddenNameAt_52 : decode cX2_hiddenNameAt 52 = .ok (.iconst (-1), 1) := by decide +kernel
theorem dX2_hiddenNameAt_53 : decode cX2_hiddenNameAt 53 = .ok (.ireturn, 1) := by decide +kernel
theorem dX2_choiceValue_0 : decode cX2_choiceValue 0 = .ok (.aload_n 2, 1) := by decide +kernel
theorem dX2_choiceValue_1 : decode cX2_choiceValue 1 = .ok (.bipush 6, 2) := by decide +kernel
theorem dX2_choiceValue_3 : decode cX2_choiceValue 3 = .ok (.iload_n 1, 1) := by decide +kernel
theorem dX2_choiceValue_4 : decode cX2_choiceValue 4 = .ok (.iadd, 1) := by decide +kernel
theorem dX2_choiceValue_5 : decode cX2_choiceValue 5 = .ok (.iload 4, 2) := by decide +kernel
theorem dX2_choiceValue_7 : decode cX2_choiceValue 7 = .ok (.aload 5, 2) := by decide +kernel
theorem dX2_choiceValue_9 : decode cX2_choiceValue 9 = .ok (.aload_n 0, 1) := by decide +kernel
theorem dX2_choiceValue_10 : decode cX2_choiceValue 10 = .ok (.getfield 35, 3) := by decide +kernel
theorem dX2_choiceValue_13 : decode cX2_choiceValue 13 = .ok (.invokestatic 312, 3) := by decide +kernel
theorem dX2_choiceValue_16 : decode cX2_choiceValue 16 = .ok (.istore 6, 2) := by decide +kernel
theorem dX2_choiceValue_18 : decode cX2_choiceValue 18 = .ok (.aload_n 3, 1) := by decide +kernel
theorem dX2_choiceValue_19 : decode cX2_choiceValue 19 = .ok (.bipush 6, 2) := by decide +kernel
theorem dX2_choiceValue_21 : decode cX2_choiceValue 21 = .ok (.iload_n 1, 1) := by decide +kernel
theorem dX2_choiceValue_22 : decode cX2_choiceValue 22 = .ok (.iadd, 1) := by decide +kernel
theorem dX2_choiceValue_23 : decode cX2_choiceValue 23 = .ok (.iload 4, 2) := by decide +kernel
theorem dX2_choiceValue_25 : decode cX2_choiceValue 25 = .ok (.aload 5, 2) := by decide +kernel
theorem dX2_choiceValue_27 : decode cX2_choiceValue 27 = .ok (.aload_n 0, 1) := by decide +kernel
theorem dX2_choiceValue_28 : decode cX2_choiceValue 28 = .ok (.getfield 39, 3) := by decide +kernel
theorem dX2_choiceValue_31 : decode cX2_choiceValue 31 = .ok (.invokestatic 312, 3) := by decide +kernel
theorem dX2_choiceValue_34 : decode cX2_choiceValue 34 = .ok (.istore 7, 2) := by decide +kernel
theorem dX2_choiceValue_36 : decode cX2_choiceValue 36 = .ok (.aload_n 0, 1) := by decide +kernel
theorem dX2_choiceValue_37 : decode cX2_choiceValue 37 = .ok (.getfield 35, 3) := by decide +kernel
theorem dX2_choiceValue_40 : decode cX2_choiceValue 40 = .ok (.iload 6, 2) := by decide +kernel
theorem dX2_choiceValue_42 : decode cX2_choiceValue 42 = .ok (.aload_n 0, 1) := by decide +kernel
theorem dX2_choiceValue_43 : decode cX2_choiceValue 43 = .ok (.getfield 39, 3) := by decide +kernel
theorem dX2_choiceValue_46 : decode cX2_choiceValue 46 = .ok (.iload 7, 2) := by decide +kernel
theorem dX2_choiceValue_48 : decode cX2_choiceValue 48 = .ok (.invokestatic 233, 3) := by decide +kernel
theorem dX2_choiceValue_51 : decode cX2_choiceValue 51 = .ok (.ifCond .ne 9, 3) := by decide +kernel
theorem dX2_choiceValue_54 : decode cX2_choiceValue 54 = .ok (.iconst 2, 1) := by decide +kernel
theorem dX2_choiceValue_55 : decode cX2_choiceValue 55 = .ok (.iload_n 1, 1) := by decide +kernel
theorem dX2_choiceValue_56 : decode cX2_choiceValue 56 = .ok (.invokestatic 240, 3) := by decide +kernel
theorem dX2_choiceValue_59 : decode cX2_choiceValue 59 = .ok (.ireturn, 1) := by decide +kernel
theorem dX2_choiceValue_60 : decode cX2_choiceValue 60 = .ok (.aload 5, 2) := by decide +kernel
theorem dX2_choiceValue_62 : decode cX2_choiceValue 62 = .ok (.iload_n 1, 1) := by decide +kernel
theorem dX2_choiceValue_63 : decode cX2_choiceValue 63 = .ok (.iconst 2, 1) := by decide +kernel
theorem dX2_choiceValue_64 : decode cX2_choiceValue 64 = .ok (.aload_n 2, 1) := by decide +kernel
theorem dX2_choiceValue_65 : decode cX2_choiceValue 65 = .ok (.getfield 203, 3) := by decide +kernel
theorem dX2_choiceValue_68 : decode cX2_choiceValue 68 = .ok (.iload_n 1, 1) := by decide +kernel
theorem dX2_choiceValue_69 : decode cX2_choiceValue 69 = .ok (.iaload, 1) := by decide +kernel
theorem dX2_choiceValue_70 : decode cX2_choiceValue 70 = .ok (.aload_n 3, 1) := by decide +kernel
theorem dX2_choiceValue_71 : decode cX2_choiceValue 71 = .ok (.getfield 203, 3) := by decide +kernel
theorem dX2_choiceValue_74 : decode cX2_choiceValue 74 = .ok (.iload_n 1, 1) := by decide +kernel
theorem dX2_choiceValue_75 : decode cX2_choiceValue 75 = .ok (.iaload, 1) := by decide +kernel
theorem dX2_choiceValue_76 : decode cX2_choiceValue 76 = .ok (.ior, 1) := by decide +kernel
theorem dX2_choiceValue_77 : decode cX2_choiceValue 77 = .ok (.iconst 4, 1) := by decide +kernel
theorem dX2_choiceValue_78 : decode cX2_choiceValue 78 = .ok (.iand, 1) := by decide +kernel
theorem dX2_choiceValue_79 : decode cX2_choiceValue 79 = .ok (.ior, 1) := by decide +kernel
theorem dX2_choiceValue_80 : decode cX2_choiceValue 80 = .ok (.aload_n 0, 1) := by decide +kernel
theorem dX2_choiceValue_81 : decode cX2_choiceValue 81 = .ok (.getfield 35, 3) := by decide +kernel
theorem dX2_choiceValue_84 : decode cX2_choiceValue 84 = .ok (.iload 6, 2) := by decide +kernel
theorem dX2_choiceValue_86 : decode cX2_choiceValue 86 = .ok (.invokevirtual 243, 3) := by decide +kernel
theorem dX2_choiceValue_89 : decode cX2_choiceValue 89 = .ok (.iconst 0, 1) := by decide +kernel
theorem dX2_choiceValue_90 : decode cX2_choiceValue 90 = .ok (.ireturn, 1) := by decide +kernel
theorem dX2_renamed_0 : decode cX2_renamed 0 = .ok (.aload_n 1, 1) := by decide +kernel
theorem dX2_renamed_1 : decode cX2_renamed 1 = .ok (.aload_n 0, 1) := by decide +kernel
theorem dX2_renamed_2 : decode cX2_renamed 2 = .ok (.getfield 131, 3) := by decide +kernel
theorem dX2_renamed_5 : decode cX2_renamed 5 = .ok (.invokevirtual 206, 3) := by decide +kernel
theorem dX2_renamed_8 : decode cX2_renamed 8 = .ok (.ifCond .ne 12, 3) := by decide +kernel
theorem dX2_renamed_11 : decode cX2_renamed 11 = .ok (.iconst 5, 1) := by decide +kernel
theorem dX2_renamed_12 : decode cX2_renamed 12 = .ok (.aload_n 0, 1) := by decide +kernel
theorem dX2_renamed_13 : decode cX2_renamed 13 = .ok (.getfield 131, 3) := by decide +kernel
theorem dX2_renamed_16 : decode cX2_renamed 16 = .ok (.invokestatic 240, 3) := by decide +kernel
theorem dX2_renamed_19 : decode cX2_renamed 19 = .ok (.ireturn, 1) := by decide +kernel
theorem dX2_renamed_20 : decode cX2_renamed 20 = .ok (.aload_n 0, 1) := by decide +kernel
theorem dX2_renamed_21 : decode cX2_renamed 21 = .ok (.getfield 128, 3) := by decide +kernel
theorem dX2_renamed_24 : decode cX2_renamed 24 = .ok (.iconst 5, 1) := by decide +kernel
theorem dX2_renamed_25 : decode cX2_renamed 25 = .ok (.if_icmp .ne 24, 3) := by decide +kernel
theorem dX2_renamed_28 : decode cX2_renamed 28 = .ok (.aload_n 1, 1) := by decide +kernel
theorem dX2_renamed_29 : decode cX2_renamed 29 = .ok (.aload_n 0, 1) := by decide +kernel
theorem dX2_renamed_30 : decode cX2_renamed 30 = .ok (.getfield 131, 3) := by decide +kernel
theorem dX2_renamed_33 : decode cX2_renamed 33 = .ok (.invokevirtual 251, 3) := by decide +kernel
theorem dX2_renamed_36 : decode cX2_renamed 36 = .ok (.ifCond .eq 13, 3) := by decide +kernel
theorem dX2_renamed_39 : decode cX2_renamed 39 = .ok (.bipush 8, 2) := by decide +kernel
theorem dX2_renamed_41 : decode cX2_renamed 41 = .ok (.aload_n 0, 1) := by decide +kernel
theorem dX2_renamed_42 : decode cX2_renamed 42 = .ok (.getfield 131, 3) := by decide +kernel
theorem dX2_renamed_45 : decode cX2_renamed 45 = .ok (.invokestatic 240, 3) := by decide +kernel
theorem dX2_renamed_48 : decode cX2_renamed 48 = .ok (.ireturn, 1) := by decide +kernel
theorem dX2_renamed_49 : decode cX2_renamed 49 = .ok (.aload_n 0, 1) := by decide +kernel
theorem dX2_renamed_50 : decode cX2_renamed 50 = .ok (.getfield 128, 3) := by decide +kernel
theorem dX2_renamed_53 : decode cX2_renamed 53 = .ok (.iconst 4, 1) := by decide +kernel
theorem dX2_renamed_54 : decode cX2_renamed 54 = .ok (.if_icmp .ne 23, 3) := by decide +kernel
theorem dX2_renamed_57 : decode cX2_renamed 57 = .ok (.aload_n 1, 1) := by decide +kernel
theorem dX2_renamed_58 : decode cX2_renamed 58 = .ok (.aload_n 0, 1) := by decide +kernel
theorem dX2_renamed_59 : decode cX2_renamed 59 = .ok (.getfield 137, 3) := by decide +kernel
theorem dX2_renamed_62 : decode cX2_renamed 62 = .ok (.invokevirtual 206, 3) := by decide +kernel
theorem dX2_renamed_65 : decode cX2_renamed 65 = .ok (.ifCond .eq 12, 3) := by decide +kernel
theorem dX2_renamed_68 : decode cX2_renamed 68 = .ok (.iconst 4, 1) := by decide +kernel
theorem dX2_renamed_69 : decode cX2_renamed 69 = .ok (.aload_n 0, 1) := by decide +kernel
theorem dX2_renamed_70 : decode cX2_renamed 70 = .ok (.getfield 137, 3) := by decide +kernel
theorem dX2_renamed_73 : decode cX2_renamed 73 = .ok (.invokestatic 240, 3) := by decide +kernel
theorem dX2_renamed_76 : decode cX2_renamed 76 = .ok (.ireturn, 1) := by decide +kernel
theorem dX2_renamed_77 : decode cX2_renamed 77 = .ok (.aload_n 2, 1) := by decide +kernel
theorem dX2_renamed_78 : decode cX2_renamed 78 = .ok (.aload_n 1, 1) := by decide +kernel
theorem dX2_renamed_79 : decode cX2_renamed 79 = .ok (.invokevirtual 277, 3) := by decide +kernel
theorem dX2_renamed_82 : decode cX2_renamed 82 = .ok (.aload_n 2, 1) := by decide +kernel
theorem dX2_renamed_83 : decode cX2_renamed 83 = .ok (.aload_n 0, 1) := by decide +kernel
theorem dX2_renamed_84 : decode cX2_renamed 84 = .ok (.getfield 131, 3) := by decide +kernel
theorem dX2_renamed_87 : decode cX2_renamed 87 = .ok (.invokevirtual 316, 3) := by decide +kernel
theorem dX2_renamed_90 : decode cX2_renamed 90 = .ok (.aload_n 0, 1) := by decide +kernel
theorem dX2_renamed_91 : decode cX2_renamed 91 = .ok (.getfield 128, 3) := by decide +kernel
theorem dX2_renamed_94 : decode cX2_renamed 94 = .ok (.iconst 4, 1) := by decide +kernel
theorem dX2_renamed_95 : decode cX2_renamed 95 = .ok (.if_icmp .ne 16, 3) := by decide +kernel
theorem dX2_renamed_98 : decode cX2_renamed 98 = .ok (.aload_n 2, 1) := by decide +kernel
theorem dX2_renamed_99 : decode cX2_renamed 99 = .ok (.aload_n 0, 1) := by decide +kernel
theorem dX2_renamed_100 : decode cX2_renamed 100 = .ok (.getfield 137, 3) := by decide +kernel
theorem dX2_renamed_103 : decode cX2_renamed 103 = .ok (.aload_n 1, 1) := by decide +kernel
theorem dX2_renamed_104 : decode cX2_renamed 104 = .ok (.aload_n 0, 1) := by decide +kernel
theorem dX2_renamed_105 : decode cX2_renamed 105 = .ok (.getfield 131, 3) := by decide +kernel
theorem dX2_renamed_108 : decode cX2_renamed 108 = .ok (.invokevirtual 319, 3) := by decide +kernel
theorem dX2_renamed_111 : decode cX2_renamed 111 = .ok (.iconst 0, 1) := by decide +kernel
theorem dX2_renamed_112 : decode cX2_renamed 112 = .ok (.ireturn, 1) := by decide +kernel
theorem dX3_init_0 : decode cX3_init 0 = .ok (.aload_n 0, 1) := by decide +kernel
theorem dX3_init_1 : decode cX3_init 1 = .ok (.invokespecial 3, 3) := by decide +kernel
theorem dX3_init_4 : decode cX3_init 4 = .ok (.aload_n 0, 1) := by decide +kernel
theorem dX3_init_5 : decode cX3_init 5 = .ok (.sipush 240, 3) := by decide +kernel
theorem dX3_init_8 : decode cX3_init 8 = .ok (.newarray .int, 2) := by decide +kernel
theorem dX3_init_10 : decode cX3_init 10 = .ok (.putfield 11, 3) := by decide +kernel
theorem dX3_init_13 : decode cX3_init 13 = .ok (.aload_n 0, 1) := by decide +kernel
theorem dX3_init_14 : decode cX3_init 14 = .ok (.sipush 240, 3) := by decide +kernel
theorem dX3_init_17 : decode cX3_init 17 = .ok (.newarray .int, 2) := by decide +kernel
theorem dX3_init_19 : decode cX3_init 19 = .ok (.putfield 15, 3) := by decide +kernel
theorem dX3_init_22 : decode cX3_init 22 = .ok (.aload_n 0, 1) := by decide +kernel
theorem dX3_init_23 : decode cX3_init 23 = .ok (.sipush 240, 3) := by decide +kernel
theorem dX3_init_26 : decode cX3_init 26 = .ok (.newarray .int, 2) := by decide +kernel
theorem dX3_init_28 : decode cX3_init 28 = .ok (.putfield 18, 3) := by decide +kernel
theorem dX3_init_31 : decode cX3_init 31 = .ok (.aload_n 0, 1) := by decide +kernel
theorem dX3_init_32 : decode cX3_init 32 = .ok (.sipush 240, 3) := by decide +kernel
theorem dX3_init_35 : decode cX3_init 35 = .ok (.newarray .int, 2) := by decide +kernel
theorem dX3_init_37 : decode cX3_init 37 = .ok (.putfield 21, 3) := by decide +kernel
theorem dX3_init_40 : decode cX3_init 40 = .ok (.aload_n 0, 1) := by decide +kernel
theorem dX3_init_41 : decode cX3_init 41 = .ok (.sipush 240, 3) := by decide +kernel
theorem dX3_init_44 : decode cX3_init 44 = .ok (.newarray .int, 2) := by decide +kernel
theorem dX3_init_46 : decode cX3_init 46 = .ok (.putfield 24, 3) := by decide +kernel
theorem dX3_init_49 : decode cX3_init 49 = .ok (.aload_n 0, 1) := by decide +kernel
theorem dX3_init_50 : decode cX3_init 50 = .ok (.sipush 240, 3) := by decide +kernel
theorem dX3_init_53 : decode cX3_init 53 = .ok (.newarray .boolean, 2) := by decide +kernel
theorem dX3_init_55 : decode cX3_init 55 = .ok (.putfield 27, 3) := by decide +kernel
theorem dX3_init_58 : decode cX3_init 58 = .ok (.aload_n 0, 1) := by decide +kernel
theorem dX3_init_59 : decode cX3_init 59 = .ok (.sipush 240, 3) := by decide +kernel
theorem dX3_init_62 : decode cX3_init 62 = .ok (.newarray .int, 2) := by decide +kernel
theorem dX3_init_64 : decode cX3_init 64 = .ok (.putfield 31, 3) := by decide +kernel
theorem dX3_init_67 : decode cX3_init 67 = .ok (.aload_n 0, 1) := by decide +kernel
theorem dX3_init_68 : decode cX3_init 68 = .ok (.sipush 240, 3) := by decide +kernel
theorem dX3_init_71 : decode cX3_init 71 = .ok (.newarray .int, 2) := by decide +kernel
theorem dX3_init_73 : decode cX3_init 73 = .ok (.putfield 34, 3) := by decide +kernel
theorem dX3_init_76 : decode cX3_init 76 = .ok (.aload_n 0, 1) := by decide +kernel
theorem dX3_init_77 : decode cX3_init 77 = .ok (.new 37, 3) := by decide +kernel
theorem dX3_init_80 : decode cX3_init 80 = .ok (.dup, 1) := by decide +kernel
theorem dX3_init_81 : decode cX3_init 81 = .ok (.invokespecial 39, 3) := by decide +kernel
theorem dX3_init_84 : decode cX3_init 84 = .ok (.putfield 40, 3) := by decide +kernel
theorem dX3_init_87 : decode cX3_init 87 = .ok (.aload_n 0, 1) := by decide +kernel
theorem dX3_init_88 : decode cX3_init 88 = .ok (.sipush 240, 3) := by decide +kernel
theorem dX3_init_91 : decode cX3_init 91 = .ok (.newarray .int, 2) := by decide +kernel
theorem dX3_init_93 : decode cX3_init 93 = .ok (.putfield 44, 3) := by decide +kernel
theorem dX3_init_96 : decode cX3_init 96 = .ok (.aload_n 0, 1) := by decide +kernel
theorem dX3_init_97 : decode cX3_init 97 = .ok (.bipush 10, 2) := by decide +kernel
theorem dX3_init_99 : decode cX3_init 99 = .ok (.newarray .int, 2) := by decide +kernel
theorem dX3_init_101 : decode cX3_init 101 = .ok (.putfield 47, 3) := by decide +kernel
theorem dX3_init_104 : decode cX3_init 104 = .ok (.aload_n 0, 1) := by decide +kernel
theorem dX3_init_105 : decode cX3_init 105 = .ok (.aload_n 1, 1) := by decide +kernel
theorem dX3_init_106 : decode cX3_init 106 = .ok (.putfield 50, 3) := by decide +kernel
theorem dX3_init_109 : decode cX3_init 109 = .ok (.return_, 1) := by decide +kernel
theorem dX3_perform_0 : decode cX3_perform 0 = .ok (.aload_n 0, 1) := by decide +kernel
theorem dX3_perform_1 : decode cX3_perform 1 = .ok (.iconst 0, 1) := by decide +kernel
theorem dX3_perform_2 : decode cX3_perform 2 = .ok (.putfield 54, 3) := by decide +kernel
theorem dX3_perform_5 : decode cX3_perform 5 = .ok (.aload_n 0, 1) := by decide +kernel
theorem dX3_perform_6 : decode cX3_perform 6 = .ok (.aload_n 1, 1) := by decide +kernel
theorem dX3_perform_7 : decode cX3_perform 7 = .ok (.iconst 0, 1) := by decide +kernel
theorem dX3_perform_8 : decode cX3_perform 8 = .ok (.invokevirtual 58, 3) := by decide +kernel
theorem dX3_perform_11 : decode cX3_perform 11 = .ok (.istore_n 2, 1) := by decide +kernel
theorem dX3_perform_12 : decode cX3_perform 12 = .ok (.iload_n 2, 1) := by decide +kernel
theorem dX3_perform_13 : decode cX3_perform 13 = .ok (.ifCond .ge 8, 3) := by decide +kernel
theorem dX3_perform_16 : decode cX3_perform 16 = .ok (.aload_n 0, 1) := by decide +kernel
theorem dX3_perform_17 : decode cX3_perform 17 = .ok (.getfield 62, 3) := by decide +kernel
theorem dX3_perform_20 : decode cX3_perform 20 = .ok (.ireturn, 1) := by decide +kernel
theorem dX3_perform_21 : decode cX3_perform 21 = .ok (.iconst 0, 1) := by decide +kernel
theorem dX3_perform_22 : decode cX3_perform 22 = .ok (.istore_n 3, 1) := by decide +kernel
theorem dX3_perform_23 : decode cX3_perform 23 = .ok (.iload_n 3, 1) := by decide +kernel
theorem dX3_perform_24 : decode cX3_perform 24 = .ok (.bipush 10, 2) := by decide +kernel
theorem dX3_perform_26 : decode cX3_perform 26 = .ok (.if_icmp .ge 41, 3) := by decide +kernel
theorem dX3_perform_29 : decode cX3_perform 29 = .ok (.aload_n 0, 1) := by decide +kernel
theorem dX3_perform_30 : decode cX3_perform 30 = .ok (.aload_n 1, 1) := by decide +kernel
theorem dX3_perform_31 : decode cX3_perform 31 = .ok (.iload_n 2, 1) := by decide +kernel
theorem dX3_perform_32 : decode cX3_perform 32 = .ok (.iload_n 3, 1) := by decide +kernel
theorem dX3_perform_33 : decode cX3_perform 33 = .ok (.invokevirtual 65, 3) := by decide +kernel
theorem dX3_perform_36 : decode cX3_perform 36 = .ok (.istore 4, 2) := by decide +kernel
theorem dX3_perform_38 : decode cX3_perform 38 = .ok (.aload_n 0, 1) := by decide +kernel
theorem dX3_perform_39 : decode cX3_perform 39 = .ok (.getfield 47, 3) := by decide +kernel
theorem dX3_perform_42 : decode cX3_perform 42 = .ok (.iload_n 3, 1) := by decide +kernel
theorem dX3_perform_43 : decode cX3_perform 43 = .ok (.iload 4, 2) := by decide +kernel
theorem dX3_perform_45 : decode cX3_perform 45 = .ok (.ifCond .ge 8, 3) := by decide +kernel
theorem dX3_perform_48 : decode cX3_perform 48 = .ok (.bipush (-3), 2) := by decide +kernel
theorem dX3_perform_50 : decode cX3_perform 50 = .ok (.goto 10, 3) := by decide +kernel
theorem dX3_perform_53 : decode cX3_perform 53 = .ok (.aload_n 0, 1) := by decide +kernel
theorem dX3_perform_54 : decode cX3_perform 54 = .ok (.getfield 31, 3) := by decide +kernel
theorem dX3_perform_57 : decode cX3_perform 57 = .ok (.iload 4, 2) := by decide +kernel
theorem dX3_perform_59 : decode cX3_perform 59 = .ok (.iaload, 1) := by decide +kernel
theorem dX3_perform_60 : decode cX3_perform 60 = .ok (.iastore, 1) := by decide +kernel
theorem dX3_perform_61 : decode cX3_perform 61 = .ok (.iinc 3 1, 3) := by decide +kernel
theorem dX3_perform_64 : decode cX3_perform 64 = .ok (.goto (-41), 3) := by decide +kernel
theorem dX3_perform_67 : decode cX3_perform 67 = .ok (.iconst 0, 1) := by decide +kernel
theorem dX3_perform_68 : decode cX3_perform 68 = .ok (.ireturn, 1) := by decide +kernel
theorem dX3_fail_0 : decode cX3_fail 0 = .ok (.aload_n 0, 1) := by decide +kernel
theorem dX3_fail_1 : decode cX3_fail 1 = .ok (.iload_n 1, 1) := by decide +kernel
theorem dX3_fail_2 : decode cX3_fail 2 = .ok (.putfield 62, 3) := by decide +kernel
theorem dX3_fail_5 : decode cX3_fail 5 = .ok (.iconst (-1), 1) := by decide +kernel
theorem dX3_fail_6 : decode cX3_fail 6 = .ok (.ireturn, 1) := by decide +kernel
theorem dX3_runAlone_0 : decode cX3_runAlone 0 = .ok (.aload_n 0, 1) := by decide +kernel
theorem dX3_runAlone_1 : decode cX3_runAlone 1 = .ok (.getfield 54, 3) := by decide +kernel
theorem dX3_runAlone_4 : decode cX3_runAlone 4 = .ok (.istore_n 3, 1) := by decide +kernel
theorem dX3_runAlone_5 : decode cX3_runAlone 5 = .ok (.aload_n 0, 1) := by decide +kernel
theorem dX3_runAlone_6 : decode cX3_runAlone 6 = .ok (.aload_n 1, 1) := by decide +kernel
theorem dX3_runAlone_7 : decode cX3_runAlone 7 = .ok (.iload_n 2, 1) := by decide +kernel
theorem dX3_runAlone_8 : decode cX3_runAlone 8 = .ok (.invokevirtual 69, 3) := by decide +kernel
theorem dX3_runAlone_11 : decode cX3_runAlone 11 = .ok (.istore 4, 2) := by decide +kernel
theorem dX3_runAlone_13 : decode cX3_runAlone 13 = .ok (.iload 4, 2) := by decide +kernel
theorem dX3_runAlone_15 : decode cX3_runAlone 15 = .ok (.ifCond .ge 5, 3) := by decide +kernel
theorem dX3_runAlone_18 : decode cX3_runAlone 18 = .ok (.iconst (-1), 1) := by decide +kernel
theorem dX3_runAlone_19 : decode cX3_runAlone 19 = .ok (.ireturn, 1) := by decide +kernel
theorem dX3_runAlone_20 : decode cX3_runAlone 20 = .ok (.aload_n 0, 1) := by decide +kernel
theorem dX3_runAlone_21 : decode cX3_runAlone 21 = .ok (.iload_n 3, 1) := by decide +kernel

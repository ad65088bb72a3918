theorem dX7_init_346 : decode cX7_init 346 = .ok (.bipush 32, 2) := by decide +kernel
theorem dX7_init_348 : decode cX7_init 348 = .ok (.castore, 1) := by decide +kernel
theorem dX7_init_349 : decode cX7_init 349 = .ok (.dup, 1) := by decide +kernel
theorem dX7_init_350 : decode cX7_init 350 = .ok (.bipush 54, 2) := by decide +kernel
theorem dX7_init_352 : decode cX7_init 352 = .ok (.bipush 103, 2) := by decide +kernel
theorem dX7_init_354 : decode cX7_init 354 = .ok (.castore, 1) := by decide +kernel
theorem dX7_init_355 : decode cX7_init 355 = .ok (.dup, 1) := by decide +kernel
theorem dX7_init_356 : decode cX7_init 356 = .ok (.bipush 55, 2) := by decide +kernel
theorem dX7_init_358 : decode cX7_init 358 = .ok (.bipush 111, 2) := by decide +kernel
theorem dX7_init_360 : decode cX7_init 360 = .ok (.castore, 1) := by decide +kernel
theorem dX7_init_361 : decode cX7_init 361 = .ok (.dup, 1) := by decide +kernel
theorem dX7_init_362 : decode cX7_init 362 = .ok (.bipush 56, 2) := by decide +kernel
theorem dX7_init_364 : decode cX7_init 364 = .ok (.bipush 32, 2) := by decide +kernel
theorem dX7_init_366 : decode cX7_init 366 = .ok (.castore, 1) := by decide +kernel
theorem dX7_init_367 : decode cX7_init 367 = .ok (.dup, 1) := by decide +kernel
theorem dX7_init_368 : decode cX7_init 368 = .ok (.bipush 57, 2) := by decide +kernel
theorem dX7_init_370 : decode cX7_init 370 = .ok (.bipush 98, 2) := by decide +kernel
theorem dX7_init_372 : decode cX7_init 372 = .ok (.castore, 1) := by decide +kernel
theorem dX7_init_373 : decode cX7_init 373 = .ok (.dup, 1) := by decide +kernel
theorem dX7_init_374 : decode cX7_init 374 = .ok (.bipush 58, 2) := by decide +kernel
theorem dX7_init_376 : decode cX7_init 376 = .ok (.bipush 97, 2) := by decide +kernel
theorem dX7_init_378 : decode cX7_init 378 = .ok (.castore, 1) := by decide +kernel
theorem dX7_init_379 : decode cX7_init 379 = .ok (.dup, 1) := by decide +kernel
theorem dX7_init_380 : decode cX7_init 380 = .ok (.bipush 59, 2) := by decide +kernel
theorem dX7_init_382 : decode cX7_init 382 = .ok (.bipush 114, 2) := by decide +kernel
theorem dX7_init_384 : decode cX7_init 384 = .ok (.castore, 1) := by decide +kernel
theorem dX7_init_385 : decode cX7_init 385 = .ok (.dup, 1) := by decide +kernel
theorem dX7_init_386 : decode cX7_init 386 = .ok (.bipush 60, 2) := by decide +kernel
theorem dX7_init_388 : decode cX7_init 388 = .ok (.bipush 32, 2) := by decide +kernel
theorem dX7_init_390 : decode cX7_init 390 = .ok (.castore, 1) := by decide +kernel
theorem dX7_init_391 : decode cX7_init 391 = .ok (.dup, 1) := by decide +kernel
theorem dX7_init_392 : decode cX7_init 392 = .ok (.bipush 61, 2) := by decide +kernel
theorem dX7_init_394 : decode cX7_init 394 = .ok (.bipush 121, 2) := by decide +kernel
theorem dX7_init_396 : decode cX7_init 396 = .ok (.castore, 1) := by decide +kernel
theorem dX7_init_397 : decode cX7_init 397 = .ok (.dup, 1) := by decide +kernel
theorem dX7_init_398 : decode cX7_init 398 = .ok (.bipush 62, 2) := by decide +kernel
theorem dX7_init_400 : decode cX7_init 400 = .ok (.bipush 105, 2) := by decide +kernel
theorem dX7_init_402 : decode cX7_init 402 = .ok (.castore, 1) := by decide +kernel
theorem dX7_init_403 : decode cX7_init 403 = .ok (.dup, 1) := by decide +kernel
theorem dX7_init_404 : decode cX7_init 404 = .ok (.bipush 63, 2) := by decide +kernel
theorem dX7_init_406 : decode cX7_init 406 = .ok (.bipush 101, 2) := by decide +kernel
theorem dX7_init_408 : decode cX7_init 408 = .ok (.castore, 1) := by decide +kernel
theorem dX7_init_409 : decode cX7_init 409 = .ok (.dup, 1) := by decide +kernel
theorem dX7_init_410 : decode cX7_init 410 = .ok (.bipush 64, 2) := by decide +kernel
theorem dX7_init_412 : decode cX7_init 412 = .ok (.bipush 108, 2) := by decide +kernel
theorem dX7_init_414 : decode cX7_init 414 = .ok (.castore, 1) := by decide +kernel
theorem dX7_init_415 : decode cX7_init 415 = .ok (.dup, 1) := by decide +kernel
theorem dX7_init_416 : decode cX7_init 416 = .ok (.bipush 65, 2) := by decide +kernel
theorem dX7_init_418 : decode cX7_init 418 = .ok (.bipush 100, 2) := by decide +kernel
theorem dX7_init_420 : decode cX7_init 420 = .ok (.castore, 1) := by decide +kernel
theorem dX7_init_421 : decode cX7_init 421 = .ok (.dup, 1) := by decide +kernel
theorem dX7_init_422 : decode cX7_init 422 = .ok (.bipush 66, 2) := by decide +kernel
theorem dX7_init_424 : decode cX7_init 424 = .ok (.bipush 32, 2) := by decide +kernel
theorem dX7_init_426 : decode cX7_init 426 = .ok (.castore, 1) := by decide +kernel
theorem dX7_init_427 : decode cX7_init 427 = .ok (.dup, 1) := by decide +kernel
theorem dX7_init_428 : decode cX7_init 428 = .ok (.bipush 67, 2) := by decide +kernel
theorem dX7_init_430 : decode cX7_init 430 = .ok (.bipush 101, 2) := by decide +kernel
theorem dX7_init_432 : decode cX7_init 432 = .ok (.castore, 1) := by decide +kernel
theorem dX7_init_433 : decode cX7_init 433 = .ok (.dup, 1) := by decide +kernel
theorem dX7_init_434 : decode cX7_init 434 = .ok (.bipush 68, 2) := by decide +kernel
theorem dX7_init_436 : decode cX7_init 436 = .ok (.bipush 110, 2) := by decide +kernel
theorem dX7_init_438 : decode cX7_init 438 = .ok (.castore, 1) := by decide +kernel
theorem dX7_init_439 : decode cX7_init 439 = .ok (.dup, 1) := by decide +kernel
theorem dX7_init_440 : decode cX7_init 440 = .ok (.bipush 69, 2) := by decide +kernel
theorem dX7_init_442 : decode cX7_init 442 = .ok (.bipush 100, 2) := by decide +kernel
theorem dX7_init_444 : decode cX7_init 444 = .ok (.castore, 1) := by decide +kernel
theorem dX7_init_445 : decode cX7_init 445 = .ok (.dup, 1) := by decide +kernel
theorem dX7_init_446 : decode cX7_init 446 = .ok (.bipush 70, 2) := by decide +kernel
theorem dX7_init_448 : decode cX7_init 448 = .ok (.bipush 32, 2) := by decide +kernel
theorem dX7_init_450 : decode cX7_init 450 = .ok (.castore, 1) := by decide +kernel
theorem dX7_init_451 : decode cX7_init 451 = .ok (.dup, 1) := by decide +kernel
theorem dX7_init_452 : decode cX7_init 452 = .ok (.bipush 71, 2) := by decide +kernel
theorem dX7_init_454 : decode cX7_init 454 = .ok (.bipush 97, 2) := by decide +kernel
theorem dX7_init_456 : decode cX7_init 456 = .ok (.castore, 1) := by decide +kernel
theorem dX7_init_457 : decode cX7_init 457 = .ok (.dup, 1) := by decide +kernel
theorem dX7_init_458 : decode cX7_init 458 = .ok (.bipush 72, 2) := by decide +kernel
theorem dX7_init_460 : decode cX7_init 460 = .ok (.bipush 32, 2) := by decide +kernel
theorem dX7_init_462 : decode cX7_init 462 = .ok (.castore, 1) := by decide +kernel
theorem dX7_init_463 : decode cX7_init 463 = .ok (.dup, 1) := by decide +kernel
theorem dX7_init_464 : decode cX7_init 464 = .ok (.bipush 73, 2) := by decide +kernel
theorem dX7_init_466 : decode cX7_init 466 = .ok (.bipush 98, 2) := by decide +kernel
theorem dX7_init_468 : decode cX7_init 468 = .ok (.castore, 1) := by decide +kernel
theorem dX7_init_469 : decode cX7_init 469 = .ok (.dup, 1) := by decide +kernel
theorem dX7_init_470 : decode cX7_init 470 = .ok (.bipush 74, 2) := by decide +kernel
theorem dX7_init_472 : decode cX7_init 472 = .ok (.bipush 32, 2) := by decide +kernel
theorem dX7_init_474 : decode cX7_init 474 = .ok (.castore, 1) := by decide +kernel
theorem dX7_init_475 : decode cX7_init 475 = .ok (.dup, 1) := by decide +kernel
theorem dX7_init_476 : decode cX7_init 476 = .ok (.bipush 75, 2) := by decide +kernel
theorem dX7_init_478 : decode cX7_init 478 = .ok (.bipush 99, 2) := by decide +kernel
theorem dX7_init_480 : decode cX7_init 480 = .ok (.castore, 1) := by decide +kernel
theorem dX7_init_481 : decode cX7_init 481 = .ok (.dup, 1) := by decide +kernel
theorem dX7_init_482 : decode cX7_init 482 = .ok (.bipush 76, 2) := by decide +kernel
theorem dX7_init_484 : decode cX7_init 484 = .ok (.bipush 32, 2) := by decide +kernel
theorem dX7_init_486 : decode cX7_init 486 = .ok (.castore, 1) := by decide +kernel
theorem dX7_init_487 : decode cX7_init 487 = .ok (.dup, 1) := by decide +kernel
theorem dX7_init_488 : decode cX7_init 488 = .ok (.bipush 77, 2) := by decide +kernel
theorem dX7_init_490 : decode cX7_init 490 = .ok (.bipush 100, 2) := by decide +kernel
theorem dX7_init_492 : decode cX7_init 492 = .ok (.castore, 1) := by decide +kernel
theorem dX7_init_493 : decode cX7_init 493 = .ok (.dup, 1) := by decide +kernel
theorem dX7_init_494 : decode cX7_init 494 = .ok (.bipush 78, 2) := by decide +kernel
theorem dX7_init_496 : decode cX7_init 496 = .ok (.bipush 32, 2) := by decide +kernel
theorem dX7_init_498 : decode cX7_init 498 = .ok (.castore, 1) := by decide +kernel
theorem dX7_init_499 : decode cX7_init 499 = .ok (.dup, 1) := by decide +kernel
theorem dX7_init_500 : decode cX7_init 500 = .ok (.bipush 79, 2) := by decide +kernel
theorem dX7_init_502 : decode cX7_init 502 = .ok (.bipush 119, 2) := by decide +kernel
theorem dX7_init_504 : decode cX7_init 504 = .ok (.castore, 1) := by decide +kernel
theorem dX7_init_505 : decode cX7_init 505 = .ok (.dup, 1) := by decide +kernel
theorem dX7_init_506 : decode cX7_init 506 = .ok (.bipush 80, 2) := by decide +kernel
theorem dX7_init_508 : decode cX7_init 508 = .ok (.bipush 97, 2) := by decide +kernel
theorem dX7_init_510 : decode cX7_init 510 = .ok (.castore, 1) := by decide +kernel
theorem dX7_init_511 : decode cX7_init 511 = .ok (.dup, 1) := by decide +kernel
theorem dX7_init_512 : decode cX7_init 512 = .ok (.bipush 81, 2) := by decide +kernel
theorem dX7_init_514 : decode cX7_init 514 = .ok (.bipush 114, 2) := by decide +kernel
theorem dX7_init_516 : decode cX7_init 516 = .ok (.castore, 1) := by decide +kernel
theorem dX7_init_517 : decode cX7_init 517 = .ok (.dup, 1) := by decide +kernel
theorem dX7_init_518 : decode cX7_init 518 = .ok (.bipush 82, 2) := by decide +kernel
theorem dX7_init_520 : decode cX7_init 520 = .ok (.bipush 112, 2) := by decide +kernel
theorem dX7_init_522 : decode cX7_init 522 = .ok (.castore, 1) := by decide +kernel
theorem dX7_init_523 : decode cX7_init 523 = .ok (.dup, 1) := by decide +kernel
theorem dX7_init_524 : decode cX7_init 524 = .ok (.bipush 83, 2) := by decide +kernel
theorem dX7_init_526 : decode cX7_init 526 = .ok (.bipush 115, 2) := by decide +kernel
theorem dX7_init_528 : decode cX7_init 528 = .ok (.castore, 1) := by decide +kernel
theorem dX7_init_529 : decode cX7_init 529 = .ok (.dup, 1) := by decide +kernel
theorem dX7_init_530 : decode cX7_init 530 = .ok (.bipush 84, 2) := by decide +kernel
theorem dX7_init_532 : decode cX7_init 532 = .ok (.bipush 32, 2) := by decide +kernel
theorem dX7_init_534 : decode cX7_init 534 = .ok (.castore, 1) := by decide +kernel
theorem dX7_init_535 : decode cX7_init 535 = .ok (.dup, 1) := by decide +kernel
theorem dX7_init_536 : decode cX7_init 536 = .ok (.bipush 85, 2) := by decide +kernel
theorem dX7_init_538 : decode cX7_init 538 = .ok (.bipush 119, 2) := by decide +kernel
theorem dX7_init_540 : decode cX7_init 540 = .ok (.castore, 1) := by decide +kernel
theorem dX7_init_541 : decode cX7_init 541 = .ok (.dup, 1) := by decide +kernel
theorem dX7_init_542 : decode cX7_init 542 = .ok (.bipush 86, 2) := by decide +kernel
theorem dX7_init_544 : decode cX7_init 544 = .ok (.bipush 111, 2) := by decide +kernel
theorem dX7_init_546 : decode cX7_init 546 = .ok (.castore, 1) := by decide +kernel
theorem dX7_init_547 : decode cX7_init 547 = .ok (.dup, 1) := by decide +kernel
theorem dX7_init_548 : decode cX7_init 548 = .ok (.bipush 87, 2) := by decide +kernel
theorem dX7_init_550 : decode cX7_init 550 = .ok (.bipush 114, 2) := by decide +kernel
theorem dX7_init_552 : decode cX7_init 552 = .ok (.castore, 1) := by decide +kernel
theorem dX7_init_553 : decode cX7_init 553 = .ok (.dup, 1) := by decide +kernel
theorem dX7_init_554 : decode cX7_init 554 = .ok (.bipush 88, 2) := by decide +kernel
theorem dX7_init_556 : decode cX7_init 556 = .ok (.bipush 100, 2) := by decide +kernel
theorem dX7_init_558 : decode cX7_init 558 = .ok (.castore, 1) := by decide +kernel
theorem dX7_init_559 : decode cX7_init 559 = .ok (.dup, 1) := by decide +kernel
theorem dX7_init_560 : decode cX7_init 560 = .ok (.bipush 89, 2) := by decide +kernel
theorem dX7_init_562 : decode cX7_init 562 = .ok (.bipush 32, 2) := by decide +kernel
theorem dX7_init_564 : decode cX7_init 564 = .ok (.castore, 1) := by decide +kernel
theorem dX7_init_565 : decode cX7_init 565 = .ok (.dup, 1) := by decide +kernel
theorem dX7_init_566 : decode cX7_init 566 = .ok (.bipush 90, 2) := by decide +kernel
theorem dX7_init_568 : decode cX7_init 568 = .ok (.bipush 109, 2) := by decide +kernel
theorem dX7_init_570 : decode cX7_init 570 = .ok (.castore, 1) := by decide +kernel
theorem dX7_init_571 : decode cX7_init 571 = .ok (.dup, 1) := by decide +kernel
theorem dX7_init_572 : decode cX7_init 572 = .ok (.bipush 91, 2) := by decide +kernel
theorem dX7_init_574 : decode cX7_init 574 = .ok (.bipush 111, 2) := by decide +kernel
theorem dX7_init_576 : decode cX7_init 576 = .ok (.castore, 1) := by decide +kernel
theorem dX7_init_577 : decode cX7_init 577 = .ok (.dup, 1) := by decide +kernel
theorem dX7_init_578 : decode cX7_init 578 = .ok (.bipush 92, 2) := by decide +kernel
theorem dX7_init_580 : decode cX7_init 580 = .ok (.bipush 100, 2) := by decide +kernel
theorem dX7_init_582 : decode cX7_init 582 = .ok (.castore, 1) := by decide +kernel
theorem dX7_init_583 : decode cX7_init 583 = .ok (.dup, 1) := by decide +kernel
theorem dX7_init_584 : decode cX7_init 584 = .ok (.bipush 93, 2) := by decide +kernel
theorem dX7_init_586 : decode cX7_init 586 = .ok (.bipush 101, 2) := by decide +kernel
theorem dX7_init_588 : decode cX7_init 588 = .ok (.castore, 1) := by decide +kernel
theorem dX7_init_589 : decode cX7_init 589 = .ok (.dup, 1) := by decide +kernel
theorem dX7_init_590 : decode cX7_init 590 = .ok (.bipush 94, 2) := by decide +kernel
theorem dX7_init_592 : decode cX7_init 592 = .ok (.bipush 32, 2) := by decide +kernel
theorem dX7_init_594 : decode cX7_init 594 = .ok (.castore, 1) := by decide +kernel
theorem dX7_init_595 : decode cX7_init 595 = .ok (.dup, 1) := by decide +kernel
theorem dX7_init_596 : decode cX7_init 596 = .ok (.bipush 95, 2) := by decide +kernel
theorem dX7_init_598 : decode cX7_init 598 = .ok (.bipush 115, 2) := by decide +kernel
theorem dX7_init_600 : decode cX7_init 600 = .ok (.castore, 1) := by decide +kernel
theorem dX7_init_601 : decode cX7_init 601 = .ok (.dup, 1) := by decide +kernel
theorem dX7_init_602 : decode cX7_init 602 = .ok (.bipush 96, 2) := by decide +kernel
theorem dX7_init_604 : decode cX7_init 604 = .ok (.bipush 116, 2) := by decide +kernel
theorem dX7_init_606 : decode cX7_init 606 = .ok (.castore, 1) := by decide +kernel
theorem dX7_init_607 : decode cX7_init 607 = .ok (.dup, 1) := by decide +kernel
theorem dX7_init_608 : decode cX7_init 608 = .ok (.bipush 97, 2) := by decide +kernel
theorem dX7_init_610 : decode cX7_init 610 = .ok (.bipush 97, 2) := by decide +kernel
theorem dX7_init_612 : decode cX7_init 612 = .ok (.castore, 1) := by decide +kernel
theorem dX7_init_613 : decode cX7_init 613 = .ok (.dup, 1) := by decide +kernel
theorem dX7_init_614 : decode cX7_init 614 = .ok (.bipush 98, 2) := by decide +kernel
theorem dX7_init_616 : decode cX7_init 616 = .ok (.bipush 99, 2) := by decide +kernel
theorem dX7_init_618 : decode cX7_init 618 = .ok (.castore, 1) := by decide +kernel
theorem dX7_init_619 : decode cX7_init 619 = .ok (.dup, 1) := by decide +kernel
theorem dX7_init_620 : decode cX7_init 620 = .ok (.bipush 99, 2) := by decide +kernel
theorem dX7_init_622 : decode cX7_init 622 = .ok (.bipush 107, 2) := by decide +kernel
theorem dX7_init_624 : decode cX7_init 624 = .ok (.castore, 1) := by decide +kernel
theorem dX7_init_625 : decode cX7_init 625 = .ok (.dup, 1) := by decide +kernel
theorem dX7_init_626 : decode cX7_init 626 = .ok (.bipush 100, 2) := by decide +kernel
theorem dX7_init_628 : decode cX7_init 628 = .ok (.bipush 32, 2) := by decide +kernel
theorem dX7_init_630 : decode cX7_init 630 = .ok (.castore, 1) := by decide +kernel
theorem dX7_init_631 : decode cX7_init 631 = .ok (.dup, 1) := by decide +kernel
theorem dX7_init_632 : decode cX7_init 632 = .ok (.bipush 101, 2) := by decide +kernel
theorem dX7_init_634 : decode cX7_init 634 = .ok (.bipush 102, 2) := by decide +kernel
theorem dX7_init_636 : decode cX7_init 636 = .ok (.castore, 1) := by decide +kernel
theorem dX7_init_637 : decode cX7_init 637 = .ok (.dup, 1) := by decide +kernel
theorem dX7_init_638 : decode cX7_init 638 = .ok (.bipush 102, 2) := by decide +kernel
theorem dX7_init_640 : decode cX7_init 640 = .ok (.bipush 97, 2) := by decide +kernel
theorem dX7_init_642 : decode cX7_init 642 = .ok (.castore, 1) := by decide +kernel
theorem dX7_init_643 : decode cX7_init 643 = .ok (.dup, 1) := by decide +kernel
theorem dX7_init_644 : decode cX7_init 644 = .ok (.bipush 103, 2) := by decide +kernel
theorem dX7_init_646 : decode cX7_init 646 = .ok (.bipush 105, 2) := by decide +kernel
theorem dX7_init_648 : decode cX7_init 648 = .ok (.castore, 1) := by decide +kernel
theorem dX7_init_649 : decode cX7_init 649 = .ok (.dup, 1) := by decide +kernel
theorem dX7_init_650 : decode cX7_init 650 = .ok (.bipush 104, 2) := by decide +kernel
theorem dX7_init_652 : decode cX7_init 652 = .ok (.bipush 114, 2) := by decide +kernel
theorem dX7_init_654 : decode cX7_init 654 = .ok (.castore, 1) := by decide +kernel
theorem dX7_init_655 : decode cX7_init 655 = .ok (.dup, 1) := by decide +kernel
theorem dX7_init_656 : decode cX7_init 656 = .ok (.bipush 105, 2) := by decide +kernel
theorem dX7_init_658 : decode cX7_init 658 = .ok (.bipush 32, 2) := by decide +kernel
theorem dX7_init_660 : decode cX7_init 660 = .ok (.castore, 1) := by decide +kernel
theorem dX7_init_661 : decode cX7_init 661 = .ok (.dup, 1) := by decide +kernel
theorem dX7_init_662 : decode cX7_init 662 = .ok (.bipush 106, 2) := by decide +kernel
theorem dX7_init_664 : decode cX7_init 664 = .ok (.bipush 111, 2) := by decide +kernel
theorem dX7_init_666 : decode cX7_init 666 = .ok (.castore, 1) := by decide +kernel
theorem dX7_init_667 : decode cX7_init 667 = .ok (.dup, 1) := by decide +kernel
theorem dX7_init_668 : decode cX7_init 668 = .ok (.bipush 107, 2) := by decide +kernel
theorem dX7_init_670 : decode cX7_init 670 = .ok (.bipush 114, 2) := by decide +kernel
theorem dX7_init_672 : decode cX7_init 672 = .ok (.castore, 1) := by decide +kernel
theorem dX7_init_673 : decode cX7_init 673 = .ok (.dup, 1) := by decide +kernel
theorem dX7_init_674 : decode cX7_init 674 = .ok (.bipush 108, 2) := by decide +kernel
theorem dX7_init_676 : decode cX7_init 676 = .ok (.bipush 100, 2) := by decide +kernel
theorem dX7_init_678 : decode cX7_init 678 = .ok (.castore, 1) := by decide +kernel
theorem dX7_init_679 : decode cX7_init 679 = .ok (.dup, 1) := by decide +kernel
theorem dX7_init_680 : decode cX7_init 680 = .ok (.bipush 109, 2) := by decide +kernel
theorem dX7_init_682 : decode cX7_init 682 = .ok (.bipush 101, 2) := by decide +kernel
theorem dX7_init_684 : decode cX7_init 684 = .ok (.castore, 1) := by decide +kernel
theorem dX7_init_685 : decode cX7_init 685 = .ok (.dup, 1) := by decide +kernel
theorem dX7_init_686 : decode cX7_init 686 = .ok (.bipush 110, 2) := by decide +kernel
theorem dX7_init_688 : decode cX7_init 688 = .ok (.bipush 114, 2) := by decide +kernel
theorem dX7_init_690 : decode cX7_init 690 = .ok (.castore, 1) := by decide +kernel

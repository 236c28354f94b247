theorem dX6_init_426 : decode cX6_init 426 = .ok (.bipush 25, 2) := by decide +kernel
theorem dX6_init_428 : decode cX6_init 428 = .ok (.bipush 111, 2) := by decide +kernel
theorem dX6_init_430 : decode cX6_init 430 = .ok (.iastore, 1) := by decide +kernel
theorem dX6_init_431 : decode cX6_init 431 = .ok (.dup, 1) := by decide +kernel
theorem dX6_init_432 : decode cX6_init 432 = .ok (.bipush 26, 2) := by decide +kernel
theorem dX6_init_434 : decode cX6_init 434 = .ok (.bipush 112, 2) := by decide +kernel
theorem dX6_init_436 : decode cX6_init 436 = .ok (.iastore, 1) := by decide +kernel
theorem dX6_init_437 : decode cX6_init 437 = .ok (.dup, 1) := by decide +kernel
theorem dX6_init_438 : decode cX6_init 438 = .ok (.bipush 27, 2) := by decide +kernel
theorem dX6_init_440 : decode cX6_init 440 = .ok (.bipush 115, 2) := by decide +kernel
theorem dX6_init_442 : decode cX6_init 442 = .ok (.iastore, 1) := by decide +kernel
theorem dX6_init_443 : decode cX6_init 443 = .ok (.dup, 1) := by decide +kernel
theorem dX6_init_444 : decode cX6_init 444 = .ok (.bipush 28, 2) := by decide +kernel
theorem dX6_init_446 : decode cX6_init 446 = .ok (.bipush 32, 2) := by decide +kernel
theorem dX6_init_448 : decode cX6_init 448 = .ok (.iastore, 1) := by decide +kernel
theorem dX6_init_449 : decode cX6_init 449 = .ok (.dup, 1) := by decide +kernel
theorem dX6_init_450 : decode cX6_init 450 = .ok (.bipush 29, 2) := by decide +kernel
theorem dX6_init_452 : decode cX6_init 452 = .ok (.bipush 104, 2) := by decide +kernel
theorem dX6_init_454 : decode cX6_init 454 = .ok (.iastore, 1) := by decide +kernel
theorem dX6_init_455 : decode cX6_init 455 = .ok (.dup, 1) := by decide +kernel
theorem dX6_init_456 : decode cX6_init 456 = .ok (.bipush 30, 2) := by decide +kernel
theorem dX6_init_458 : decode cX6_init 458 = .ok (.bipush 111, 2) := by decide +kernel
theorem dX6_init_460 : decode cX6_init 460 = .ok (.iastore, 1) := by decide +kernel
theorem dX6_init_461 : decode cX6_init 461 = .ok (.dup, 1) := by decide +kernel
theorem dX6_init_462 : decode cX6_init 462 = .ok (.bipush 31, 2) := by decide +kernel
theorem dX6_init_464 : decode cX6_init 464 = .ok (.bipush 117, 2) := by decide +kernel
theorem dX6_init_466 : decode cX6_init 466 = .ok (.iastore, 1) := by decide +kernel
theorem dX6_init_467 : decode cX6_init 467 = .ok (.dup, 1) := by decide +kernel
theorem dX6_init_468 : decode cX6_init 468 = .ok (.bipush 32, 2) := by decide +kernel
theorem dX6_init_470 : decode cX6_init 470 = .ok (.bipush 114, 2) := by decide +kernel
theorem dX6_init_472 : decode cX6_init 472 = .ok (.iastore, 1) := by decide +kernel
theorem dX6_init_473 : decode cX6_init 473 = .ok (.dup, 1) := by decide +kernel
theorem dX6_init_474 : decode cX6_init 474 = .ok (.bipush 33, 2) := by decide +kernel
theorem dX6_init_476 : decode cX6_init 476 = .ok (.bipush 32, 2) := by decide +kernel
theorem dX6_init_478 : decode cX6_init 478 = .ok (.iastore, 1) := by decide +kernel
theorem dX6_init_479 : decode cX6_init 479 = .ok (.dup, 1) := by decide +kernel
theorem dX6_init_480 : decode cX6_init 480 = .ok (.bipush 34, 2) := by decide +kernel
theorem dX6_init_482 : decode cX6_init 482 = .ok (.bipush 59, 2) := by decide +kernel
theorem dX6_init_484 : decode cX6_init 484 = .ok (.iastore, 1) := by decide +kernel
theorem dX6_init_485 : decode cX6_init 485 = .ok (.putfield 52, 3) := by decide +kernel
theorem dX6_init_488 : decode cX6_init 488 = .ok (.aload_n 0, 1) := by decide +kernel
theorem dX6_init_489 : decode cX6_init 489 = .ok (.bipush 96, 2) := by decide +kernel
theorem dX6_init_491 : decode cX6_init 491 = .ok (.newarray .int, 2) := by decide +kernel
theorem dX6_init_493 : decode cX6_init 493 = .ok (.dup, 1) := by decide +kernel
theorem dX6_init_494 : decode cX6_init 494 = .ok (.iconst 0, 1) := by decide +kernel
theorem dX6_init_495 : decode cX6_init 495 = .ok (.bipush 108, 2) := by decide +kernel
theorem dX6_init_497 : decode cX6_init 497 = .ok (.iastore, 1) := by decide +kernel
theorem dX6_init_498 : decode cX6_init 498 = .ok (.dup, 1) := by decide +kernel
theorem dX6_init_499 : decode cX6_init 499 = .ok (.iconst 1, 1) := by decide +kernel
theorem dX6_init_500 : decode cX6_init 500 = .ok (.bipush 111, 2) := by decide +kernel
theorem dX6_init_502 : decode cX6_init 502 = .ok (.iastore, 1) := by decide +kernel
theorem dX6_init_503 : decode cX6_init 503 = .ok (.dup, 1) := by decide +kernel
theorem dX6_init_504 : decode cX6_init 504 = .ok (.iconst 2, 1) := by decide +kernel
theorem dX6_init_505 : decode cX6_init 505 = .ok (.bipush 111, 2) := by decide +kernel
theorem dX6_init_507 : decode cX6_init 507 = .ok (.iastore, 1) := by decide +kernel
theorem dX6_init_508 : decode cX6_init 508 = .ok (.dup, 1) := by decide +kernel
theorem dX6_init_509 : decode cX6_init 509 = .ok (.iconst 3, 1) := by decide +kernel
theorem dX6_init_510 : decode cX6_init 510 = .ok (.bipush 107, 2) := by decide +kernel
theorem dX6_init_512 : decode cX6_init 512 = .ok (.iastore, 1) := by decide +kernel
theorem dX6_init_513 : decode cX6_init 513 = .ok (.dup, 1) := by decide +kernel
theorem dX6_init_514 : decode cX6_init 514 = .ok (.iconst 4, 1) := by decide +kernel
theorem dX6_init_515 : decode cX6_init 515 = .ok (.bipush 115, 2) := by decide +kernel
theorem dX6_init_517 : decode cX6_init 517 = .ok (.iastore, 1) := by decide +kernel
theorem dX6_init_518 : decode cX6_init 518 = .ok (.dup, 1) := by decide +kernel
theorem dX6_init_519 : decode cX6_init 519 = .ok (.iconst 5, 1) := by decide +kernel
theorem dX6_init_520 : decode cX6_init 520 = .ok (.bipush 32, 2) := by decide +kernel
theorem dX6_init_522 : decode cX6_init 522 = .ok (.iastore, 1) := by decide +kernel
theorem dX6_init_523 : decode cX6_init 523 = .ok (.dup, 1) := by decide +kernel
theorem dX6_init_524 : decode cX6_init 524 = .ok (.bipush 6, 2) := by decide +kernel
theorem dX6_init_526 : decode cX6_init 526 = .ok (.bipush 32, 2) := by decide +kernel
theorem dX6_init_528 : decode cX6_init 528 = .ok (.iastore, 1) := by decide +kernel
theorem dX6_init_529 : decode cX6_init 529 = .ok (.dup, 1) := by decide +kernel
theorem dX6_init_530 : decode cX6_init 530 = .ok (.bipush 7, 2) := by decide +kernel
theorem dX6_init_532 : decode cX6_init 532 = .ok (.bipush 32, 2) := by decide +kernel
theorem dX6_init_534 : decode cX6_init 534 = .ok (.iastore, 1) := by decide +kernel
theorem dX6_init_535 : decode cX6_init 535 = .ok (.dup, 1) := by decide +kernel
theorem dX6_init_536 : decode cX6_init 536 = .ok (.bipush 8, 2) := by decide +kernel
theorem dX6_init_538 : decode cX6_init 538 = .ok (.bipush 119, 2) := by decide +kernel
theorem dX6_init_540 : decode cX6_init 540 = .ok (.iastore, 1) := by decide +kernel
theorem dX6_init_541 : decode cX6_init 541 = .ok (.dup, 1) := by decide +kernel
theorem dX6_init_542 : decode cX6_init 542 = .ok (.bipush 9, 2) := by decide +kernel
theorem dX6_init_544 : decode cX6_init 544 = .ok (.bipush 97, 2) := by decide +kernel
theorem dX6_init_546 : decode cX6_init 546 = .ok (.iastore, 1) := by decide +kernel
theorem dX6_init_547 : decode cX6_init 547 = .ok (.dup, 1) := by decide +kernel
theorem dX6_init_548 : decode cX6_init 548 = .ok (.bipush 10, 2) := by decide +kernel
theorem dX6_init_550 : decode cX6_init 550 = .ok (.bipush 105, 2) := by decide +kernel
theorem dX6_init_552 : decode cX6_init 552 = .ok (.iastore, 1) := by decide +kernel
theorem dX6_init_553 : decode cX6_init 553 = .ok (.dup, 1) := by decide +kernel
theorem dX6_init_554 : decode cX6_init 554 = .ok (.bipush 11, 2) := by decide +kernel
theorem dX6_init_556 : decode cX6_init 556 = .ok (.bipush 116, 2) := by decide +kernel
theorem dX6_init_558 : decode cX6_init 558 = .ok (.iastore, 1) := by decide +kernel
theorem dX6_init_559 : decode cX6_init 559 = .ok (.dup, 1) := by decide +kernel
theorem dX6_init_560 : decode cX6_init 560 = .ok (.bipush 12, 2) := by decide +kernel
theorem dX6_init_562 : decode cX6_init 562 = .ok (.bipush 115, 2) := by decide +kernel
theorem dX6_init_564 : decode cX6_init 564 = .ok (.iastore, 1) := by decide +kernel
theorem dX6_init_565 : decode cX6_init 565 = .ok (.dup, 1) := by decide +kernel
theorem dX6_init_566 : decode cX6_init 566 = .ok (.bipush 13, 2) := by decide +kernel
theorem dX6_init_568 : decode cX6_init 568 = .ok (.bipush 32, 2) := by decide +kernel
theorem dX6_init_570 : decode cX6_init 570 = .ok (.iastore, 1) := by decide +kernel
theorem dX6_init_571 : decode cX6_init 571 = .ok (.dup, 1) := by decide +kernel
theorem dX6_init_572 : decode cX6_init 572 = .ok (.bipush 14, 2) := by decide +kernel
theorem dX6_init_574 : decode cX6_init 574 = .ok (.bipush 32, 2) := by decide +kernel
theorem dX6_init_576 : decode cX6_init 576 = .ok (.iastore, 1) := by decide +kernel
theorem dX6_init_577 : decode cX6_init 577 = .ok (.dup, 1) := by decide +kernel
theorem dX6_init_578 : decode cX6_init 578 = .ok (.bipush 15, 2) := by decide +kernel
theorem dX6_init_580 : decode cX6_init 580 = .ok (.bipush 32, 2) := by decide +kernel
theorem dX6_init_582 : decode cX6_init 582 = .ok (.iastore, 1) := by decide +kernel
theorem dX6_init_583 : decode cX6_init 583 = .ok (.dup, 1) := by decide +kernel
theorem dX6_init_584 : decode cX6_init 584 = .ok (.bipush 16, 2) := by decide +kernel
theorem dX6_init_586 : decode cX6_init 586 = .ok (.bipush 100, 2) := by decide +kernel
theorem dX6_init_588 : decode cX6_init 588 = .ok (.iastore, 1) := by decide +kernel
theorem dX6_init_589 : decode cX6_init 589 = .ok (.dup, 1) := by decide +kernel
theorem dX6_init_590 : decode cX6_init 590 = .ok (.bipush 17, 2) := by decide +kernel
theorem dX6_init_592 : decode cX6_init 592 = .ok (.bipush 114, 2) := by decide +kernel
theorem dX6_init_594 : decode cX6_init 594 = .ok (.iastore, 1) := by decide +kernel
theorem dX6_init_595 : decode cX6_init 595 = .ok (.dup, 1) := by decide +kernel
theorem dX6_init_596 : decode cX6_init 596 = .ok (.bipush 18, 2) := by decide +kernel
theorem dX6_init_598 : decode cX6_init 598 = .ok (.bipush 111, 2) := by decide +kernel
theorem dX6_init_600 : decode cX6_init 600 = .ok (.iastore, 1) := by decide +kernel
theorem dX6_init_601 : decode cX6_init 601 = .ok (.dup, 1) := by decide +kernel
theorem dX6_init_602 : decode cX6_init 602 = .ok (.bipush 19, 2) := by decide +kernel
theorem dX6_init_604 : decode cX6_init 604 = .ok (.bipush 112, 2) := by decide +kernel
theorem dX6_init_606 : decode cX6_init 606 = .ok (.iastore, 1) := by decide +kernel
theorem dX6_init_607 : decode cX6_init 607 = .ok (.dup, 1) := by decide +kernel
theorem dX6_init_608 : decode cX6_init 608 = .ok (.bipush 20, 2) := by decide +kernel
theorem dX6_init_610 : decode cX6_init 610 = .ok (.bipush 115, 2) := by decide +kernel
theorem dX6_init_612 : decode cX6_init 612 = .ok (.iastore, 1) := by decide +kernel
theorem dX6_init_613 : decode cX6_init 613 = .ok (.dup, 1) := by decide +kernel
theorem dX6_init_614 : decode cX6_init 614 = .ok (.bipush 21, 2) := by decide +kernel
theorem dX6_init_616 : decode cX6_init 616 = .ok (.bipush 32, 2) := by decide +kernel
theorem dX6_init_618 : decode cX6_init 618 = .ok (.iastore, 1) := by decide +kernel
theorem dX6_init_619 : decode cX6_init 619 = .ok (.dup, 1) := by decide +kernel
theorem dX6_init_620 : decode cX6_init 620 = .ok (.bipush 22, 2) := by decide +kernel
theorem dX6_init_622 : decode cX6_init 622 = .ok (.bipush 32, 2) := by decide +kernel
theorem dX6_init_624 : decode cX6_init 624 = .ok (.iastore, 1) := by decide +kernel
theorem dX6_init_625 : decode cX6_init 625 = .ok (.dup, 1) := by decide +kernel
theorem dX6_init_626 : decode cX6_init 626 = .ok (.bipush 23, 2) := by decide +kernel
theorem dX6_init_628 : decode cX6_init 628 = .ok (.bipush 32, 2) := by decide +kernel
theorem dX6_init_630 : decode cX6_init 630 = .ok (.iastore, 1) := by decide +kernel
theorem dX6_init_631 : decode cX6_init 631 = .ok (.dup, 1) := by decide +kernel
theorem dX6_init_632 : decode cX6_init 632 = .ok (.bipush 24, 2) := by decide +kernel
theorem dX6_init_634 : decode cX6_init 634 = .ok (.bipush 102, 2) := by decide +kernel
theorem dX6_init_636 : decode cX6_init 636 = .ok (.iastore, 1) := by decide +kernel
theorem dX6_init_637 : decode cX6_init 637 = .ok (.dup, 1) := by decide +kernel
theorem dX6_init_638 : decode cX6_init 638 = .ok (.bipush 25, 2) := by decide +kernel
theorem dX6_init_640 : decode cX6_init 640 = .ok (.bipush 97, 2) := by decide +kernel
theorem dX6_init_642 : decode cX6_init 642 = .ok (.iastore, 1) := by decide +kernel
theorem dX6_init_643 : decode cX6_init 643 = .ok (.dup, 1) := by decide +kernel
theorem dX6_init_644 : decode cX6_init 644 = .ok (.bipush 26, 2) := by decide +kernel
theorem dX6_init_646 : decode cX6_init 646 = .ok (.bipush 99, 2) := by decide +kernel
theorem dX6_init_648 : decode cX6_init 648 = .ok (.iastore, 1) := by decide +kernel
theorem dX6_init_649 : decode cX6_init 649 = .ok (.dup, 1) := by decide +kernel
theorem dX6_init_650 : decode cX6_init 650 = .ok (.bipush 27, 2) := by decide +kernel
theorem dX6_init_652 : decode cX6_init 652 = .ok (.bipush 101, 2) := by decide +kernel
theorem dX6_init_654 : decode cX6_init 654 = .ok (.iastore, 1) := by decide +kernel
theorem dX6_init_655 : decode cX6_init 655 = .ok (.dup, 1) := by decide +kernel
theorem dX6_init_656 : decode cX6_init 656 = .ok (.bipush 28, 2) := by decide +kernel
theorem dX6_init_658 : decode cX6_init 658 = .ok (.bipush 32, 2) := by decide +kernel
theorem dX6_init_660 : decode cX6_init 660 = .ok (.iastore, 1) := by decide +kernel
theorem dX6_init_661 : decode cX6_init 661 = .ok (.dup, 1) := by decide +kernel
theorem dX6_init_662 : decode cX6_init 662 = .ok (.bipush 29, 2) := by decide +kernel
theorem dX6_init_664 : decode cX6_init 664 = .ok (.bipush 32, 2) := by decide +kernel
theorem dX6_init_666 : decode cX6_init 666 = .ok (.iastore, 1) := by decide +kernel
theorem dX6_init_667 : decode cX6_init 667 = .ok (.dup, 1) := by decide +kernel
theorem dX6_init_668 : decode cX6_init 668 = .ok (.bipush 30, 2) := by decide +kernel
theorem dX6_init_670 : decode cX6_init 670 = .ok (.bipush 32, 2) := by decide +kernel
theorem dX6_init_672 : decode cX6_init 672 = .ok (.iastore, 1) := by decide +kernel
theorem dX6_init_673 : decode cX6_init 673 = .ok (.dup, 1) := by decide +kernel
theorem dX6_init_674 : decode cX6_init 674 = .ok (.bipush 31, 2) := by decide +kernel
theorem dX6_init_676 : decode cX6_init 676 = .ok (.bipush 32, 2) := by decide +kernel
theorem dX6_init_678 : decode cX6_init 678 = .ok (.iastore, 1) := by decide +kernel
theorem dX6_init_679 : decode cX6_init 679 = .ok (.dup, 1) := by decide +kernel
theorem dX6_init_680 : decode cX6_init 680 = .ok (.bipush 32, 2) := by decide +kernel
theorem dX6_init_682 : decode cX6_init 682 = .ok (.bipush 107, 2) := by decide +kernel
theorem dX6_init_684 : decode cX6_init 684 = .ok (.iastore, 1) := by decide +kernel
theorem dX6_init_685 : decode cX6_init 685 = .ok (.dup, 1) := by decide +kernel
theorem dX6_init_686 : decode cX6_init 686 = .ok (.bipush 33, 2) := by decide +kernel
theorem dX6_init_688 : decode cX6_init 688 = .ok (.bipush 110, 2) := by decide +kernel
theorem dX6_init_690 : decode cX6_init 690 = .ok (.iastore, 1) := by decide +kernel
theorem dX6_init_691 : decode cX6_init 691 = .ok (.dup, 1) := by decide +kernel
theorem dX6_init_692 : decode cX6_init 692 = .ok (.bipush 34, 2) := by decide +kernel
theorem dX6_init_694 : decode cX6_init 694 = .ok (.bipush 111, 2) := by decide +kernel
theorem dX6_init_696 : decode cX6_init 696 = .ok (.iastore, 1) := by decide +kernel
theorem dX6_init_697 : decode cX6_init 697 = .ok (.dup, 1) := by decide +kernel
theorem dX6_init_698 : decode cX6_init 698 = .ok (.bipush 35, 2) := by decide +kernel
theorem dX6_init_700 : decode cX6_init 700 = .ok (.bipush 119, 2) := by decide +kernel
theorem dX6_init_702 : decode cX6_init 702 = .ok (.iastore, 1) := by decide +kernel
theorem dX6_init_703 : decode cX6_init 703 = .ok (.dup, 1) := by decide +kernel
theorem dX6_init_704 : decode cX6_init 704 = .ok (.bipush 36, 2) := by decide +kernel
theorem dX6_init_706 : decode cX6_init 706 = .ok (.bipush 110, 2) := by decide +kernel
theorem dX6_init_708 : decode cX6_init 708 = .ok (.iastore, 1) := by decide +kernel
theorem dX6_init_709 : decode cX6_init 709 = .ok (.dup, 1) := by decide +kernel
theorem dX6_init_710 : decode cX6_init 710 = .ok (.bipush 37, 2) := by decide +kernel
theorem dX6_init_712 : decode cX6_init 712 = .ok (.bipush 32, 2) := by decide +kernel
theorem dX6_init_714 : decode cX6_init 714 = .ok (.iastore, 1) := by decide +kernel
theorem dX6_init_715 : decode cX6_init 715 = .ok (.dup, 1) := by decide +kernel
theorem dX6_init_716 : decode cX6_init 716 = .ok (.bipush 38, 2) := by decide +kernel
theorem dX6_init_718 : decode cX6_init 718 = .ok (.bipush 32, 2) := by decide +kernel
theorem dX6_init_720 : decode cX6_init 720 = .ok (.iastore, 1) := by decide +kernel
theorem dX6_init_721 : decode cX6_init 721 = .ok (.dup, 1) := by decide +kernel
theorem dX6_init_722 : decode cX6_init 722 = .ok (.bipush 39, 2) := by decide +kernel
theorem dX6_init_724 : decode cX6_init 724 = .ok (.bipush 32, 2) := by decide +kernel
theorem dX6_init_726 : decode cX6_init 726 = .ok (.iastore, 1) := by decide +kernel
theorem dX6_init_727 : decode cX6_init 727 = .ok (.dup, 1) := by decide +kernel
theorem dX6_init_728 : decode cX6_init 728 = .ok (.bipush 40, 2) := by decide +kernel
theorem dX6_init_730 : decode cX6_init 730 = .ok (.bipush 104, 2) := by decide +kernel
theorem dX6_init_732 : decode cX6_init 732 = .ok (.iastore, 1) := by decide +kernel
theorem dX6_init_733 : decode cX6_init 733 = .ok (.dup, 1) := by decide +kernel
theorem dX6_init_734 : decode cX6_init 734 = .ok (.bipush 41, 2) := by decide +kernel
theorem dX6_init_736 : decode cX6_init 736 = .ok (.bipush 111, 2) := by decide +kernel
theorem dX6_init_738 : decode cX6_init 738 = .ok (.iastore, 1) := by decide +kernel
theorem dX6_init_739 : decode cX6_init 739 = .ok (.dup, 1) := by decide +kernel
theorem dX6_init_740 : decode cX6_init 740 = .ok (.bipush 42, 2) := by decide +kernel
theorem dX6_init_742 : decode cX6_init 742 = .ok (.bipush 117, 2) := by decide +kernel
theorem dX6_init_744 : decode cX6_init 744 = .ok (.iastore, 1) := by decide +kernel
theorem dX6_init_745 : decode cX6_init 745 = .ok (.dup, 1) := by decide +kernel
theorem dX6_init_746 : decode cX6_init 746 = .ok (.bipush 43, 2) := by decide +kernel
theorem dX6_init_748 : decode cX6_init 748 = .ok (.bipush 114, 2) := by decide +kernel
theorem dX6_init_750 : decode cX6_init 750 = .ok (.iastore, 1) := by decide +kernel
theorem dX6_init_751 : decode cX6_init 751 = .ok (.dup, 1) := by decide +kernel
theorem dX6_init_752 : decode cX6_init 752 = .ok (.bipush 44, 2) := by decide +kernel
theorem dX6_init_754 : decode cX6_init 754 = .ok (.bipush 32, 2) := by decide +kernel
theorem dX6_init_756 : decode cX6_init 756 = .ok (.iastore, 1) := by decide +kernel
theorem dX6_init_757 : decode cX6_init 757 = .ok (.dup, 1) := by decide +kernel
theorem dX6_init_758 : decode cX6_init 758 = .ok (.bipush 45, 2) := by decide +kernel
theorem dX6_init_760 : decode cX6_init 760 = .ok (.bipush 32, 2) := by decide +kernel
theorem dX6_init_762 : decode cX6_init 762 = .ok (.iastore, 1) := by decide +kernel
theorem dX6_init_763 : decode cX6_init 763 = .ok (.dup, 1) := by decide +kernel
theorem dX6_init_764 : decode cX6_init 764 = .ok (.bipush 46, 2) := by decide +kernel
theorem dX6_init_766 : decode cX6_init 766 = .ok (.bipush 32, 2) := by decide +kernel
theorem dX6_init_768 : decode cX6_init 768 = .ok (.iastore, 1) := by decide +kernel
theorem dX6_init_769 : decode cX6_init 769 = .ok (.dup, 1) := by decide +kernel
theorem dX6_init_770 : decode cX6_init 770 = .ok (.bipush 47, 2) := by decide +kernel
theorem dX6_init_772 : decode cX6_init 772 = .ok (.bipush 32, 2) := by decide +kernel
theorem dX6_init_774 : decode cX6_init 774 = .ok (.iastore, 1) := by decide +kernel
theorem dX6_init_775 : decode cX6_init 775 = .ok (.dup, 1) := by decide +kernel
theorem dX6_init_776 : decode cX6_init 776 = .ok (.bipush 48, 2) := by decide +kernel
theorem dX6_init_778 : decode cX6_init 778 = .ok (.bipush 108, 2) := by decide +kernel
theorem dX6_init_780 : decode cX6_init 780 = .ok (.iastore, 1) := by decide +kernel
theorem dX6_init_781 : decode cX6_init 781 = .ok (.dup, 1) := by decide +kernel
theorem dX6_init_782 : decode cX6_init 782 = .ok (.bipush 49, 2) := by decide +kernel
theorem dX6_init_784 : decode cX6_init 784 = .ok (.bipush 121, 2) := by decide +kernel
theorem dX6_init_786 : decode cX6_init 786 = .ok (.iastore, 1) := by decide +kernel
theorem dX6_init_787 : decode cX6_init 787 = .ok (.dup, 1) := by decide +kernel
theorem dX6_init_788 : decode cX6_init 788 = .ok (.bipush 50, 2) := by decide +kernel
theorem dX6_init_790 : decode cX6_init 790 = .ok (.bipush 105, 2) := by decide +kernel
theorem dX6_init_792 : decode cX6_init 792 = .ok (.iastore, 1) := by decide +kernel
theorem dX6_init_793 : decode cX6_init 793 = .ok (.dup, 1) := by decide +kernel
theorem dX6_init_794 : decode cX6_init 794 = .ok (.bipush 51, 2) := by decide +kernel
theorem dX6_init_796 : decode cX6_init 796 = .ok (.bipush 110, 2) := by decide +kernel
theorem dX6_init_798 : decode cX6_init 798 = .ok (.iastore, 1) := by decide +kernel
theorem dX6_init_799 : decode cX6_init 799 = .ok (.dup, 1) := by decide +kernel
theorem dX6_init_800 : decode cX6_init 800 = .ok (.bipush 52, 2) := by decide +kernel
theorem dX6_init_802 : decode cX6_init 802 = .ok (.bipush 103, 2) := by decide +kernel
theorem dX6_init_804 : decode cX6_init 804 = .ok (.iastore, 1) := by decide +kernel
theorem dX6_init_805 : decode cX6_init 805 = .ok (.dup, 1) := by decide +kernel
theorem dX6_init_806 : decode cX6_init 806 = .ok (.bipush 53, 2) := by decide +kernel
theorem dX6_init_808 : decode cX6_init 808 = .ok (.bipush 32, 2) := by decide +kernel
theorem dX6_init_810 : decode cX6_init 810 = .ok (.iastore, 1) := by decide +kernel
theorem dX6_init_811 : decode cX6_init 811 = .ok (.dup, 1) := by decide +kernel
theorem dX6_init_812 : decode cX6_init 812 = .ok (.bipush 54, 2) := by decide +kernel
theorem dX6_init_814 : decode cX6_init 814 = .ok (.bipush 32, 2) := by decide +kernel
theorem dX6_init_816 : decode cX6_init 816 = .ok (.iastore, 1) := by decide +kernel
theorem dX6_init_817 : decode cX6_init 817 = .ok (.dup, 1) := by decide +kernel
theorem dX6_init_818 : decode cX6_init 818 = .ok (.bipush 55, 2) := by decide +kernel
theorem dX6_init_820 : decode cX6_init 820 = .ok (.bipush 32, 2) := by decide +kernel
theorem dX6_init_822 : decode cX6_init 822 = .ok (.iastore, 1) := by decide +kernel
theorem dX6_init_823 : decode cX6_init 823 = .ok (.dup, 1) := by decide +kernel
theorem dX6_init_824 : decode cX6_init 824 = .ok (.bipush 56, 2) := by decide +kernel
theorem dX6_init_826 : decode cX6_init 826 = .ok (.bipush 97, 2) := by decide +kernel
theorem dX6_init_828 : decode cX6_init 828 = .ok (.iastore, 1) := by decide +kernel
theorem dX6_init_829 : decode cX6_init 829 = .ok (.dup, 1) := by decide +kernel
theorem dX6_init_830 : decode cX6_init 830 = .ok (.bipush 57, 2) := by decide +kernel
theorem dX6_init_832 : decode cX6_init 832 = .ok (.bipush 100, 2) := by decide +kernel
theorem dX6_init_834 : decode cX6_init 834 = .ok (.iastore, 1) := by decide +kernel
theorem dX6_init_835 : decode cX6_init 835 = .ok (.dup, 1) := by decide +kernel
theorem dX6_init_836 : decode cX6_init 836 = .ok (.bipush 58, 2) := by decide +kernel
theorem dX6_init_838 : decode cX6_init 838 = .ok (.bipush 109, 2) := by decide +kernel
theorem dX6_init_840 : decode cX6_init 840 = .ok (.iastore, 1) := by decide +kernel
theorem dX6_init_841 : decode cX6_init 841 = .ok (.dup, 1) := by decide +kernel
theorem dX6_init_842 : decode cX6_init 842 = .ok (.bipush 59, 2) := by decide +kernel
theorem dX6_init_844 : decode cX6_init 844 = .ok (.bipush 105, 2) := by decide +kernel
theorem dX6_init_846 : decode cX6_init 846 = .ok (.iastore, 1) := by decide +kernel
theorem dX6_init_847 : decode cX6_init 847 = .ok (.dup, 1) := by decide +kernel
theorem dX6_init_848 : decode cX6_init 848 = .ok (.bipush 60, 2) := by decide +kernel
theorem dX6_init_850 : decode cX6_init 850 = .ok (.bipush 116, 2) := by decide +kernel
theorem dX6_init_852 : decode cX6_init 852 = .ok (.iastore, 1) := by decide +kernel
theorem dX6_init_853 : decode cX6_init 853 = .ok (.dup, 1) := by decide +kernel
theorem dX6_init_854 : decode cX6_init 854 = .ok (.bipush 61, 2) := by decide +kernel
theorem dX6_init_856 : decode cX6_init 856 = .ok (.bipush 116, 2) := by decide +kernel
theorem dX6_init_858 : decode cX6_init 858 = .ok (.iastore, 1) := by decide +kernel
theorem dX6_init_859 : decode cX6_init 859 = .ok (.dup, 1) := by decide +kernel
theorem dX6_init_860 : decode cX6_init 860 = .ok (.bipush 62, 2) := by decide +kernel
theorem dX6_init_862 : decode cX6_init 862 = .ok (.bipush 101, 2) := by decide +kernel
theorem dX6_init_864 : decode cX6_init 864 = .ok (.iastore, 1) := by decide +kernel
theorem dX6_init_865 : decode cX6_init 865 = .ok (.dup, 1) := by decide +kernel
theorem dX6_init_866 : decode cX6_init 866 = .ok (.bipush 63, 2) := by decide +kernel
theorem dX6_init_868 : decode cX6_init 868 = .ok (.bipush 100, 2) := by decide +kernel
theorem dX6_init_870 : decode cX6_init 870 = .ok (.iastore, 1) := by decide +kernel
theorem dX6_init_871 : decode cX6_init 871 = .ok (.dup, 1) := by decide +kernel

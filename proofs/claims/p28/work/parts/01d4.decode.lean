theorem dL_law_374 : decode cL_law 374 = .ok (.iload 19, 2) := by decide +kernel
theorem dL_law_376 : decode cL_law 376 = .ok (.invokevirtual 62, 3) := by decide +kernel
theorem dL_law_379 : decode cL_law 379 = .ok (.iload 21, 2) := by decide +kernel
theorem dL_law_381 : decode cL_law 381 = .ok (.ifCond .eq 10, 3) := by decide +kernel
theorem dL_law_384 : decode cL_law 384 = .ok (.aload_n 2, 1) := by decide +kernel
theorem dL_law_385 : decode cL_law 385 = .ok (.iload 15, 2) := by decide +kernel
theorem dL_law_387 : decode cL_law 387 = .ok (.iaload, 1) := by decide +kernel
theorem dL_law_388 : decode cL_law 388 = .ok (.goto 5, 3) := by decide +kernel
theorem dL_law_391 : decode cL_law 391 = .ok (.bipush (-5), 2) := by decide +kernel
theorem dL_law_393 : decode cL_law 393 = .ok (.if_icmp .ne 7, 3) := by decide +kernel
theorem dL_law_396 : decode cL_law 396 = .ok (.iconst 1, 1) := by decide +kernel
theorem dL_law_397 : decode cL_law 397 = .ok (.goto 4, 3) := by decide +kernel
theorem dL_law_400 : decode cL_law 400 = .ok (.iconst 0, 1) := by decide +kernel
theorem dL_law_401 : decode cL_law 401 = .ok (.istore 18, 2) := by decide +kernel
theorem dL_law_403 : decode cL_law 403 = .ok (.aload_n 2, 1) := by decide +kernel
theorem dL_law_404 : decode cL_law 404 = .ok (.iload 15, 2) := by decide +kernel
theorem dL_law_406 : decode cL_law 406 = .ok (.iload 21, 2) := by decide +kernel
theorem dL_law_408 : decode cL_law 408 = .ok (.ifCond .eq 8, 3) := by decide +kernel
theorem dL_law_411 : decode cL_law 411 = .ok (.iload 19, 2) := by decide +kernel
theorem dL_law_413 : decode cL_law 413 = .ok (.goto 7, 3) := by decide +kernel
theorem dL_law_416 : decode cL_law 416 = .ok (.aload_n 2, 1) := by decide +kernel
theorem dL_law_417 : decode cL_law 417 = .ok (.iload 15, 2) := by decide +kernel
theorem dL_law_419 : decode cL_law 419 = .ok (.iaload, 1) := by decide +kernel
theorem dL_law_420 : decode cL_law 420 = .ok (.iastore, 1) := by decide +kernel
theorem dL_law_421 : decode cL_law 421 = .ok (.aload_n 3, 1) := by decide +kernel
theorem dL_law_422 : decode cL_law 422 = .ok (.iload 15, 2) := by decide +kernel
theorem dL_law_424 : decode cL_law 424 = .ok (.aload_n 2, 1) := by decide +kernel
theorem dL_law_425 : decode cL_law 425 = .ok (.iload 15, 2) := by decide +kernel
theorem dL_law_427 : decode cL_law 427 = .ok (.iaload, 1) := by decide +kernel
theorem dL_law_428 : decode cL_law 428 = .ok (.iconst 2, 1) := by decide +kernel
theorem dL_law_429 : decode cL_law 429 = .ok (.if_icmp .ne 7, 3) := by decide +kernel
theorem dL_law_432 : decode cL_law 432 = .ok (.iconst 0, 1) := by decide +kernel
theorem dL_law_433 : decode cL_law 433 = .ok (.goto 7, 3) := by decide +kernel
theorem dL_law_436 : decode cL_law 436 = .ok (.aload_n 3, 1) := by decide +kernel
theorem dL_law_437 : decode cL_law 437 = .ok (.iload 15, 2) := by decide +kernel
theorem dL_law_439 : decode cL_law 439 = .ok (.iaload, 1) := by decide +kernel
theorem dL_law_440 : decode cL_law 440 = .ok (.iastore, 1) := by decide +kernel
theorem dL_law_441 : decode cL_law 441 = .ok (.aload 4, 2) := by decide +kernel
theorem dL_law_443 : decode cL_law 443 = .ok (.iload 15, 2) := by decide +kernel
theorem dL_law_445 : decode cL_law 445 = .ok (.aload_n 2, 1) := by decide +kernel
theorem dL_law_446 : decode cL_law 446 = .ok (.iload 15, 2) := by decide +kernel
theorem dL_law_448 : decode cL_law 448 = .ok (.iaload, 1) := by decide +kernel
theorem dL_law_449 : decode cL_law 449 = .ok (.iconst 2, 1) := by decide +kernel
theorem dL_law_450 : decode cL_law 450 = .ok (.if_icmp .ne 7, 3) := by decide +kernel
theorem dL_law_453 : decode cL_law 453 = .ok (.iconst 0, 1) := by decide +kernel
theorem dL_law_454 : decode cL_law 454 = .ok (.goto 8, 3) := by decide +kernel
theorem dL_law_457 : decode cL_law 457 = .ok (.aload 4, 2) := by decide +kernel
theorem dL_law_459 : decode cL_law 459 = .ok (.iload 15, 2) := by decide +kernel
theorem dL_law_461 : decode cL_law 461 = .ok (.iaload, 1) := by decide +kernel
theorem dL_law_462 : decode cL_law 462 = .ok (.iastore, 1) := by decide +kernel
theorem dL_law_463 : decode cL_law 463 = .ok (.goto 741, 3) := by decide +kernel
theorem dL_law_466 : decode cL_law 466 = .ok (.iload 14, 2) := by decide +kernel
theorem dL_law_468 : decode cL_law 468 = .ok (.bipush 6, 2) := by decide +kernel
theorem dL_law_470 : decode cL_law 470 = .ok (.if_icmp .ge 201, 3) := by decide +kernel
theorem dL_law_473 : decode cL_law 473 = .ok (.iconst 2, 1) := by decide +kernel
theorem dL_law_474 : decode cL_law 474 = .ok (.iload 13, 2) := by decide +kernel
theorem dL_law_476 : decode cL_law 476 = .ok (.bipush 10, 2) := by decide +kernel
theorem dL_law_478 : decode cL_law 478 = .ok (.ishr, 1) := by decide +kernel
theorem dL_law_479 : decode cL_law 479 = .ok (.iload 13, 2) := by decide +kernel
theorem dL_law_481 : decode cL_law 481 = .ok (.bipush 24, 2) := by decide +kernel
theorem dL_law_483 : decode cL_law 483 = .ok (.ishr, 1) := by decide +kernel
theorem dL_law_484 : decode cL_law 484 = .ok (.iconst 3, 1) := by decide +kernel
theorem dL_law_485 : decode cL_law 485 = .ok (.invokestatic 56, 3) := by decide +kernel
theorem dL_law_488 : decode cL_law 488 = .ok (.ifCond .ne 8, 3) := by decide +kernel
theorem dL_law_491 : decode cL_law 491 = .ok (.bipush 39, 2) := by decide +kernel
theorem dL_law_493 : decode cL_law 493 = .ok (.goto 5, 3) := by decide +kernel
theorem dL_law_496 : decode cL_law 496 = .ok (.bipush 11, 2) := by decide +kernel
theorem dL_law_498 : decode cL_law 498 = .ok (.invokestatic 56, 3) := by decide +kernel
theorem dL_law_501 : decode cL_law 501 = .ok (.iadd, 1) := by decide +kernel
theorem dL_law_502 : decode cL_law 502 = .ok (.istore 19, 2) := by decide +kernel
theorem dL_law_504 : decode cL_law 504 = .ok (.iconst 1, 1) := by decide +kernel
theorem dL_law_505 : decode cL_law 505 = .ok (.iload 13, 2) := by decide +kernel
theorem dL_law_507 : decode cL_law 507 = .ok (.bipush 13, 2) := by decide +kernel
theorem dL_law_509 : decode cL_law 509 = .ok (.ishr, 1) := by decide +kernel
theorem dL_law_510 : decode cL_law 510 = .ok (.sipush 900, 3) := by decide +kernel
theorem dL_law_513 : decode cL_law 513 = .ok (.invokestatic 56, 3) := by decide +kernel
theorem dL_law_516 : decode cL_law 516 = .ok (.iadd, 1) := by decide +kernel
theorem dL_law_517 : decode cL_law 517 = .ok (.istore 20, 2) := by decide +kernel
theorem dL_law_519 : decode cL_law 519 = .ok (.iload 13, 2) := by decide +kernel
theorem dL_law_521 : decode cL_law 521 = .ok (.bipush 16, 2) := by decide +kernel
theorem dL_law_523 : decode cL_law 523 = .ok (.ishr, 1) := by decide +kernel
theorem dL_law_524 : decode cL_law 524 = .ok (.iload 19, 2) := by decide +kernel
theorem dL_law_526 : decode cL_law 526 = .ok (.invokestatic 56, 3) := by decide +kernel
theorem dL_law_529 : decode cL_law 529 = .ok (.istore 21, 2) := by decide +kernel
theorem dL_law_531 : decode cL_law 531 = .ok (.aload_n 2, 1) := by decide +kernel
theorem dL_law_532 : decode cL_law 532 = .ok (.iload 15, 2) := by decide +kernel
theorem dL_law_534 : decode cL_law 534 = .ok (.iaload, 1) := by decide +kernel
theorem dL_law_535 : decode cL_law 535 = .ok (.iconst 2, 1) := by decide +kernel
theorem dL_law_536 : decode cL_law 536 = .ok (.if_icmp .eq 15, 3) := by decide +kernel
theorem dL_law_539 : decode cL_law 539 = .ok (.aload 8, 2) := by decide +kernel
theorem dL_law_541 : decode cL_law 541 = .ok (.iconst 5, 1) := by decide +kernel
theorem dL_law_542 : decode cL_law 542 = .ok (.iaload, 1) := by decide +kernel
theorem dL_law_543 : decode cL_law 543 = .ok (.iconst 5, 1) := by decide +kernel
theorem dL_law_544 : decode cL_law 544 = .ok (.if_icmp .ge 7, 3) := by decide +kernel
theorem dL_law_547 : decode cL_law 547 = .ok (.iconst 1, 1) := by decide +kernel
theorem dL_law_548 : decode cL_law 548 = .ok (.goto 4, 3) := by decide +kernel
theorem dL_law_551 : decode cL_law 551 = .ok (.iconst 0, 1) := by decide +kernel
theorem dL_law_552 : decode cL_law 552 = .ok (.istore 22, 2) := by decide +kernel
theorem dL_law_554 : decode cL_law 554 = .ok (.aload_n 1, 1) := by decide +kernel
theorem dL_law_555 : decode cL_law 555 = .ok (.iload 16, 2) := by decide +kernel
theorem dL_law_557 : decode cL_law 557 = .ok (.iload 17, 2) := by decide +kernel
theorem dL_law_559 : decode cL_law 559 = .ok (.iload 19, 2) := by decide +kernel
theorem dL_law_561 : decode cL_law 561 = .ok (.iload 20, 2) := by decide +kernel
theorem dL_law_563 : decode cL_law 563 = .ok (.iload 21, 2) := by decide +kernel
theorem dL_law_565 : decode cL_law 565 = .ok (.invokevirtual 65, 3) := by decide +kernel
theorem dL_law_568 : decode cL_law 568 = .ok (.iload 22, 2) := by decide +kernel
theorem dL_law_570 : decode cL_law 570 = .ok (.ifCond .eq 10, 3) := by decide +kernel
theorem dL_law_573 : decode cL_law 573 = .ok (.aload 8, 2) := by decide +kernel
theorem dL_law_575 : decode cL_law 575 = .ok (.iconst 5, 1) := by decide +kernel
theorem dL_law_576 : decode cL_law 576 = .ok (.iaload, 1) := by decide +kernel
theorem dL_law_577 : decode cL_law 577 = .ok (.goto 18, 3) := by decide +kernel
theorem dL_law_580 : decode cL_law 580 = .ok (.aload_n 2, 1) := by decide +kernel
theorem dL_law_581 : decode cL_law 581 = .ok (.iload 15, 2) := by decide +kernel
theorem dL_law_583 : decode cL_law 583 = .ok (.iaload, 1) := by decide +kernel
theorem dL_law_584 : decode cL_law 584 = .ok (.iconst 2, 1) := by decide +kernel
theorem dL_law_585 : decode cL_law 585 = .ok (.if_icmp .ne 8, 3) := by decide +kernel
theorem dL_law_588 : decode cL_law 588 = .ok (.bipush (-5), 2) := by decide +kernel
theorem dL_law_590 : decode cL_law 590 = .ok (.goto 5, 3) := by decide +kernel
theorem dL_law_593 : decode cL_law 593 = .ok (.bipush (-4), 2) := by decide +kernel
theorem dL_law_595 : decode cL_law 595 = .ok (.if_icmp .ne 7, 3) := by decide +kernel
theorem dL_law_598 : decode cL_law 598 = .ok (.iconst 1, 1) := by decide +kernel
theorem dL_law_599 : decode cL_law 599 = .ok (.goto 4, 3) := by decide +kernel
theorem dL_law_602 : decode cL_law 602 = .ok (.iconst 0, 1) := by decide +kernel
theorem dL_law_603 : decode cL_law 603 = .ok (.istore 18, 2) := by decide +kernel
theorem dL_law_605 : decode cL_law 605 = .ok (.iload 22, 2) := by decide +kernel
theorem dL_law_607 : decode cL_law 607 = .ok (.ifCond .eq 61, 3) := by decide +kernel
theorem dL_law_610 : decode cL_law 610 = .ok (.aload 6, 2) := by decide +kernel
theorem dL_law_612 : decode cL_law 612 = .ok (.iconst 4, 1) := by decide +kernel
theorem dL_law_613 : decode cL_law 613 = .ok (.aload 8, 2) := by decide +kernel
theorem dL_law_615 : decode cL_law 615 = .ok (.iconst 5, 1) := by decide +kernel
theorem dL_law_616 : decode cL_law 616 = .ok (.iaload, 1) := by decide +kernel
theorem dL_law_617 : decode cL_law 617 = .ok (.imul, 1) := by decide +kernel
theorem dL_law_618 : decode cL_law 618 = .ok (.iload 15, 2) := by decide +kernel
theorem dL_law_620 : decode cL_law 620 = .ok (.iastore, 1) := by decide +kernel
theorem dL_law_621 : decode cL_law 621 = .ok (.aload 6, 2) := by decide +kernel
theorem dL_law_623 : decode cL_law 623 = .ok (.iconst 4, 1) := by decide +kernel
theorem dL_law_624 : decode cL_law 624 = .ok (.aload 8, 2) := by decide +kernel
theorem dL_law_626 : decode cL_law 626 = .ok (.iconst 5, 1) := by decide +kernel
theorem dL_law_627 : decode cL_law 627 = .ok (.iaload, 1) := by decide +kernel
theorem dL_law_628 : decode cL_law 628 = .ok (.imul, 1) := by decide +kernel
theorem dL_law_629 : decode cL_law 629 = .ok (.iconst 1, 1) := by decide +kernel
theorem dL_law_630 : decode cL_law 630 = .ok (.iadd, 1) := by decide +kernel
theorem dL_law_631 : decode cL_law 631 = .ok (.iload 19, 2) := by decide +kernel
theorem dL_law_633 : decode cL_law 633 = .ok (.iastore, 1) := by decide +kernel
theorem dL_law_634 : decode cL_law 634 = .ok (.aload 6, 2) := by decide +kernel
theorem dL_law_636 : decode cL_law 636 = .ok (.iconst 4, 1) := by decide +kernel
theorem dL_law_637 : decode cL_law 637 = .ok (.aload 8, 2) := by decide +kernel
theorem dL_law_639 : decode cL_law 639 = .ok (.iconst 5, 1) := by decide +kernel
theorem dL_law_640 : decode cL_law 640 = .ok (.iaload, 1) := by decide +kernel
theorem dL_law_641 : decode cL_law 641 = .ok (.imul, 1) := by decide +kernel
theorem dL_law_642 : decode cL_law 642 = .ok (.iconst 2, 1) := by decide +kernel
theorem dL_law_643 : decode cL_law 643 = .ok (.iadd, 1) := by decide +kernel
theorem dL_law_644 : decode cL_law 644 = .ok (.iload 20, 2) := by decide +kernel
theorem dL_law_646 : decode cL_law 646 = .ok (.iastore, 1) := by decide +kernel
theorem dL_law_647 : decode cL_law 647 = .ok (.aload 6, 2) := by decide +kernel
theorem dL_law_649 : decode cL_law 649 = .ok (.iconst 4, 1) := by decide +kernel
theorem dL_law_650 : decode cL_law 650 = .ok (.aload 8, 2) := by decide +kernel
theorem dL_law_652 : decode cL_law 652 = .ok (.iconst 5, 1) := by decide +kernel
theorem dL_law_653 : decode cL_law 653 = .ok (.iaload, 1) := by decide +kernel
theorem dL_law_654 : decode cL_law 654 = .ok (.imul, 1) := by decide +kernel
theorem dL_law_655 : decode cL_law 655 = .ok (.iconst 3, 1) := by decide +kernel
theorem dL_law_656 : decode cL_law 656 = .ok (.iadd, 1) := by decide +kernel
theorem dL_law_657 : decode cL_law 657 = .ok (.iload 21, 2) := by decide +kernel
theorem dL_law_659 : decode cL_law 659 = .ok (.iastore, 1) := by decide +kernel
theorem dL_law_660 : decode cL_law 660 = .ok (.aload 8, 2) := by decide +kernel
theorem dL_law_662 : decode cL_law 662 = .ok (.iconst 5, 1) := by decide +kernel
theorem dL_law_663 : decode cL_law 663 = .ok (.dup2, 1) := by decide +kernel
theorem dL_law_664 : decode cL_law 664 = .ok (.iaload, 1) := by decide +kernel
theorem dL_law_665 : decode cL_law 665 = .ok (.iconst 1, 1) := by decide +kernel
theorem dL_law_666 : decode cL_law 666 = .ok (.iadd, 1) := by decide +kernel
theorem dL_law_667 : decode cL_law 667 = .ok (.iastore, 1) := by decide +kernel
theorem dL_law_668 : decode cL_law 668 = .ok (.goto 536, 3) := by decide +kernel
theorem dL_law_671 : decode cL_law 671 = .ok (.iload 14, 2) := by decide +kernel
theorem dL_law_673 : decode cL_law 673 = .ok (.bipush 6, 2) := by decide +kernel
theorem dL_law_675 : decode cL_law 675 = .ok (.if_icmp .ne 92, 3) := by decide +kernel
theorem dL_law_678 : decode cL_law 678 = .ok (.aload 8, 2) := by decide +kernel
theorem dL_law_680 : decode cL_law 680 = .ok (.iconst 5, 1) := by decide +kernel
theorem dL_law_681 : decode cL_law 681 = .ok (.iaload, 1) := by decide +kernel
theorem dL_law_682 : decode cL_law 682 = .ok (.ifCond .le 85, 3) := by decide +kernel
theorem dL_law_685 : decode cL_law 685 = .ok (.iload 13, 2) := by decide +kernel
theorem dL_law_687 : decode cL_law 687 = .ok (.bipush 10, 2) := by decide +kernel
theorem dL_law_689 : decode cL_law 689 = .ok (.ishr, 1) := by decide +kernel
theorem dL_law_690 : decode cL_law 690 = .ok (.aload 8, 2) := by decide +kernel
theorem dL_law_692 : decode cL_law 692 = .ok (.iconst 5, 1) := by decide +kernel
theorem dL_law_693 : decode cL_law 693 = .ok (.iaload, 1) := by decide +kernel
theorem dL_law_694 : decode cL_law 694 = .ok (.invokestatic 56, 3) := by decide +kernel
theorem dL_law_697 : decode cL_law 697 = .ok (.istore 19, 2) := by decide +kernel
theorem dL_law_699 : decode cL_law 699 = .ok (.iconst 4, 1) := by decide +kernel
theorem dL_law_700 : decode cL_law 700 = .ok (.iload 19, 2) := by decide +kernel
theorem dL_law_702 : decode cL_law 702 = .ok (.imul, 1) := by decide +kernel
theorem dL_law_703 : decode cL_law 703 = .ok (.istore 20, 2) := by decide +kernel
theorem dL_law_705 : decode cL_law 705 = .ok (.iload 20, 2) := by decide +kernel
theorem dL_law_707 : decode cL_law 707 = .ok (.iconst 4, 1) := by decide +kernel
theorem dL_law_708 : decode cL_law 708 = .ok (.aload 8, 2) := by decide +kernel
theorem dL_law_710 : decode cL_law 710 = .ok (.iconst 5, 1) := by decide +kernel
theorem dL_law_711 : decode cL_law 711 = .ok (.iaload, 1) := by decide +kernel
theorem dL_law_712 : decode cL_law 712 = .ok (.imul, 1) := by decide +kernel
theorem dL_law_713 : decode cL_law 713 = .ok (.iconst 4, 1) := by decide +kernel
theorem dL_law_714 : decode cL_law 714 = .ok (.isub, 1) := by decide +kernel
theorem dL_law_715 : decode cL_law 715 = .ok (.if_icmp .ge 21, 3) := by decide +kernel
theorem dL_law_718 : decode cL_law 718 = .ok (.aload 6, 2) := by decide +kernel
theorem dL_law_720 : decode cL_law 720 = .ok (.iload 20, 2) := by decide +kernel
theorem dL_law_722 : decode cL_law 722 = .ok (.aload 6, 2) := by decide +kernel
theorem dL_law_724 : decode cL_law 724 = .ok (.iload 20, 2) := by decide +kernel
theorem dL_law_726 : decode cL_law 726 = .ok (.iconst 4, 1) := by decide +kernel
theorem dL_law_727 : decode cL_law 727 = .ok (.iadd, 1) := by decide +kernel
theorem dL_law_728 : decode cL_law 728 = .ok (.iaload, 1) := by decide +kernel
theorem dL_law_729 : decode cL_law 729 = .ok (.iastore, 1) := by decide +kernel
theorem dL_law_730 : decode cL_law 730 = .ok (.iinc 20 1, 3) := by decide +kernel
theorem dL_law_733 : decode cL_law 733 = .ok (.goto (-28), 3) := by decide +kernel
theorem dL_law_736 : decode cL_law 736 = .ok (.aload 8, 2) := by decide +kernel
theorem dL_law_738 : decode cL_law 738 = .ok (.iconst 5, 1) := by decide +kernel
theorem dL_law_739 : decode cL_law 739 = .ok (.dup2, 1) := by decide +kernel
theorem dL_law_740 : decode cL_law 740 = .ok (.iaload, 1) := by decide +kernel
theorem dL_law_741 : decode cL_law 741 = .ok (.iconst 1, 1) := by decide +kernel
theorem dL_law_742 : decode cL_law 742 = .ok (.isub, 1) := by decide +kernel
theorem dL_law_743 : decode cL_law 743 = .ok (.iastore, 1) := by decide +kernel
theorem dL_law_744 : decode cL_law 744 = .ok (.aload_n 1, 1) := by decide +kernel
theorem dL_law_745 : decode cL_law 745 = .ok (.iload 19, 2) := by decide +kernel
theorem dL_law_747 : decode cL_law 747 = .ok (.invokevirtual 69, 3) := by decide +kernel
theorem dL_law_750 : decode cL_law 750 = .ok (.aload 8, 2) := by decide +kernel
theorem dL_law_752 : decode cL_law 752 = .ok (.iconst 5, 1) := by decide +kernel
theorem dL_law_753 : decode cL_law 753 = .ok (.iaload, 1) := by decide +kernel
theorem dL_law_754 : decode cL_law 754 = .ok (.if_icmp .ne 7, 3) := by decide +kernel
theorem dL_law_757 : decode cL_law 757 = .ok (.iconst 1, 1) := by decide +kernel
theorem dL_law_758 : decode cL_law 758 = .ok (.goto 4, 3) := by decide +kernel
theorem dL_law_761 : decode cL_law 761 = .ok (.iconst 0, 1) := by decide +kernel
theorem dL_law_762 : decode cL_law 762 = .ok (.istore 18, 2) := by decide +kernel
theorem dL_law_764 : decode cL_law 764 = .ok (.goto 440, 3) := by decide +kernel
theorem dL_law_767 : decode cL_law 767 = .ok (.iload 14, 2) := by decide +kernel
theorem dL_law_769 : decode cL_law 769 = .ok (.bipush 9, 2) := by decide +kernel
theorem dL_law_771 : decode cL_law 771 = .ok (.if_icmp .ge 121, 3) := by decide +kernel
theorem dL_law_774 : decode cL_law 774 = .ok (.iload 13, 2) := by decide +kernel
theorem dL_law_776 : decode cL_law 776 = .ok (.bipush 10, 2) := by decide +kernel
theorem dL_law_778 : decode cL_law 778 = .ok (.ishr, 1) := by decide +kernel
theorem dL_law_779 : decode cL_law 779 = .ok (.sipush 1999, 3) := by decide +kernel
theorem dL_law_782 : decode cL_law 782 = .ok (.invokestatic 56, 3) := by decide +kernel
theorem dL_law_785 : decode cL_law 785 = .ok (.sipush 999, 3) := by decide +kernel
theorem dL_law_788 : decode cL_law 788 = .ok (.isub, 1) := by decide +kernel
theorem dL_law_789 : decode cL_law 789 = .ok (.istore 19, 2) := by decide +kernel
theorem dL_law_791 : decode cL_law 791 = .ok (.aload_n 3, 1) := by decide +kernel
theorem dL_law_792 : decode cL_law 792 = .ok (.iload 15, 2) := by decide +kernel
theorem dL_law_794 : decode cL_law 794 = .ok (.iaload, 1) := by decide +kernel
theorem dL_law_795 : decode cL_law 795 = .ok (.iload 19, 2) := by decide +kernel
theorem dL_law_797 : decode cL_law 797 = .ok (.iadd, 1) := by decide +kernel
theorem dL_law_798 : decode cL_law 798 = .ok (.istore 20, 2) := by decide +kernel
theorem dL_law_800 : decode cL_law 800 = .ok (.iload 20, 2) := by decide +kernel
theorem dL_law_802 : decode cL_law 802 = .ok (.sipush 9999, 3) := by decide +kernel
theorem dL_law_805 : decode cL_law 805 = .ok (.if_icmp .le 9, 3) := by decide +kernel
theorem dL_law_808 : decode cL_law 808 = .ok (.sipush 9999, 3) := by decide +kernel
theorem dL_law_811 : decode cL_law 811 = .ok (.goto 19, 3) := by decide +kernel
theorem dL_law_814 : decode cL_law 814 = .ok (.iload 20, 2) := by decide +kernel
theorem dL_law_816 : decode cL_law 816 = .ok (.sipush (-9999), 3) := by decide +kernel
theorem dL_law_819 : decode cL_law 819 = .ok (.if_icmp .ge 9, 3) := by decide +kernel
theorem dL_law_822 : decode cL_law 822 = .ok (.sipush (-9999), 3) := by decide +kernel
theorem dL_law_825 : decode cL_law 825 = .ok (.goto 5, 3) := by decide +kernel
theorem dL_law_828 : decode cL_law 828 = .ok (.iload 20, 2) := by decide +kernel
theorem dL_law_830 : decode cL_law 830 = .ok (.istore 20, 2) := by decide +kernel
theorem dL_law_832 : decode cL_law 832 = .ok (.aload_n 1, 1) := by decide +kernel
theorem dL_law_833 : decode cL_law 833 = .ok (.iload 16, 2) := by decide +kernel
theorem dL_law_835 : decode cL_law 835 = .ok (.iload 17, 2) := by decide +kernel
theorem dL_law_837 : decode cL_law 837 = .ok (.iload 19, 2) := by decide +kernel
theorem dL_law_839 : decode cL_law 839 = .ok (.invokevirtual 72, 3) := by decide +kernel
theorem dL_law_842 : decode cL_law 842 = .ok (.aload_n 2, 1) := by decide +kernel
theorem dL_law_843 : decode cL_law 843 = .ok (.iload 15, 2) := by decide +kernel
theorem dL_law_845 : decode cL_law 845 = .ok (.iaload, 1) := by decide +kernel
theorem dL_law_846 : decode cL_law 846 = .ok (.iconst 2, 1) := by decide +kernel
theorem dL_law_847 : decode cL_law 847 = .ok (.if_icmp .ne 8, 3) := by decide +kernel
theorem dL_law_850 : decode cL_law 850 = .ok (.bipush (-5), 2) := by decide +kernel
theorem dL_law_852 : decode cL_law 852 = .ok (.goto 9, 3) := by decide +kernel
theorem dL_law_855 : decode cL_law 855 = .ok (.iload 20, 2) := by decide +kernel
theorem dL_law_857 : decode cL_law 857 = .ok (.sipush 10000, 3) := by decide +kernel
theorem dL_law_860 : decode cL_law 860 = .ok (.iadd, 1) := by decide +kernel
theorem dL_law_861 : decode cL_law 861 = .ok (.if_icmp .ne 7, 3) := by decide +kernel
theorem dL_law_864 : decode cL_law 864 = .ok (.iconst 1, 1) := by decide +kernel
theorem dL_law_865 : decode cL_law 865 = .ok (.goto 4, 3) := by decide +kernel
theorem dL_law_868 : decode cL_law 868 = .ok (.iconst 0, 1) := by decide +kernel
theorem dL_law_869 : decode cL_law 869 = .ok (.istore 18, 2) := by decide +kernel
theorem dL_law_871 : decode cL_law 871 = .ok (.aload_n 3, 1) := by decide +kernel
theorem dL_law_872 : decode cL_law 872 = .ok (.iload 15, 2) := by decide +kernel
theorem dL_law_874 : decode cL_law 874 = .ok (.aload_n 2, 1) := by decide +kernel
theorem dL_law_875 : decode cL_law 875 = .ok (.iload 15, 2) := by decide +kernel
theorem dL_law_877 : decode cL_law 877 = .ok (.iaload, 1) := by decide +kernel
theorem dL_law_878 : decode cL_law 878 = .ok (.iconst 2, 1) := by decide +kernel
theorem dL_law_879 : decode cL_law 879 = .ok (.if_icmp .ne 7, 3) := by decide +kernel
theorem dL_law_882 : decode cL_law 882 = .ok (.iconst 0, 1) := by decide +kernel
theorem dL_law_883 : decode cL_law 883 = .ok (.goto 5, 3) := by decide +kernel
theorem dL_law_886 : decode cL_law 886 = .ok (.iload 20, 2) := by decide +kernel
theorem dL_law_888 : decode cL_law 888 = .ok (.iastore, 1) := by decide +kernel
theorem dL_law_889 : decode cL_law 889 = .ok (.goto 315, 3) := by decide +kernel
theorem dL_law_892 : decode cL_law 892 = .ok (.iload 14, 2) := by decide +kernel
theorem dL_law_894 : decode cL_law 894 = .ok (.bipush 9, 2) := by decide +kernel
theorem dL_law_896 : decode cL_law 896 = .ok (.if_icmp .ne 124, 3) := by decide +kernel
theorem dL_law_899 : decode cL_law 899 = .ok (.aload 8, 2) := by decide +kernel
theorem dL_law_901 : decode cL_law 901 = .ok (.bipush 6, 2) := by decide +kernel
theorem dL_law_903 : decode cL_law 903 = .ok (.iaload, 1) := by decide +kernel
theorem dL_law_904 : decode cL_law 904 = .ok (.iconst 3, 1) := by decide +kernel
theorem dL_law_905 : decode cL_law 905 = .ok (.if_icmp .ge 115, 3) := by decide +kernel
theorem dL_law_908 : decode cL_law 908 = .ok (.aload_n 1, 1) := by decide +kernel
theorem dL_law_909 : decode cL_law 909 = .ok (.iload 16, 2) := by decide +kernel
theorem dL_law_911 : decode cL_law 911 = .ok (.iload 17, 2) := by decide +kernel
theorem dL_law_913 : decode cL_law 913 = .ok (.invokevirtual 75, 3) := by decide +kernel
theorem dL_law_916 : decode cL_law 916 = .ok (.aload 8, 2) := by decide +kernel
theorem dL_law_918 : decode cL_law 918 = .ok (.bipush 6, 2) := by decide +kernel
theorem dL_law_920 : decode cL_law 920 = .ok (.iaload, 1) := by decide +kernel
theorem dL_law_921 : decode cL_law 921 = .ok (.if_icmp .ne 51, 3) := by decide +kernel
theorem dL_law_924 : decode cL_law 924 = .ok (.aload_n 1, 1) := by decide +kernel
theorem dL_law_925 : decode cL_law 925 = .ok (.aload 8, 2) := by decide +kernel
theorem dL_law_927 : decode cL_law 927 = .ok (.bipush 6, 2) := by decide +kernel
theorem dL_law_929 : decode cL_law 929 = .ok (.iaload, 1) := by decide +kernel
theorem dL_law_930 : decode cL_law 930 = .ok (.iconst 0, 1) := by decide +kernel
theorem dL_law_931 : decode cL_law 931 = .ok (.invokevirtual 49, 3) := by decide +kernel
theorem dL_law_934 : decode cL_law 934 = .ok (.iload 16, 2) := by decide +kernel
theorem dL_law_936 : decode cL_law 936 = .ok (.if_icmp .ne 36, 3) := by decide +kernel
theorem dL_law_939 : decode cL_law 939 = .ok (.aload_n 1, 1) := by decide +kernel
theorem dL_law_940 : decode cL_law 940 = .ok (.aload 8, 2) := by decide +kernel
theorem dL_law_942 : decode cL_law 942 = .ok (.bipush 6, 2) := by decide +kernel
theorem dL_law_944 : decode cL_law 944 = .ok (.iaload, 1) := by decide +kernel
theorem dL_law_945 : decode cL_law 945 = .ok (.iconst 1, 1) := by decide +kernel
theorem dL_law_946 : decode cL_law 946 = .ok (.invokevirtual 49, 3) := by decide +kernel
theorem dL_law_949 : decode cL_law 949 = .ok (.iload 17, 2) := by decide +kernel
theorem dL_law_951 : decode cL_law 951 = .ok (.if_icmp .ne 21, 3) := by decide +kernel
theorem dL_law_954 : decode cL_law 954 = .ok (.aload_n 1, 1) := by decide +kernel
theorem dL_law_955 : decode cL_law 955 = .ok (.aload 8, 2) := by decide +kernel
theorem dL_law_957 : decode cL_law 957 = .ok (.bipush 6, 2) := by decide +kernel
theorem dL_law_959 : decode cL_law 959 = .ok (.iaload, 1) := by decide +kernel
theorem dL_law_960 : decode cL_law 960 = .ok (.iconst 0, 1) := by decide +kernel
theorem dL_law_961 : decode cL_law 961 = .ok (.invokevirtual 45, 3) := by decide +kernel
theorem dL_law_964 : decode cL_law 964 = .ok (.iconst (-1), 1) := by decide +kernel
theorem dL_law_965 : decode cL_law 965 = .ok (.if_icmp .ne 7, 3) := by decide +kernel
theorem dL_law_968 : decode cL_law 968 = .ok (.iconst 1, 1) := by decide +kernel
theorem dL_law_969 : decode cL_law 969 = .ok (.goto 4, 3) := by decide +kernel
theorem dL_law_972 : decode cL_law 972 = .ok (.iconst 0, 1) := by decide +kernel
theorem dL_law_973 : decode cL_law 973 = .ok (.istore 18, 2) := by decide +kernel
theorem dL_law_975 : decode cL_law 975 = .ok (.aload 8, 2) := by decide +kernel
theorem dL_law_977 : decode cL_law 977 = .ok (.bipush 6, 2) := by decide +kernel
theorem dL_law_979 : decode cL_law 979 = .ok (.iaload, 1) := by decide +kernel
theorem dL_law_980 : decode cL_law 980 = .ok (.ifCond .ne 8, 3) := by decide +kernel
theorem dL_law_983 : decode cL_law 983 = .ok (.iload 15, 2) := by decide +kernel
theorem dL_law_985 : decode cL_law 985 = .ok (.goto 5, 3) := by decide +kernel
theorem dL_law_988 : decode cL_law 988 = .ok (.iload 11, 2) := by decide +kernel
theorem dL_law_990 : decode cL_law 990 = .ok (.istore 11, 2) := by decide +kernel
theorem dL_law_992 : decode cL_law 992 = .ok (.aload 8, 2) := by decide +kernel
theorem dL_law_994 : decode cL_law 994 = .ok (.bipush 6, 2) := by decide +kernel
theorem dL_law_996 : decode cL_law 996 = .ok (.iaload, 1) := by decide +kernel
theorem dL_law_997 : decode cL_law 997 = .ok (.ifCond .ne 7, 3) := by decide +kernel
theorem dL_law_1000 : decode cL_law 1000 = .ok (.iconst 0, 1) := by decide +kernel
theorem dL_law_1001 : decode cL_law 1001 = .ok (.goto 5, 3) := by decide +kernel
theorem dL_law_1004 : decode cL_law 1004 = .ok (.iload 10, 2) := by decide +kernel
theorem dL_law_1006 : decode cL_law 1006 = .ok (.istore 10, 2) := by decide +kernel
theorem dL_law_1008 : decode cL_law 1008 = .ok (.aload 8, 2) := by decide +kernel
theorem dL_law_1010 : decode cL_law 1010 = .ok (.bipush 6, 2) := by decide +kernel
theorem dL_law_1012 : decode cL_law 1012 = .ok (.dup2, 1) := by decide +kernel
theorem dL_law_1013 : decode cL_law 1013 = .ok (.iaload, 1) := by decide +kernel
theorem dL_law_1014 : decode cL_law 1014 = .ok (.iconst 1, 1) := by decide +kernel
theorem dL_law_1015 : decode cL_law 1015 = .ok (.iadd, 1) := by decide +kernel
theorem dL_law_1016 : decode cL_law 1016 = .ok (.iastore, 1) := by decide +kernel
theorem dL_law_1017 : decode cL_law 1017 = .ok (.goto 187, 3) := by decide +kernel
theorem dL_law_1020 : decode cL_law 1020 = .ok (.iconst 1, 1) := by decide +kernel
theorem dL_law_1021 : decode cL_law 1021 = .ok (.iload 13, 2) := by decide +kernel
theorem dL_law_1023 : decode cL_law 1023 = .ok (.bipush 10, 2) := by decide +kernel
theorem dL_law_1025 : decode cL_law 1025 = .ok (.ishr, 1) := by decide +kernel
theorem dL_law_1026 : decode cL_law 1026 = .ok (.bipush 9, 2) := by decide +kernel
theorem dL_law_1028 : decode cL_law 1028 = .ok (.invokestatic 56, 3) := by decide +kernel
theorem dL_law_1031 : decode cL_law 1031 = .ok (.iadd, 1) := by decide +kernel
theorem dL_law_1032 : decode cL_law 1032 = .ok (.istore 19, 2) := by decide +kernel
theorem dL_law_1034 : decode cL_law 1034 = .ok (.iconst 0, 1) := by decide +kernel
theorem dL_law_1035 : decode cL_law 1035 = .ok (.istore 20, 2) := by decide +kernel
theorem dL_law_1037 : decode cL_law 1037 = .ok (.iload 20, 2) := by decide +kernel
theorem dL_law_1039 : decode cL_law 1039 = .ok (.iload 19, 2) := by decide +kernel
theorem dL_law_1041 : decode cL_law 1041 = .ok (.if_icmp .ge 102, 3) := by decide +kernel
theorem dL_law_1044 : decode cL_law 1044 = .ok (.aload_n 2, 1) := by decide +kernel
theorem dL_law_1045 : decode cL_law 1045 = .ok (.aload_n 3, 1) := by decide +kernel
theorem dL_law_1046 : decode cL_law 1046 = .ok (.aload 4, 2) := by decide +kernel
theorem dL_law_1048 : decode cL_law 1048 = .ok (.aload 5, 2) := by decide +kernel
theorem dL_law_1050 : decode cL_law 1050 = .ok (.aload 6, 2) := by decide +kernel
theorem dL_law_1052 : decode cL_law 1052 = .ok (.aload 8, 2) := by decide +kernel
theorem dL_law_1054 : decode cL_law 1054 = .ok (.invokestatic 78, 3) := by decide +kernel
theorem dL_law_1057 : decode cL_law 1057 = .ok (.bipush 23, 2) := by decide +kernel
theorem dL_law_1059 : decode cL_law 1059 = .ok (.istore 21, 2) := by decide +kernel
theorem dL_law_1061 : decode cL_law 1061 = .ok (.iload 21, 2) := by decide +kernel
theorem dL_law_1063 : decode cL_law 1063 = .ok (.ifCond .le 26, 3) := by decide +kernel
theorem dL_law_1066 : decode cL_law 1066 = .ok (.iload 10, 2) := by decide +kernel
theorem dL_law_1068 : decode cL_law 1068 = .ok (.ifCond .lt 21, 3) := by decide +kernel
theorem dL_law_1071 : decode cL_law 1071 = .ok (.aload 7, 2) := by decide +kernel
theorem dL_law_1073 : decode cL_law 1073 = .ok (.iload 21, 2) := by decide +kernel
theorem dL_law_1075 : decode cL_law 1075 = .ok (.aload 7, 2) := by decide +kernel
theorem dL_law_1077 : decode cL_law 1077 = .ok (.iload 21, 2) := by decide +kernel
theorem dL_law_1079 : decode cL_law 1079 = .ok (.iconst 1, 1) := by decide +kernel
theorem dL_law_1080 : decode cL_law 1080 = .ok (.isub, 1) := by decide +kernel
theorem dL_law_1081 : decode cL_law 1081 = .ok (.iaload, 1) := by decide +kernel
theorem dL_law_1082 : decode cL_law 1082 = .ok (.iastore, 1) := by decide +kernel
theorem dL_law_1083 : decode cL_law 1083 = .ok (.iinc 21 (-1), 3) := by decide +kernel
theorem dL_law_1086 : decode cL_law 1086 = .ok (.goto (-25), 3) := by decide +kernel
theorem dL_law_1089 : decode cL_law 1089 = .ok (.aload 7, 2) := by decide +kernel
theorem dL_law_1091 : decode cL_law 1091 = .ok (.iconst 0, 1) := by decide +kernel
theorem dL_law_1092 : decode cL_law 1092 = .ok (.iload 10, 2) := by decide +kernel
theorem dL_law_1094 : decode cL_law 1094 = .ok (.ifCond .lt 10, 3) := by decide +kernel
theorem dL_law_1097 : decode cL_law 1097 = .ok (.aload_n 3, 1) := by decide +kernel
theorem dL_law_1098 : decode cL_law 1098 = .ok (.iload 11, 2) := by decide +kernel
theorem dL_law_1100 : decode cL_law 1100 = .ok (.iaload, 1) := by decide +kernel
theorem dL_law_1101 : decode cL_law 1101 = .ok (.goto 7, 3) := by decide +kernel
theorem dL_law_1104 : decode cL_law 1104 = .ok (.aload 7, 2) := by decide +kernel
theorem dL_law_1106 : decode cL_law 1106 = .ok (.iconst 0, 1) := by decide +kernel
theorem dL_law_1107 : decode cL_law 1107 = .ok (.iaload, 1) := by decide +kernel
theorem dL_law_1108 : decode cL_law 1108 = .ok (.iastore, 1) := by decide +kernel
theorem dL_law_1109 : decode cL_law 1109 = .ok (.iload 10, 2) := by decide +kernel
theorem dL_law_1111 : decode cL_law 1111 = .ok (.ifCond .ge 8, 3) := by decide +kernel
theorem dL_law_1114 : decode cL_law 1114 = .ok (.iload 10, 2) := by decide +kernel
theorem dL_law_1116 : decode cL_law 1116 = .ok (.goto 19, 3) := by decide +kernel
theorem dL_law_1119 : decode cL_law 1119 = .ok (.iload 10, 2) := by decide +kernel
theorem dL_law_1121 : decode cL_law 1121 = .ok (.bipush 24, 2) := by decide +kernel
theorem dL_law_1123 : decode cL_law 1123 = .ok (.if_icmp .ge 10, 3) := by decide +kernel
theorem dL_law_1126 : decode cL_law 1126 = .ok (.iload 10, 2) := by decide +kernel
theorem dL_law_1128 : decode cL_law 1128 = .ok (.iconst 1, 1) := by decide +kernel
theorem dL_law_1129 : decode cL_law 1129 = .ok (.iadd, 1) := by decide +kernel
theorem dL_law_1130 : decode cL_law 1130 = .ok (.goto 5, 3) := by decide +kernel
theorem dL_law_1133 : decode cL_law 1133 = .ok (.bipush 24, 2) := by decide +kernel
theorem dL_law_1135 : decode cL_law 1135 = .ok (.istore 10, 2) := by decide +kernel
theorem dL_law_1137 : decode cL_law 1137 = .ok (.iinc 20 1, 3) := by decide +kernel
theorem dL_law_1140 : decode cL_law 1140 = .ok (.goto (-103), 3) := by decide +kernel
theorem dL_law_1143 : decode cL_law 1143 = .ok (.iconst 0, 1) := by decide +kernel
theorem dL_law_1144 : decode cL_law 1144 = .ok (.istore 20, 2) := by decide +kernel
theorem dL_law_1146 : decode cL_law 1146 = .ok (.iconst 0, 1) := by decide +kernel
theorem dL_law_1147 : decode cL_law 1147 = .ok (.istore 21, 2) := by decide +kernel
theorem dL_law_1149 : decode cL_law 1149 = .ok (.iload 21, 2) := by decide +kernel
theorem dL_law_1151 : decode cL_law 1151 = .ok (.bipush 60, 2) := by decide +kernel
theorem dL_law_1153 : decode cL_law 1153 = .ok (.if_icmp .ge 33, 3) := by decide +kernel
theorem dL_law_1156 : decode cL_law 1156 = .ok (.iload 20, 2) := by decide +kernel
theorem dL_law_1158 : decode cL_law 1158 = .ok (.aload_n 2, 1) := by decide +kernel
theorem dL_law_1159 : decode cL_law 1159 = .ok (.aload_n 3, 1) := by decide +kernel
theorem dL_law_1160 : decode cL_law 1160 = .ok (.aload 4, 2) := by decide +kernel
theorem dL_law_1162 : decode cL_law 1162 = .ok (.aload 8, 2) := by decide +kernel
theorem dL_law_1164 : decode cL_law 1164 = .ok (.iload 21, 2) := by decide +kernel
theorem dL_law_1166 : decode cL_law 1166 = .ok (.invokestatic 31, 3) := by decide +kernel
theorem dL_law_1169 : decode cL_law 1169 = .ok (.ifCond .eq 7, 3) := by decide +kernel
theorem dL_law_1172 : decode cL_law 1172 = .ok (.iconst 0, 1) := by decide +kernel
theorem dL_law_1173 : decode cL_law 1173 = .ok (.goto 4, 3) := by decide +kernel
theorem dL_law_1176 : decode cL_law 1176 = .ok (.iconst 1, 1) := by decide +kernel
theorem dL_law_1177 : decode cL_law 1177 = .ok (.iadd, 1) := by decide +kernel
theorem dL_law_1178 : decode cL_law 1178 = .ok (.istore 20, 2) := by decide +kernel
theorem dL_law_1180 : decode cL_law 1180 = .ok (.iinc 21 1, 3) := by decide +kernel
theorem dL_law_1183 : decode cL_law 1183 = .ok (.goto (-34), 3) := by decide +kernel
theorem dL_law_1186 : decode cL_law 1186 = .ok (.aload_n 1, 1) := by decide +kernel
theorem dL_law_1187 : decode cL_law 1187 = .ok (.iload 19, 2) := by decide +kernel
theorem dL_law_1189 : decode cL_law 1189 = .ok (.invokevirtual 82, 3) := by decide +kernel
theorem dL_law_1192 : decode cL_law 1192 = .ok (.iload 20, 2) := by decide +kernel
theorem dL_law_1194 : decode cL_law 1194 = .ok (.if_icmp .ne 7, 3) := by decide +kernel
theorem dL_law_1197 : decode cL_law 1197 = .ok (.iconst 1, 1) := by decide +kernel
theorem dL_law_1198 : decode cL_law 1198 = .ok (.goto 4, 3) := by decide +kernel
theorem dL_law_1201 : decode cL_law 1201 = .ok (.iconst 0, 1) := by decide +kernel
theorem dL_law_1202 : decode cL_law 1202 = .ok (.istore 18, 2) := by decide +kernel
theorem dL_law_1204 : decode cL_law 1204 = .ok (.iload 18, 2) := by decide +kernel
theorem dL_law_1206 : decode cL_law 1206 = .ok (.ifCond .eq 67, 3) := by decide +kernel
theorem dL_law_1209 : decode cL_law 1209 = .ok (.iload 12, 2) := by decide +kernel
theorem dL_law_1211 : decode cL_law 1211 = .ok (.iconst 3, 1) := by decide +kernel
theorem dL_law_1212 : decode cL_law 1212 = .ok (.irem, 1) := by decide +kernel
theorem dL_law_1213 : decode cL_law 1213 = .ok (.iconst 2, 1) := by decide +kernel
theorem dL_law_1214 : decode cL_law 1214 = .ok (.if_icmp .ne 20, 3) := by decide +kernel
theorem dL_law_1217 : decode cL_law 1217 = .ok (.aload_n 1, 1) := by decide +kernel
theorem dL_law_1218 : decode cL_law 1218 = .ok (.aload_n 2, 1) := by decide +kernel
theorem dL_law_1219 : decode cL_law 1219 = .ok (.aload_n 3, 1) := by decide +kernel
theorem dL_law_1220 : decode cL_law 1220 = .ok (.aload 4, 2) := by decide +kernel
theorem dL_law_1222 : decode cL_law 1222 = .ok (.aload 5, 2) := by decide +kernel
theorem dL_law_1224 : decode cL_law 1224 = .ok (.aload 6, 2) := by decide +kernel
theorem dL_law_1226 : decode cL_law 1226 = .ok (.aload 8, 2) := by decide +kernel
theorem dL_law_1228 : decode cL_law 1228 = .ok (.invokestatic 85, 3) := by decide +kernel
theorem dL_law_1231 : decode cL_law 1231 = .ok (.ifCond .eq 42, 3) := by decide +kernel
theorem dL_law_1234 : decode cL_law 1234 = .ok (.iload 12, 2) := by decide +kernel
theorem dL_law_1236 : decode cL_law 1236 = .ok (.iconst 2, 1) := by decide +kernel
theorem dL_law_1237 : decode cL_law 1237 = .ok (.irem, 1) := by decide +kernel
theorem dL_law_1238 : decode cL_law 1238 = .ok (.iconst 1, 1) := by decide +kernel
theorem dL_law_1239 : decode cL_law 1239 = .ok (.if_icmp .ne 18, 3) := by decide +kernel
theorem dL_law_1242 : decode cL_law 1242 = .ok (.aload_n 1, 1) := by decide +kernel
theorem dL_law_1243 : decode cL_law 1243 = .ok (.aload_n 2, 1) := by decide +kernel
theorem dL_law_1244 : decode cL_law 1244 = .ok (.aload_n 3, 1) := by decide +kernel
theorem dL_law_1245 : decode cL_law 1245 = .ok (.aload 4, 2) := by decide +kernel
theorem dL_law_1247 : decode cL_law 1247 = .ok (.aload 5, 2) := by decide +kernel
theorem dL_law_1249 : decode cL_law 1249 = .ok (.aload 8, 2) := by decide +kernel
theorem dL_law_1251 : decode cL_law 1251 = .ok (.invokestatic 89, 3) := by decide +kernel
theorem dL_law_1254 : decode cL_law 1254 = .ok (.ifCond .eq 19, 3) := by decide +kernel
theorem dL_law_1257 : decode cL_law 1257 = .ok (.iload 10, 2) := by decide +kernel
theorem dL_law_1259 : decode cL_law 1259 = .ok (.ifCond .lt 16, 3) := by decide +kernel
theorem dL_law_1262 : decode cL_law 1262 = .ok (.aload_n 1, 1) := by decide +kernel
theorem dL_law_1263 : decode cL_law 1263 = .ok (.aload 7, 2) := by decide +kernel
theorem dL_law_1265 : decode cL_law 1265 = .ok (.iload 10, 2) := by decide +kernel
theorem dL_law_1267 : decode cL_law 1267 = .ok (.invokestatic 93, 3) := by decide +kernel
theorem dL_law_1270 : decode cL_law 1270 = .ok (.ifCond .ne 5, 3) := by decide +kernel
theorem dL_law_1273 : decode cL_law 1273 = .ok (.iconst 0, 1) := by decide +kernel
theorem dL_law_1274 : decode cL_law 1274 = .ok (.ireturn, 1) := by decide +kernel
theorem dL_law_1275 : decode cL_law 1275 = .ok (.iinc 12 1, 3) := by decide +kernel
theorem dL_law_1278 : decode cL_law 1278 = .ok (.goto (-1043), 3) := by decide +kernel
theorem dL_law_1281 : decode cL_law 1281 = .ok (.aload_n 1, 1) := by decide +kernel
theorem dL_law_1282 : decode cL_law 1282 = .ok (.aload_n 2, 1) := by decide +kernel
theorem dL_law_1283 : decode cL_law 1283 = .ok (.aload_n 3, 1) := by decide +kernel
theorem dL_law_1284 : decode cL_law 1284 = .ok (.aload 4, 2) := by decide +kernel
theorem dL_law_1286 : decode cL_law 1286 = .ok (.aload 5, 2) := by decide +kernel
theorem dL_law_1288 : decode cL_law 1288 = .ok (.aload 6, 2) := by decide +kernel
theorem dL_law_1290 : decode cL_law 1290 = .ok (.aload 8, 2) := by decide +kernel
theorem dL_law_1292 : decode cL_law 1292 = .ok (.invokestatic 85, 3) := by decide +kernel
theorem dL_law_1295 : decode cL_law 1295 = .ok (.ifCond .eq 22, 3) := by decide +kernel
theorem dL_law_1298 : decode cL_law 1298 = .ok (.aload_n 1, 1) := by decide +kernel
theorem dL_law_1299 : decode cL_law 1299 = .ok (.aload_n 2, 1) := by decide +kernel
theorem dL_law_1300 : decode cL_law 1300 = .ok (.aload_n 3, 1) := by decide +kernel
theorem dL_law_1301 : decode cL_law 1301 = .ok (.aload 4, 2) := by decide +kernel
theorem dL_law_1303 : decode cL_law 1303 = .ok (.aload 5, 2) := by decide +kernel
theorem dL_law_1305 : decode cL_law 1305 = .ok (.aload 8, 2) := by decide +kernel
theorem dL_law_1307 : decode cL_law 1307 = .ok (.invokestatic 89, 3) := by decide +kernel
theorem dL_law_1310 : decode cL_law 1310 = .ok (.ifCond .eq 7, 3) := by decide +kernel
theorem dL_law_1313 : decode cL_law 1313 = .ok (.iconst 1, 1) := by decide +kernel
theorem dL_law_1314 : decode cL_law 1314 = .ok (.goto 4, 3) := by decide +kernel
theorem dL_law_1317 : decode cL_law 1317 = .ok (.iconst 0, 1) := by decide +kernel
theorem dL_law_1318 : decode cL_law 1318 = .ok (.ireturn, 1) := by decide +kernel

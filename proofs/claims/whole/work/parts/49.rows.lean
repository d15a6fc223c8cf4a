/-! rows of the reference's constructor, the second half -/
theorem dX5_init_448 : decode cX5_init 448 = .ok (.bipush 114, 2) := by decide +kernel
theorem dX5_init_450 : decode cX5_init 450 = .ok (.castore, 1) := by decide +kernel
theorem dX5_init_451 : decode cX5_init 451 = .ok (.dup, 1) := by decide +kernel
theorem dX5_init_452 : decode cX5_init 452 = .ok (.bipush 68, 2) := by decide +kernel
theorem dX5_init_454 : decode cX5_init 454 = .ok (.bipush 101, 2) := by decide +kernel
theorem dX5_init_456 : decode cX5_init 456 = .ok (.castore, 1) := by decide +kernel
theorem dX5_init_457 : decode cX5_init 457 = .ok (.dup, 1) := by decide +kernel
theorem dX5_init_458 : decode cX5_init 458 = .ok (.bipush 69, 2) := by decide +kernel
theorem dX5_init_460 : decode cX5_init 460 = .ok (.bipush 100, 2) := by decide +kernel
theorem dX5_init_462 : decode cX5_init 462 = .ok (.castore, 1) := by decide +kernel
theorem dX5_init_463 : decode cX5_init 463 = .ok (.putfield 25, 3) := by decide +kernel
theorem dX5_init_466 : decode cX5_init 466 = .ok (.aload_n 0, 1) := by decide +kernel
theorem dX5_init_467 : decode cX5_init 467 = .ok (.bipush 40, 2) := by decide +kernel
theorem dX5_init_469 : decode cX5_init 469 = .ok (.newarray .char, 2) := by decide +kernel
theorem dX5_init_471 : decode cX5_init 471 = .ok (.dup, 1) := by decide +kernel
theorem dX5_init_472 : decode cX5_init 472 = .ok (.iconst 0, 1) := by decide +kernel
theorem dX5_init_473 : decode cX5_init 473 = .ok (.bipush 111, 2) := by decide +kernel
theorem dX5_init_475 : decode cX5_init 475 = .ok (.castore, 1) := by decide +kernel
theorem dX5_init_476 : decode cX5_init 476 = .ok (.dup, 1) := by decide +kernel
theorem dX5_init_477 : decode cX5_init 477 = .ok (.iconst 1, 1) := by decide +kernel
theorem dX5_init_478 : decode cX5_init 478 = .ok (.bipush 110, 2) := by decide +kernel
theorem dX5_init_480 : decode cX5_init 480 = .ok (.castore, 1) := by decide +kernel
theorem dX5_init_481 : decode cX5_init 481 = .ok (.dup, 1) := by decide +kernel
theorem dX5_init_482 : decode cX5_init 482 = .ok (.iconst 2, 1) := by decide +kernel
theorem dX5_init_483 : decode cX5_init 483 = .ok (.bipush 32, 2) := by decide +kernel
theorem dX5_init_485 : decode cX5_init 485 = .ok (.castore, 1) := by decide +kernel
theorem dX5_init_486 : decode cX5_init 486 = .ok (.dup, 1) := by decide +kernel
theorem dX5_init_487 : decode cX5_init 487 = .ok (.iconst 3, 1) := by decide +kernel
theorem dX5_init_488 : decode cX5_init 488 = .ok (.bipush 32, 2) := by decide +kernel
theorem dX5_init_490 : decode cX5_init 490 = .ok (.castore, 1) := by decide +kernel
theorem dX5_init_491 : decode cX5_init 491 = .ok (.dup, 1) := by decide +kernel
theorem dX5_init_492 : decode cX5_init 492 = .ok (.iconst 4, 1) := by decide +kernel
theorem dX5_init_493 : decode cX5_init 493 = .ok (.bipush 32, 2) := by decide +kernel
theorem dX5_init_495 : decode cX5_init 495 = .ok (.castore, 1) := by decide +kernel
theorem dX5_init_496 : decode cX5_init 496 = .ok (.dup, 1) := by decide +kernel
theorem dX5_init_497 : decode cX5_init 497 = .ok (.iconst 5, 1) := by decide +kernel
theorem dX5_init_498 : decode cX5_init 498 = .ok (.bipush 32, 2) := by decide +kernel
theorem dX5_init_500 : decode cX5_init 500 = .ok (.castore, 1) := by decide +kernel
theorem dX5_init_501 : decode cX5_init 501 = .ok (.dup, 1) := by decide +kernel
theorem dX5_init_502 : decode cX5_init 502 = .ok (.bipush 6, 2) := by decide +kernel
theorem dX5_init_504 : decode cX5_init 504 = .ok (.bipush 32, 2) := by decide +kernel
theorem dX5_init_506 : decode cX5_init 506 = .ok (.castore, 1) := by decide +kernel
theorem dX5_init_507 : decode cX5_init 507 = .ok (.dup, 1) := by decide +kernel
theorem dX5_init_508 : decode cX5_init 508 = .ok (.bipush 7, 2) := by decide +kernel
theorem dX5_init_510 : decode cX5_init 510 = .ok (.bipush 32, 2) := by decide +kernel
theorem dX5_init_512 : decode cX5_init 512 = .ok (.castore, 1) := by decide +kernel
theorem dX5_init_513 : decode cX5_init 513 = .ok (.dup, 1) := by decide +kernel
theorem dX5_init_514 : decode cX5_init 514 = .ok (.bipush 8, 2) := by decide +kernel
theorem dX5_init_516 : decode cX5_init 516 = .ok (.bipush 32, 2) := by decide +kernel
theorem dX5_init_518 : decode cX5_init 518 = .ok (.castore, 1) := by decide +kernel
theorem dX5_init_519 : decode cX5_init 519 = .ok (.dup, 1) := by decide +kernel
theorem dX5_init_520 : decode cX5_init 520 = .ok (.bipush 9, 2) := by decide +kernel
theorem dX5_init_522 : decode cX5_init 522 = .ok (.bipush 32, 2) := by decide +kernel
theorem dX5_init_524 : decode cX5_init 524 = .ok (.castore, 1) := by decide +kernel
theorem dX5_init_525 : decode cX5_init 525 = .ok (.dup, 1) := by decide +kernel
theorem dX5_init_526 : decode cX5_init 526 = .ok (.bipush 10, 2) := by decide +kernel
theorem dX5_init_528 : decode cX5_init 528 = .ok (.bipush 119, 2) := by decide +kernel
theorem dX5_init_530 : decode cX5_init 530 = .ok (.castore, 1) := by decide +kernel
theorem dX5_init_531 : decode cX5_init 531 = .ok (.dup, 1) := by decide +kernel
theorem dX5_init_532 : decode cX5_init 532 = .ok (.bipush 11, 2) := by decide +kernel
theorem dX5_init_534 : decode cX5_init 534 = .ok (.bipush 101, 2) := by decide +kernel
theorem dX5_init_536 : decode cX5_init 536 = .ok (.castore, 1) := by decide +kernel
theorem dX5_init_537 : decode cX5_init 537 = .ok (.dup, 1) := by decide +kernel
theorem dX5_init_538 : decode cX5_init 538 = .ok (.bipush 12, 2) := by decide +kernel
theorem dX5_init_540 : decode cX5_init 540 = .ok (.bipush 105, 2) := by decide +kernel
theorem dX5_init_542 : decode cX5_init 542 = .ok (.castore, 1) := by decide +kernel
theorem dX5_init_543 : decode cX5_init 543 = .ok (.dup, 1) := by decide +kernel
theorem dX5_init_544 : decode cX5_init 544 = .ok (.bipush 13, 2) := by decide +kernel
theorem dX5_init_546 : decode cX5_init 546 = .ok (.bipush 103, 2) := by decide +kernel
theorem dX5_init_548 : decode cX5_init 548 = .ok (.castore, 1) := by decide +kernel
theorem dX5_init_549 : decode cX5_init 549 = .ok (.dup, 1) := by decide +kernel
theorem dX5_init_550 : decode cX5_init 550 = .ok (.bipush 14, 2) := by decide +kernel
theorem dX5_init_552 : decode cX5_init 552 = .ok (.bipush 104, 2) := by decide +kernel
theorem dX5_init_554 : decode cX5_init 554 = .ok (.castore, 1) := by decide +kernel
theorem dX5_init_555 : decode cX5_init 555 = .ok (.dup, 1) := by decide +kernel
theorem dX5_init_556 : decode cX5_init 556 = .ok (.bipush 15, 2) := by decide +kernel
theorem dX5_init_558 : decode cX5_init 558 = .ok (.bipush 115, 2) := by decide +kernel
theorem dX5_init_560 : decode cX5_init 560 = .ok (.castore, 1) := by decide +kernel
theorem dX5_init_561 : decode cX5_init 561 = .ok (.dup, 1) := by decide +kernel
theorem dX5_init_562 : decode cX5_init 562 = .ok (.bipush 16, 2) := by decide +kernel
theorem dX5_init_564 : decode cX5_init 564 = .ok (.bipush 32, 2) := by decide +kernel
theorem dX5_init_566 : decode cX5_init 566 = .ok (.castore, 1) := by decide +kernel
theorem dX5_init_567 : decode cX5_init 567 = .ok (.dup, 1) := by decide +kernel
theorem dX5_init_568 : decode cX5_init 568 = .ok (.bipush 17, 2) := by decide +kernel
theorem dX5_init_570 : decode cX5_init 570 = .ok (.bipush 32, 2) := by decide +kernel
theorem dX5_init_572 : decode cX5_init 572 = .ok (.castore, 1) := by decide +kernel
theorem dX5_init_573 : decode cX5_init 573 = .ok (.dup, 1) := by decide +kernel
theorem dX5_init_574 : decode cX5_init 574 = .ok (.bipush 18, 2) := by decide +kernel
theorem dX5_init_576 : decode cX5_init 576 = .ok (.bipush 32, 2) := by decide +kernel
theorem dX5_init_578 : decode cX5_init 578 = .ok (.castore, 1) := by decide +kernel
theorem dX5_init_579 : decode cX5_init 579 = .ok (.dup, 1) := by decide +kernel
theorem dX5_init_580 : decode cX5_init 580 = .ok (.bipush 19, 2) := by decide +kernel
theorem dX5_init_582 : decode cX5_init 582 = .ok (.bipush 32, 2) := by decide +kernel
theorem dX5_init_584 : decode cX5_init 584 = .ok (.castore, 1) := by decide +kernel
theorem dX5_init_585 : decode cX5_init 585 = .ok (.dup, 1) := by decide +kernel
theorem dX5_init_586 : decode cX5_init 586 = .ok (.bipush 20, 2) := by decide +kernel
theorem dX5_init_588 : decode cX5_init 588 = .ok (.bipush 119, 2) := by decide +kernel
theorem dX5_init_590 : decode cX5_init 590 = .ok (.castore, 1) := by decide +kernel
theorem dX5_init_591 : decode cX5_init 591 = .ok (.dup, 1) := by decide +kernel
theorem dX5_init_592 : decode cX5_init 592 = .ok (.bipush 21, 2) := by decide +kernel
theorem dX5_init_594 : decode cX5_init 594 = .ok (.bipush 97, 2) := by decide +kernel
theorem dX5_init_596 : decode cX5_init 596 = .ok (.castore, 1) := by decide +kernel
theorem dX5_init_597 : decode cX5_init 597 = .ok (.dup, 1) := by decide +kernel
theorem dX5_init_598 : decode cX5_init 598 = .ok (.bipush 22, 2) := by decide +kernel
theorem dX5_init_600 : decode cX5_init 600 = .ok (.bipush 105, 2) := by decide +kernel
theorem dX5_init_602 : decode cX5_init 602 = .ok (.castore, 1) := by decide +kernel
theorem dX5_init_603 : decode cX5_init 603 = .ok (.dup, 1) := by decide +kernel
theorem dX5_init_604 : decode cX5_init 604 = .ok (.bipush 23, 2) := by decide +kernel
theorem dX5_init_606 : decode cX5_init 606 = .ok (.bipush 116, 2) := by decide +kernel
theorem dX5_init_608 : decode cX5_init 608 = .ok (.castore, 1) := by decide +kernel
theorem dX5_init_609 : decode cX5_init 609 = .ok (.dup, 1) := by decide +kernel
theorem dX5_init_610 : decode cX5_init 610 = .ok (.bipush 24, 2) := by decide +kernel
theorem dX5_init_612 : decode cX5_init 612 = .ok (.bipush 115, 2) := by decide +kernel
theorem dX5_init_614 : decode cX5_init 614 = .ok (.castore, 1) := by decide +kernel
theorem dX5_init_615 : decode cX5_init 615 = .ok (.dup, 1) := by decide +kernel
theorem dX5_init_616 : decode cX5_init 616 = .ok (.bipush 25, 2) := by decide +kernel
theorem dX5_init_618 : decode cX5_init 618 = .ok (.bipush 32, 2) := by decide +kernel
theorem dX5_init_620 : decode cX5_init 620 = .ok (.castore, 1) := by decide +kernel
theorem dX5_init_621 : decode cX5_init 621 = .ok (.dup, 1) := by decide +kernel
theorem dX5_init_622 : decode cX5_init 622 = .ok (.bipush 26, 2) := by decide +kernel
theorem dX5_init_624 : decode cX5_init 624 = .ok (.bipush 32, 2) := by decide +kernel
theorem dX5_init_626 : decode cX5_init 626 = .ok (.castore, 1) := by decide +kernel
theorem dX5_init_627 : decode cX5_init 627 = .ok (.dup, 1) := by decide +kernel
theorem dX5_init_628 : decode cX5_init 628 = .ok (.bipush 27, 2) := by decide +kernel
theorem dX5_init_630 : decode cX5_init 630 = .ok (.bipush 32, 2) := by decide +kernel
theorem dX5_init_632 : decode cX5_init 632 = .ok (.castore, 1) := by decide +kernel
theorem dX5_init_633 : decode cX5_init 633 = .ok (.dup, 1) := by decide +kernel
theorem dX5_init_634 : decode cX5_init 634 = .ok (.bipush 28, 2) := by decide +kernel
theorem dX5_init_636 : decode cX5_init 636 = .ok (.bipush 32, 2) := by decide +kernel
theorem dX5_init_638 : decode cX5_init 638 = .ok (.castore, 1) := by decide +kernel
theorem dX5_init_639 : decode cX5_init 639 = .ok (.dup, 1) := by decide +kernel
theorem dX5_init_640 : decode cX5_init 640 = .ok (.bipush 29, 2) := by decide +kernel
theorem dX5_init_642 : decode cX5_init 642 = .ok (.bipush 32, 2) := by decide +kernel
theorem dX5_init_644 : decode cX5_init 644 = .ok (.castore, 1) := by decide +kernel
theorem dX5_init_645 : decode cX5_init 645 = .ok (.dup, 1) := by decide +kernel
theorem dX5_init_646 : decode cX5_init 646 = .ok (.bipush 30, 2) := by decide +kernel
theorem dX5_init_648 : decode cX5_init 648 = .ok (.bipush 104, 2) := by decide +kernel
theorem dX5_init_650 : decode cX5_init 650 = .ok (.castore, 1) := by decide +kernel
theorem dX5_init_651 : decode cX5_init 651 = .ok (.dup, 1) := by decide +kernel
theorem dX5_init_652 : decode cX5_init 652 = .ok (.bipush 31, 2) := by decide +kernel
theorem dX5_init_654 : decode cX5_init 654 = .ok (.bipush 101, 2) := by decide +kernel
theorem dX5_init_656 : decode cX5_init 656 = .ok (.castore, 1) := by decide +kernel
theorem dX5_init_657 : decode cX5_init 657 = .ok (.dup, 1) := by decide +kernel
theorem dX5_init_658 : decode cX5_init 658 = .ok (.bipush 32, 2) := by decide +kernel
theorem dX5_init_660 : decode cX5_init 660 = .ok (.bipush 108, 2) := by decide +kernel
theorem dX5_init_662 : decode cX5_init 662 = .ok (.castore, 1) := by decide +kernel
theorem dX5_init_663 : decode cX5_init 663 = .ok (.dup, 1) := by decide +kernel
theorem dX5_init_664 : decode cX5_init 664 = .ok (.bipush 33, 2) := by decide +kernel
theorem dX5_init_666 : decode cX5_init 666 = .ok (.bipush 100, 2) := by decide +kernel
theorem dX5_init_668 : decode cX5_init 668 = .ok (.castore, 1) := by decide +kernel
theorem dX5_init_669 : decode cX5_init 669 = .ok (.dup, 1) := by decide +kernel
theorem dX5_init_670 : decode cX5_init 670 = .ok (.bipush 34, 2) := by decide +kernel
theorem dX5_init_672 : decode cX5_init 672 = .ok (.bipush 32, 2) := by decide +kernel
theorem dX5_init_674 : decode cX5_init 674 = .ok (.castore, 1) := by decide +kernel
theorem dX5_init_675 : decode cX5_init 675 = .ok (.dup, 1) := by decide +kernel
theorem dX5_init_676 : decode cX5_init 676 = .ok (.bipush 35, 2) := by decide +kernel
theorem dX5_init_678 : decode cX5_init 678 = .ok (.bipush 32, 2) := by decide +kernel
theorem dX5_init_680 : decode cX5_init 680 = .ok (.castore, 1) := by decide +kernel
theorem dX5_init_681 : decode cX5_init 681 = .ok (.dup, 1) := by decide +kernel
theorem dX5_init_682 : decode cX5_init 682 = .ok (.bipush 36, 2) := by decide +kernel
theorem dX5_init_684 : decode cX5_init 684 = .ok (.bipush 32, 2) := by decide +kernel
theorem dX5_init_686 : decode cX5_init 686 = .ok (.castore, 1) := by decide +kernel
theorem dX5_init_687 : decode cX5_init 687 = .ok (.dup, 1) := by decide +kernel
theorem dX5_init_688 : decode cX5_init 688 = .ok (.bipush 37, 2) := by decide +kernel
theorem dX5_init_690 : decode cX5_init 690 = .ok (.bipush 32, 2) := by decide +kernel
theorem dX5_init_692 : decode cX5_init 692 = .ok (.castore, 1) := by decide +kernel
theorem dX5_init_693 : decode cX5_init 693 = .ok (.dup, 1) := by decide +kernel
theorem dX5_init_694 : decode cX5_init 694 = .ok (.bipush 38, 2) := by decide +kernel
theorem dX5_init_696 : decode cX5_init 696 = .ok (.bipush 32, 2) := by decide +kernel
theorem dX5_init_698 : decode cX5_init 698 = .ok (.castore, 1) := by decide +kernel
theorem dX5_init_699 : decode cX5_init 699 = .ok (.dup, 1) := by decide +kernel
theorem dX5_init_700 : decode cX5_init 700 = .ok (.bipush 39, 2) := by decide +kernel
theorem dX5_init_702 : decode cX5_init 702 = .ok (.bipush 32, 2) := by decide +kernel
theorem dX5_init_704 : decode cX5_init 704 = .ok (.castore, 1) := by decide +kernel
theorem dX5_init_705 : decode cX5_init 705 = .ok (.putfield 29, 3) := by decide +kernel
theorem dX5_init_708 : decode cX5_init 708 = .ok (.aload_n 0, 1) := by decide +kernel
theorem dX5_init_709 : decode cX5_init 709 = .ok (.bipush 20, 2) := by decide +kernel
theorem dX5_init_711 : decode cX5_init 711 = .ok (.newarray .char, 2) := by decide +kernel
theorem dX5_init_713 : decode cX5_init 713 = .ok (.dup, 1) := by decide +kernel
theorem dX5_init_714 : decode cX5_init 714 = .ok (.iconst 0, 1) := by decide +kernel
theorem dX5_init_715 : decode cX5_init 715 = .ok (.bipush 116, 2) := by decide +kernel
theorem dX5_init_717 : decode cX5_init 717 = .ok (.castore, 1) := by decide +kernel
theorem dX5_init_718 : decode cX5_init 718 = .ok (.dup, 1) := by decide +kernel
theorem dX5_init_719 : decode cX5_init 719 = .ok (.iconst 1, 1) := by decide +kernel
theorem dX5_init_720 : decode cX5_init 720 = .ok (.bipush 105, 2) := by decide +kernel
theorem dX5_init_722 : decode cX5_init 722 = .ok (.castore, 1) := by decide +kernel
theorem dX5_init_723 : decode cX5_init 723 = .ok (.dup, 1) := by decide +kernel
theorem dX5_init_724 : decode cX5_init 724 = .ok (.iconst 2, 1) := by decide +kernel
theorem dX5_init_725 : decode cX5_init 725 = .ok (.bipush 100, 2) := by decide +kernel
theorem dX5_init_727 : decode cX5_init 727 = .ok (.castore, 1) := by decide +kernel
theorem dX5_init_728 : decode cX5_init 728 = .ok (.dup, 1) := by decide +kernel
theorem dX5_init_729 : decode cX5_init 729 = .ok (.iconst 3, 1) := by decide +kernel
theorem dX5_init_730 : decode cX5_init 730 = .ok (.bipush 101, 2) := by decide +kernel
theorem dX5_init_732 : decode cX5_init 732 = .ok (.castore, 1) := by decide +kernel
theorem dX5_init_733 : decode cX5_init 733 = .ok (.dup, 1) := by decide +kernel
theorem dX5_init_734 : decode cX5_init 734 = .ok (.iconst 4, 1) := by decide +kernel
theorem dX5_init_735 : decode cX5_init 735 = .ok (.bipush 32, 2) := by decide +kernel
theorem dX5_init_737 : decode cX5_init 737 = .ok (.castore, 1) := by decide +kernel
theorem dX5_init_738 : decode cX5_init 738 = .ok (.dup, 1) := by decide +kernel
theorem dX5_init_739 : decode cX5_init 739 = .ok (.iconst 5, 1) := by decide +kernel
theorem dX5_init_740 : decode cX5_init 740 = .ok (.bipush 32, 2) := by decide +kernel
theorem dX5_init_742 : decode cX5_init 742 = .ok (.castore, 1) := by decide +kernel
theorem dX5_init_743 : decode cX5_init 743 = .ok (.dup, 1) := by decide +kernel
theorem dX5_init_744 : decode cX5_init 744 = .ok (.bipush 6, 2) := by decide +kernel
theorem dX5_init_746 : decode cX5_init 746 = .ok (.bipush 32, 2) := by decide +kernel
theorem dX5_init_748 : decode cX5_init 748 = .ok (.castore, 1) := by decide +kernel
theorem dX5_init_749 : decode cX5_init 749 = .ok (.dup, 1) := by decide +kernel
theorem dX5_init_750 : decode cX5_init 750 = .ok (.bipush 7, 2) := by decide +kernel
theorem dX5_init_752 : decode cX5_init 752 = .ok (.bipush 32, 2) := by decide +kernel
theorem dX5_init_754 : decode cX5_init 754 = .ok (.castore, 1) := by decide +kernel
theorem dX5_init_755 : decode cX5_init 755 = .ok (.dup, 1) := by decide +kernel
theorem dX5_init_756 : decode cX5_init 756 = .ok (.bipush 8, 2) := by decide +kernel
theorem dX5_init_758 : decode cX5_init 758 = .ok (.bipush 32, 2) := by decide +kernel
theorem dX5_init_760 : decode cX5_init 760 = .ok (.castore, 1) := by decide +kernel
theorem dX5_init_761 : decode cX5_init 761 = .ok (.dup, 1) := by decide +kernel
theorem dX5_init_762 : decode cX5_init 762 = .ok (.bipush 9, 2) := by decide +kernel
theorem dX5_init_764 : decode cX5_init 764 = .ok (.bipush 32, 2) := by decide +kernel
theorem dX5_init_766 : decode cX5_init 766 = .ok (.castore, 1) := by decide +kernel
theorem dX5_init_767 : decode cX5_init 767 = .ok (.dup, 1) := by decide +kernel
theorem dX5_init_768 : decode cX5_init 768 = .ok (.bipush 10, 2) := by decide +kernel
theorem dX5_init_770 : decode cX5_init 770 = .ok (.bipush 115, 2) := by decide +kernel
theorem dX5_init_772 : decode cX5_init 772 = .ok (.castore, 1) := by decide +kernel
theorem dX5_init_773 : decode cX5_init 773 = .ok (.dup, 1) := by decide +kernel
theorem dX5_init_774 : decode cX5_init 774 = .ok (.bipush 11, 2) := by decide +kernel
theorem dX5_init_776 : decode cX5_init 776 = .ok (.bipush 116, 2) := by decide +kernel
theorem dX5_init_778 : decode cX5_init 778 = .ok (.castore, 1) := by decide +kernel
theorem dX5_init_779 : decode cX5_init 779 = .ok (.dup, 1) := by decide +kernel
theorem dX5_init_780 : decode cX5_init 780 = .ok (.bipush 12, 2) := by decide +kernel
theorem dX5_init_782 : decode cX5_init 782 = .ok (.bipush 111, 2) := by decide +kernel
theorem dX5_init_784 : decode cX5_init 784 = .ok (.castore, 1) := by decide +kernel
theorem dX5_init_785 : decode cX5_init 785 = .ok (.dup, 1) := by decide +kernel
theorem dX5_init_786 : decode cX5_init 786 = .ok (.bipush 13, 2) := by decide +kernel
theorem dX5_init_788 : decode cX5_init 788 = .ok (.bipush 114, 2) := by decide +kernel
theorem dX5_init_790 : decode cX5_init 790 = .ok (.castore, 1) := by decide +kernel
theorem dX5_init_791 : decode cX5_init 791 = .ok (.dup, 1) := by decide +kernel
theorem dX5_init_792 : decode cX5_init 792 = .ok (.bipush 14, 2) := by decide +kernel
theorem dX5_init_794 : decode cX5_init 794 = .ok (.bipush 109, 2) := by decide +kernel
theorem dX5_init_796 : decode cX5_init 796 = .ok (.castore, 1) := by decide +kernel
theorem dX5_init_797 : decode cX5_init 797 = .ok (.dup, 1) := by decide +kernel
theorem dX5_init_798 : decode cX5_init 798 = .ok (.bipush 15, 2) := by decide +kernel
theorem dX5_init_800 : decode cX5_init 800 = .ok (.bipush 32, 2) := by decide +kernel
theorem dX5_init_802 : decode cX5_init 802 = .ok (.castore, 1) := by decide +kernel
theorem dX5_init_803 : decode cX5_init 803 = .ok (.dup, 1) := by decide +kernel
theorem dX5_init_804 : decode cX5_init 804 = .ok (.bipush 16, 2) := by decide +kernel
theorem dX5_init_806 : decode cX5_init 806 = .ok (.bipush 32, 2) := by decide +kernel
theorem dX5_init_808 : decode cX5_init 808 = .ok (.castore, 1) := by decide +kernel
theorem dX5_init_809 : decode cX5_init 809 = .ok (.dup, 1) := by decide +kernel
theorem dX5_init_810 : decode cX5_init 810 = .ok (.bipush 17, 2) := by decide +kernel
theorem dX5_init_812 : decode cX5_init 812 = .ok (.bipush 32, 2) := by decide +kernel
theorem dX5_init_814 : decode cX5_init 814 = .ok (.castore, 1) := by decide +kernel
theorem dX5_init_815 : decode cX5_init 815 = .ok (.dup, 1) := by decide +kernel
theorem dX5_init_816 : decode cX5_init 816 = .ok (.bipush 18, 2) := by decide +kernel
theorem dX5_init_818 : decode cX5_init 818 = .ok (.bipush 32, 2) := by decide +kernel
theorem dX5_init_820 : decode cX5_init 820 = .ok (.castore, 1) := by decide +kernel
theorem dX5_init_821 : decode cX5_init 821 = .ok (.dup, 1) := by decide +kernel
theorem dX5_init_822 : decode cX5_init 822 = .ok (.bipush 19, 2) := by decide +kernel
theorem dX5_init_824 : decode cX5_init 824 = .ok (.bipush 32, 2) := by decide +kernel
theorem dX5_init_826 : decode cX5_init 826 = .ok (.castore, 1) := by decide +kernel
theorem dX5_init_827 : decode cX5_init 827 = .ok (.putfield 32, 3) := by decide +kernel
theorem dX5_init_830 : decode cX5_init 830 = .ok (.aload_n 0, 1) := by decide +kernel
theorem dX5_init_831 : decode cX5_init 831 = .ok (.iconst 4, 1) := by decide +kernel
theorem dX5_init_832 : decode cX5_init 832 = .ok (.newarray .int, 2) := by decide +kernel
theorem dX5_init_834 : decode cX5_init 834 = .ok (.putfield 35, 3) := by decide +kernel
theorem dX5_init_837 : decode cX5_init 837 = .ok (.aload_n 0, 1) := by decide +kernel
theorem dX5_init_838 : decode cX5_init 838 = .ok (.iconst 4, 1) := by decide +kernel
theorem dX5_init_839 : decode cX5_init 839 = .ok (.newarray .int, 2) := by decide +kernel
theorem dX5_init_841 : decode cX5_init 841 = .ok (.putfield 38, 3) := by decide +kernel
theorem dX5_init_844 : decode cX5_init 844 = .ok (.aload_n 0, 1) := by decide +kernel
theorem dX5_init_845 : decode cX5_init 845 = .ok (.sipush 160, 3) := by decide +kernel
theorem dX5_init_848 : decode cX5_init 848 = .ok (.newarray .int, 2) := by decide +kernel
theorem dX5_init_850 : decode cX5_init 850 = .ok (.putfield 41, 3) := by decide +kernel
theorem dX5_init_853 : decode cX5_init 853 = .ok (.aload_n 0, 1) := by decide +kernel
theorem dX5_init_854 : decode cX5_init 854 = .ok (.bipush 40, 2) := by decide +kernel
theorem dX5_init_856 : decode cX5_init 856 = .ok (.newarray .int, 2) := by decide +kernel
theorem dX5_init_858 : decode cX5_init 858 = .ok (.putfield 44, 3) := by decide +kernel
theorem dX5_init_861 : decode cX5_init 861 = .ok (.aload_n 0, 1) := by decide +kernel
theorem dX5_init_862 : decode cX5_init 862 = .ok (.getfield 9, 3) := by decide +kernel
theorem dX5_init_865 : decode cX5_init 865 = .ok (.iconst 2, 1) := by decide +kernel
theorem dX5_init_866 : decode cX5_init 866 = .ok (.iconst 1, 1) := by decide +kernel
theorem dX5_init_867 : decode cX5_init 867 = .ok (.iastore, 1) := by decide +kernel
theorem dX5_init_868 : decode cX5_init 868 = .ok (.iconst 0, 1) := by decide +kernel
theorem dX5_init_869 : decode cX5_init 869 = .ok (.istore_n 1, 1) := by decide +kernel
theorem dX5_init_870 : decode cX5_init 870 = .ok (.iload_n 1, 1) := by decide +kernel
theorem dX5_init_871 : decode cX5_init 871 = .ok (.bipush 10, 2) := by decide +kernel
theorem dX5_init_873 : decode cX5_init 873 = .ok (.if_icmp .ge 19, 3) := by decide +kernel
theorem dX5_init_876 : decode cX5_init 876 = .ok (.aload_n 0, 1) := by decide +kernel
theorem dX5_init_877 : decode cX5_init 877 = .ok (.getfield 9, 3) := by decide +kernel
theorem dX5_init_880 : decode cX5_init 880 = .ok (.bipush 68, 2) := by decide +kernel
theorem dX5_init_882 : decode cX5_init 882 = .ok (.iload_n 1, 1) := by decide +kernel
theorem dX5_init_883 : decode cX5_init 883 = .ok (.iadd, 1) := by decide +kernel
theorem dX5_init_884 : decode cX5_init 884 = .ok (.iconst (-1), 1) := by decide +kernel
theorem dX5_init_885 : decode cX5_init 885 = .ok (.iastore, 1) := by decide +kernel
theorem dX5_init_886 : decode cX5_init 886 = .ok (.iinc 1 1, 3) := by decide +kernel
theorem dX5_init_889 : decode cX5_init 889 = .ok (.goto (-19), 3) := by decide +kernel
theorem dX5_init_892 : decode cX5_init 892 = .ok (.return_, 1) := by decide +kernel

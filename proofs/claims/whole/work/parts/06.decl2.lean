theorem qd_L_law_474 : decode qc_L_law 474 = .ok (.aload_n 2, 1) := by decide +kernel
theorem qd_L_law_475 : decode qc_L_law 475 = .ok (.aload_n 0, 1) := by decide +kernel
theorem qd_L_law_476 : decode qc_L_law 476 = .ok (.iload 4, 2) := by decide +kernel
theorem qd_L_law_478 : decode qc_L_law 478 = .ok (.iconst 1, 1) := by decide +kernel
theorem qd_L_law_479 : decode qc_L_law 479 = .ok (.iadd, 1) := by decide +kernel
theorem qd_L_law_480 : decode qc_L_law 480 = .ok (.iaload, 1) := by decide +kernel
theorem qd_L_law_481 : decode qc_L_law 481 = .ok (.aload_n 0, 1) := by decide +kernel
theorem qd_L_law_482 : decode qc_L_law 482 = .ok (.iload 4, 2) := by decide +kernel
theorem qd_L_law_484 : decode qc_L_law 484 = .ok (.iconst 2, 1) := by decide +kernel
theorem qd_L_law_485 : decode qc_L_law 485 = .ok (.iadd, 1) := by decide +kernel
theorem qd_L_law_486 : decode qc_L_law 486 = .ok (.iaload, 1) := by decide +kernel
theorem qd_L_law_487 : decode qc_L_law 487 = .ok (.invokevirtual 88, 3) := by decide +kernel
theorem qd_L_law_490 : decode qc_L_law 490 = .ok (.lstore 6, 2) := by decide +kernel
theorem qd_L_law_492 : decode qc_L_law 492 = .ok (.aload_n 2, 1) := by decide +kernel
theorem qd_L_law_493 : decode qc_L_law 493 = .ok (.invokevirtual 70, 3) := by decide +kernel
theorem qd_L_law_496 : decode qc_L_law 496 = .ok (.iload 5, 2) := by decide +kernel
theorem qd_L_law_498 : decode qc_L_law 498 = .ok (.if_icmp .eq 5, 3) := by decide +kernel
theorem qd_L_law_501 : decode qc_L_law 501 = .ok (.iconst 0, 1) := by decide +kernel
theorem qd_L_law_502 : decode qc_L_law 502 = .ok (.ireturn, 1) := by decide +kernel
theorem qd_L_law_503 : decode qc_L_law 503 = .ok (.iload 5, 2) := by decide +kernel
theorem qd_L_law_505 : decode qc_L_law 505 = .ok (.ifCond .ne 14, 3) := by decide +kernel
theorem qd_L_law_508 : decode qc_L_law 508 = .ok (.aload_n 3, 1) := by decide +kernel
theorem qd_L_law_509 : decode qc_L_law 509 = .ok (.iconst 0, 1) := by decide +kernel
theorem qd_L_law_510 : decode qc_L_law 510 = .ok (.laload, 1) := by decide +kernel
theorem qd_L_law_511 : decode qc_L_law 511 = .ok (.lload 6, 2) := by decide +kernel
theorem qd_L_law_513 : decode qc_L_law 513 = .ok (.lcmp, 1) := by decide +kernel
theorem qd_L_law_514 : decode qc_L_law 514 = .ok (.ifCond .eq 5, 3) := by decide +kernel
theorem qd_L_law_517 : decode qc_L_law 517 = .ok (.iconst 0, 1) := by decide +kernel
theorem qd_L_law_518 : decode qc_L_law 518 = .ok (.ireturn, 1) := by decide +kernel
theorem qd_L_law_519 : decode qc_L_law 519 = .ok (.goto 728, 3) := by decide +kernel
theorem qd_L_law_522 : decode qc_L_law 522 = .ok (.aload_n 1, 1) := by decide +kernel
theorem qd_L_law_523 : decode qc_L_law 523 = .ok (.aload_n 0, 1) := by decide +kernel
theorem qd_L_law_524 : decode qc_L_law 524 = .ok (.iload 4, 2) := by decide +kernel
theorem qd_L_law_526 : decode qc_L_law 526 = .ok (.iconst 1, 1) := by decide +kernel
theorem qd_L_law_527 : decode qc_L_law 527 = .ok (.iadd, 1) := by decide +kernel
theorem qd_L_law_528 : decode qc_L_law 528 = .ok (.iaload, 1) := by decide +kernel
theorem qd_L_law_529 : decode qc_L_law 529 = .ok (.aload_n 0, 1) := by decide +kernel
theorem qd_L_law_530 : decode qc_L_law 530 = .ok (.iload 4, 2) := by decide +kernel
theorem qd_L_law_532 : decode qc_L_law 532 = .ok (.iconst 2, 1) := by decide +kernel
theorem qd_L_law_533 : decode qc_L_law 533 = .ok (.iadd, 1) := by decide +kernel
theorem qd_L_law_534 : decode qc_L_law 534 = .ok (.iaload, 1) := by decide +kernel
theorem qd_L_law_535 : decode qc_L_law 535 = .ok (.aload_n 3, 1) := by decide +kernel
theorem qd_L_law_536 : decode qc_L_law 536 = .ok (.invokestatic 89, 3) := by decide +kernel
theorem qd_L_law_539 : decode qc_L_law 539 = .ok (.istore 5, 2) := by decide +kernel
theorem qd_L_law_541 : decode qc_L_law 541 = .ok (.aload_n 2, 1) := by decide +kernel
theorem qd_L_law_542 : decode qc_L_law 542 = .ok (.aload_n 0, 1) := by decide +kernel
theorem qd_L_law_543 : decode qc_L_law 543 = .ok (.iload 4, 2) := by decide +kernel
theorem qd_L_law_545 : decode qc_L_law 545 = .ok (.iconst 1, 1) := by decide +kernel
theorem qd_L_law_546 : decode qc_L_law 546 = .ok (.iadd, 1) := by decide +kernel
theorem qd_L_law_547 : decode qc_L_law 547 = .ok (.iaload, 1) := by decide +kernel
theorem qd_L_law_548 : decode qc_L_law 548 = .ok (.aload_n 0, 1) := by decide +kernel
theorem qd_L_law_549 : decode qc_L_law 549 = .ok (.iload 4, 2) := by decide +kernel
theorem qd_L_law_551 : decode qc_L_law 551 = .ok (.iconst 2, 1) := by decide +kernel
theorem qd_L_law_552 : decode qc_L_law 552 = .ok (.iadd, 1) := by decide +kernel
theorem qd_L_law_553 : decode qc_L_law 553 = .ok (.iaload, 1) := by decide +kernel
theorem qd_L_law_554 : decode qc_L_law 554 = .ok (.invokevirtual 91, 3) := by decide +kernel
theorem qd_L_law_557 : decode qc_L_law 557 = .ok (.istore 6, 2) := by decide +kernel
theorem qd_L_law_559 : decode qc_L_law 559 = .ok (.aload_n 2, 1) := by decide +kernel
theorem qd_L_law_560 : decode qc_L_law 560 = .ok (.invokevirtual 70, 3) := by decide +kernel
theorem qd_L_law_563 : decode qc_L_law 563 = .ok (.iload 5, 2) := by decide +kernel
theorem qd_L_law_565 : decode qc_L_law 565 = .ok (.if_icmp .eq 5, 3) := by decide +kernel
theorem qd_L_law_568 : decode qc_L_law 568 = .ok (.iconst 0, 1) := by decide +kernel
theorem qd_L_law_569 : decode qc_L_law 569 = .ok (.ireturn, 1) := by decide +kernel
theorem qd_L_law_570 : decode qc_L_law 570 = .ok (.iload 5, 2) := by decide +kernel
theorem qd_L_law_572 : decode qc_L_law 572 = .ok (.ifCond .ne 15, 3) := by decide +kernel
theorem qd_L_law_575 : decode qc_L_law 575 = .ok (.aload_n 3, 1) := by decide +kernel
theorem qd_L_law_576 : decode qc_L_law 576 = .ok (.iconst 0, 1) := by decide +kernel
theorem qd_L_law_577 : decode qc_L_law 577 = .ok (.laload, 1) := by decide +kernel
theorem qd_L_law_578 : decode qc_L_law 578 = .ok (.iload 6, 2) := by decide +kernel
theorem qd_L_law_580 : decode qc_L_law 580 = .ok (.i2l, 1) := by decide +kernel
theorem qd_L_law_581 : decode qc_L_law 581 = .ok (.lcmp, 1) := by decide +kernel
theorem qd_L_law_582 : decode qc_L_law 582 = .ok (.ifCond .eq 5, 3) := by decide +kernel
theorem qd_L_law_585 : decode qc_L_law 585 = .ok (.iconst 0, 1) := by decide +kernel
theorem qd_L_law_586 : decode qc_L_law 586 = .ok (.ireturn, 1) := by decide +kernel
theorem qd_L_law_587 : decode qc_L_law 587 = .ok (.goto 660, 3) := by decide +kernel
theorem qd_L_law_590 : decode qc_L_law 590 = .ok (.aload_n 1, 1) := by decide +kernel
theorem qd_L_law_591 : decode qc_L_law 591 = .ok (.aload_n 0, 1) := by decide +kernel
theorem qd_L_law_592 : decode qc_L_law 592 = .ok (.iload 4, 2) := by decide +kernel
theorem qd_L_law_594 : decode qc_L_law 594 = .ok (.iconst 1, 1) := by decide +kernel
theorem qd_L_law_595 : decode qc_L_law 595 = .ok (.iadd, 1) := by decide +kernel
theorem qd_L_law_596 : decode qc_L_law 596 = .ok (.iaload, 1) := by decide +kernel
theorem qd_L_law_597 : decode qc_L_law 597 = .ok (.aload_n 0, 1) := by decide +kernel
theorem qd_L_law_598 : decode qc_L_law 598 = .ok (.iload 4, 2) := by decide +kernel
theorem qd_L_law_600 : decode qc_L_law 600 = .ok (.iconst 2, 1) := by decide +kernel
theorem qd_L_law_601 : decode qc_L_law 601 = .ok (.iadd, 1) := by decide +kernel
theorem qd_L_law_602 : decode qc_L_law 602 = .ok (.iaload, 1) := by decide +kernel
theorem qd_L_law_603 : decode qc_L_law 603 = .ok (.aload_n 3, 1) := by decide +kernel
theorem qd_L_law_604 : decode qc_L_law 604 = .ok (.invokestatic 92, 3) := by decide +kernel
theorem qd_L_law_607 : decode qc_L_law 607 = .ok (.istore 5, 2) := by decide +kernel
theorem qd_L_law_609 : decode qc_L_law 609 = .ok (.aload_n 2, 1) := by decide +kernel
theorem qd_L_law_610 : decode qc_L_law 610 = .ok (.aload_n 0, 1) := by decide +kernel
theorem qd_L_law_611 : decode qc_L_law 611 = .ok (.iload 4, 2) := by decide +kernel
theorem qd_L_law_613 : decode qc_L_law 613 = .ok (.iconst 1, 1) := by decide +kernel
theorem qd_L_law_614 : decode qc_L_law 614 = .ok (.iadd, 1) := by decide +kernel
theorem qd_L_law_615 : decode qc_L_law 615 = .ok (.iaload, 1) := by decide +kernel
theorem qd_L_law_616 : decode qc_L_law 616 = .ok (.aload_n 0, 1) := by decide +kernel
theorem qd_L_law_617 : decode qc_L_law 617 = .ok (.iload 4, 2) := by decide +kernel
theorem qd_L_law_619 : decode qc_L_law 619 = .ok (.iconst 2, 1) := by decide +kernel
theorem qd_L_law_620 : decode qc_L_law 620 = .ok (.iadd, 1) := by decide +kernel
theorem qd_L_law_621 : decode qc_L_law 621 = .ok (.iaload, 1) := by decide +kernel
theorem qd_L_law_622 : decode qc_L_law 622 = .ok (.invokevirtual 94, 3) := by decide +kernel
theorem qd_L_law_625 : decode qc_L_law 625 = .ok (.istore 6, 2) := by decide +kernel
theorem qd_L_law_627 : decode qc_L_law 627 = .ok (.aload_n 2, 1) := by decide +kernel
theorem qd_L_law_628 : decode qc_L_law 628 = .ok (.invokevirtual 70, 3) := by decide +kernel
theorem qd_L_law_631 : decode qc_L_law 631 = .ok (.iload 5, 2) := by decide +kernel
theorem qd_L_law_633 : decode qc_L_law 633 = .ok (.if_icmp .eq 5, 3) := by decide +kernel
theorem qd_L_law_636 : decode qc_L_law 636 = .ok (.iconst 0, 1) := by decide +kernel
theorem qd_L_law_637 : decode qc_L_law 637 = .ok (.ireturn, 1) := by decide +kernel
theorem qd_L_law_638 : decode qc_L_law 638 = .ok (.iload 5, 2) := by decide +kernel
theorem qd_L_law_640 : decode qc_L_law 640 = .ok (.ifCond .ne 15, 3) := by decide +kernel
theorem qd_L_law_643 : decode qc_L_law 643 = .ok (.aload_n 3, 1) := by decide +kernel
theorem qd_L_law_644 : decode qc_L_law 644 = .ok (.iconst 0, 1) := by decide +kernel
theorem qd_L_law_645 : decode qc_L_law 645 = .ok (.laload, 1) := by decide +kernel
theorem qd_L_law_646 : decode qc_L_law 646 = .ok (.iload 6, 2) := by decide +kernel
theorem qd_L_law_648 : decode qc_L_law 648 = .ok (.i2l, 1) := by decide +kernel
theorem qd_L_law_649 : decode qc_L_law 649 = .ok (.lcmp, 1) := by decide +kernel
theorem qd_L_law_650 : decode qc_L_law 650 = .ok (.ifCond .eq 5, 3) := by decide +kernel
theorem qd_L_law_653 : decode qc_L_law 653 = .ok (.iconst 0, 1) := by decide +kernel
theorem qd_L_law_654 : decode qc_L_law 654 = .ok (.ireturn, 1) := by decide +kernel
theorem qd_L_law_655 : decode qc_L_law 655 = .ok (.goto 592, 3) := by decide +kernel
theorem qd_L_law_658 : decode qc_L_law 658 = .ok (.aload_n 1, 1) := by decide +kernel
theorem qd_L_law_659 : decode qc_L_law 659 = .ok (.aload_n 0, 1) := by decide +kernel
theorem qd_L_law_660 : decode qc_L_law 660 = .ok (.iload 4, 2) := by decide +kernel
theorem qd_L_law_662 : decode qc_L_law 662 = .ok (.iconst 1, 1) := by decide +kernel
theorem qd_L_law_663 : decode qc_L_law 663 = .ok (.iadd, 1) := by decide +kernel
theorem qd_L_law_664 : decode qc_L_law 664 = .ok (.iaload, 1) := by decide +kernel
theorem qd_L_law_665 : decode qc_L_law 665 = .ok (.aload_n 3, 1) := by decide +kernel
theorem qd_L_law_666 : decode qc_L_law 666 = .ok (.invokestatic 95, 3) := by decide +kernel
theorem qd_L_law_669 : decode qc_L_law 669 = .ok (.istore 5, 2) := by decide +kernel
theorem qd_L_law_671 : decode qc_L_law 671 = .ok (.aload_n 2, 1) := by decide +kernel
theorem qd_L_law_672 : decode qc_L_law 672 = .ok (.aload_n 0, 1) := by decide +kernel
theorem qd_L_law_673 : decode qc_L_law 673 = .ok (.iload 4, 2) := by decide +kernel
theorem qd_L_law_675 : decode qc_L_law 675 = .ok (.iconst 1, 1) := by decide +kernel
theorem qd_L_law_676 : decode qc_L_law 676 = .ok (.iadd, 1) := by decide +kernel
theorem qd_L_law_677 : decode qc_L_law 677 = .ok (.iaload, 1) := by decide +kernel
theorem qd_L_law_678 : decode qc_L_law 678 = .ok (.invokevirtual 97, 3) := by decide +kernel
theorem qd_L_law_681 : decode qc_L_law 681 = .ok (.lstore 6, 2) := by decide +kernel
theorem qd_L_law_683 : decode qc_L_law 683 = .ok (.aload_n 2, 1) := by decide +kernel
theorem qd_L_law_684 : decode qc_L_law 684 = .ok (.invokevirtual 70, 3) := by decide +kernel
theorem qd_L_law_687 : decode qc_L_law 687 = .ok (.iload 5, 2) := by decide +kernel
theorem qd_L_law_689 : decode qc_L_law 689 = .ok (.if_icmp .eq 5, 3) := by decide +kernel
theorem qd_L_law_692 : decode qc_L_law 692 = .ok (.iconst 0, 1) := by decide +kernel
theorem qd_L_law_693 : decode qc_L_law 693 = .ok (.ireturn, 1) := by decide +kernel
theorem qd_L_law_694 : decode qc_L_law 694 = .ok (.iload 5, 2) := by decide +kernel
theorem qd_L_law_696 : decode qc_L_law 696 = .ok (.ifCond .ne 14, 3) := by decide +kernel
theorem qd_L_law_699 : decode qc_L_law 699 = .ok (.aload_n 3, 1) := by decide +kernel
theorem qd_L_law_700 : decode qc_L_law 700 = .ok (.iconst 0, 1) := by decide +kernel
theorem qd_L_law_701 : decode qc_L_law 701 = .ok (.laload, 1) := by decide +kernel
theorem qd_L_law_702 : decode qc_L_law 702 = .ok (.lload 6, 2) := by decide +kernel
theorem qd_L_law_704 : decode qc_L_law 704 = .ok (.lcmp, 1) := by decide +kernel
theorem qd_L_law_705 : decode qc_L_law 705 = .ok (.ifCond .eq 5, 3) := by decide +kernel
theorem qd_L_law_708 : decode qc_L_law 708 = .ok (.iconst 0, 1) := by decide +kernel
theorem qd_L_law_709 : decode qc_L_law 709 = .ok (.ireturn, 1) := by decide +kernel
theorem qd_L_law_710 : decode qc_L_law 710 = .ok (.goto 537, 3) := by decide +kernel
theorem qd_L_law_713 : decode qc_L_law 713 = .ok (.aload_n 1, 1) := by decide +kernel
theorem qd_L_law_714 : decode qc_L_law 714 = .ok (.aload_n 0, 1) := by decide +kernel
theorem qd_L_law_715 : decode qc_L_law 715 = .ok (.iload 4, 2) := by decide +kernel
theorem qd_L_law_717 : decode qc_L_law 717 = .ok (.iconst 1, 1) := by decide +kernel
theorem qd_L_law_718 : decode qc_L_law 718 = .ok (.iadd, 1) := by decide +kernel
theorem qd_L_law_719 : decode qc_L_law 719 = .ok (.iaload, 1) := by decide +kernel
theorem qd_L_law_720 : decode qc_L_law 720 = .ok (.aload_n 0, 1) := by decide +kernel
theorem qd_L_law_721 : decode qc_L_law 721 = .ok (.iload 4, 2) := by decide +kernel
theorem qd_L_law_723 : decode qc_L_law 723 = .ok (.iconst 2, 1) := by decide +kernel
theorem qd_L_law_724 : decode qc_L_law 724 = .ok (.iadd, 1) := by decide +kernel
theorem qd_L_law_725 : decode qc_L_law 725 = .ok (.iaload, 1) := by decide +kernel
theorem qd_L_law_726 : decode qc_L_law 726 = .ok (.i2l, 1) := by decide +kernel
theorem qd_L_law_727 : decode qc_L_law 727 = .ok (.bipush 32, 2) := by decide +kernel
theorem qd_L_law_729 : decode qc_L_law 729 = .ok (.lshl, 1) := by decide +kernel
theorem qd_L_law_730 : decode qc_L_law 730 = .ok (.aload_n 0, 1) := by decide +kernel
theorem qd_L_law_731 : decode qc_L_law 731 = .ok (.iload 4, 2) := by decide +kernel
theorem qd_L_law_733 : decode qc_L_law 733 = .ok (.iconst 3, 1) := by decide +kernel
theorem qd_L_law_734 : decode qc_L_law 734 = .ok (.iadd, 1) := by decide +kernel
theorem qd_L_law_735 : decode qc_L_law 735 = .ok (.iaload, 1) := by decide +kernel
theorem qd_L_law_736 : decode qc_L_law 736 = .ok (.i2l, 1) := by decide +kernel
theorem qd_L_law_737 : decode qc_L_law 737 = .ok (.ldc2_w 62, 3) := by decide +kernel
theorem qd_L_law_740 : decode qc_L_law 740 = .ok (.land, 1) := by decide +kernel
theorem qd_L_law_741 : decode qc_L_law 741 = .ok (.lor, 1) := by decide +kernel
theorem qd_L_law_742 : decode qc_L_law 742 = .ok (.aload_n 3, 1) := by decide +kernel
theorem qd_L_law_743 : decode qc_L_law 743 = .ok (.invokestatic 98, 3) := by decide +kernel
theorem qd_L_law_746 : decode qc_L_law 746 = .ok (.istore 5, 2) := by decide +kernel
theorem qd_L_law_748 : decode qc_L_law 748 = .ok (.aload_n 2, 1) := by decide +kernel
theorem qd_L_law_749 : decode qc_L_law 749 = .ok (.aload_n 0, 1) := by decide +kernel
theorem qd_L_law_750 : decode qc_L_law 750 = .ok (.iload 4, 2) := by decide +kernel
theorem qd_L_law_752 : decode qc_L_law 752 = .ok (.iconst 1, 1) := by decide +kernel
theorem qd_L_law_753 : decode qc_L_law 753 = .ok (.iadd, 1) := by decide +kernel
theorem qd_L_law_754 : decode qc_L_law 754 = .ok (.iaload, 1) := by decide +kernel
theorem qd_L_law_755 : decode qc_L_law 755 = .ok (.aload_n 0, 1) := by decide +kernel
theorem qd_L_law_756 : decode qc_L_law 756 = .ok (.iload 4, 2) := by decide +kernel
theorem qd_L_law_758 : decode qc_L_law 758 = .ok (.iconst 2, 1) := by decide +kernel
theorem qd_L_law_759 : decode qc_L_law 759 = .ok (.iadd, 1) := by decide +kernel
theorem qd_L_law_760 : decode qc_L_law 760 = .ok (.iaload, 1) := by decide +kernel
theorem qd_L_law_761 : decode qc_L_law 761 = .ok (.i2l, 1) := by decide +kernel
theorem qd_L_law_762 : decode qc_L_law 762 = .ok (.bipush 32, 2) := by decide +kernel
theorem qd_L_law_764 : decode qc_L_law 764 = .ok (.lshl, 1) := by decide +kernel
theorem qd_L_law_765 : decode qc_L_law 765 = .ok (.aload_n 0, 1) := by decide +kernel
theorem qd_L_law_766 : decode qc_L_law 766 = .ok (.iload 4, 2) := by decide +kernel
theorem qd_L_law_768 : decode qc_L_law 768 = .ok (.iconst 3, 1) := by decide +kernel
theorem qd_L_law_769 : decode qc_L_law 769 = .ok (.iadd, 1) := by decide +kernel
theorem qd_L_law_770 : decode qc_L_law 770 = .ok (.iaload, 1) := by decide +kernel
theorem qd_L_law_771 : decode qc_L_law 771 = .ok (.i2l, 1) := by decide +kernel
theorem qd_L_law_772 : decode qc_L_law 772 = .ok (.ldc2_w 62, 3) := by decide +kernel
theorem qd_L_law_775 : decode qc_L_law 775 = .ok (.land, 1) := by decide +kernel
theorem qd_L_law_776 : decode qc_L_law 776 = .ok (.lor, 1) := by decide +kernel
theorem qd_L_law_777 : decode qc_L_law 777 = .ok (.invokevirtual 101, 3) := by decide +kernel
theorem qd_L_law_780 : decode qc_L_law 780 = .ok (.lstore 6, 2) := by decide +kernel
theorem qd_L_law_782 : decode qc_L_law 782 = .ok (.aload_n 2, 1) := by decide +kernel
theorem qd_L_law_783 : decode qc_L_law 783 = .ok (.invokevirtual 70, 3) := by decide +kernel
theorem qd_L_law_786 : decode qc_L_law 786 = .ok (.iload 5, 2) := by decide +kernel
theorem qd_L_law_788 : decode qc_L_law 788 = .ok (.if_icmp .eq 5, 3) := by decide +kernel
theorem qd_L_law_791 : decode qc_L_law 791 = .ok (.iconst 0, 1) := by decide +kernel
theorem qd_L_law_792 : decode qc_L_law 792 = .ok (.ireturn, 1) := by decide +kernel
theorem qd_L_law_793 : decode qc_L_law 793 = .ok (.iload 5, 2) := by decide +kernel
theorem qd_L_law_795 : decode qc_L_law 795 = .ok (.ifCond .ne 14, 3) := by decide +kernel
theorem qd_L_law_798 : decode qc_L_law 798 = .ok (.aload_n 3, 1) := by decide +kernel
theorem qd_L_law_799 : decode qc_L_law 799 = .ok (.iconst 0, 1) := by decide +kernel
theorem qd_L_law_800 : decode qc_L_law 800 = .ok (.laload, 1) := by decide +kernel
theorem qd_L_law_801 : decode qc_L_law 801 = .ok (.lload 6, 2) := by decide +kernel
theorem qd_L_law_803 : decode qc_L_law 803 = .ok (.lcmp, 1) := by decide +kernel
theorem qd_L_law_804 : decode qc_L_law 804 = .ok (.ifCond .eq 5, 3) := by decide +kernel
theorem qd_L_law_807 : decode qc_L_law 807 = .ok (.iconst 0, 1) := by decide +kernel
theorem qd_L_law_808 : decode qc_L_law 808 = .ok (.ireturn, 1) := by decide +kernel
theorem qd_L_law_809 : decode qc_L_law 809 = .ok (.goto 438, 3) := by decide +kernel
theorem qd_L_law_812 : decode qc_L_law 812 = .ok (.aload_n 1, 1) := by decide +kernel
theorem qd_L_law_813 : decode qc_L_law 813 = .ok (.aload_n 0, 1) := by decide +kernel
theorem qd_L_law_814 : decode qc_L_law 814 = .ok (.iload 4, 2) := by decide +kernel
theorem qd_L_law_816 : decode qc_L_law 816 = .ok (.iconst 1, 1) := by decide +kernel
theorem qd_L_law_817 : decode qc_L_law 817 = .ok (.iadd, 1) := by decide +kernel
theorem qd_L_law_818 : decode qc_L_law 818 = .ok (.iaload, 1) := by decide +kernel
theorem qd_L_law_819 : decode qc_L_law 819 = .ok (.aload_n 3, 1) := by decide +kernel
theorem qd_L_law_820 : decode qc_L_law 820 = .ok (.invokestatic 102, 3) := by decide +kernel
theorem qd_L_law_823 : decode qc_L_law 823 = .ok (.istore 5, 2) := by decide +kernel
theorem qd_L_law_825 : decode qc_L_law 825 = .ok (.aload_n 2, 1) := by decide +kernel
theorem qd_L_law_826 : decode qc_L_law 826 = .ok (.aload_n 0, 1) := by decide +kernel
theorem qd_L_law_827 : decode qc_L_law 827 = .ok (.iload 4, 2) := by decide +kernel
theorem qd_L_law_829 : decode qc_L_law 829 = .ok (.iconst 1, 1) := by decide +kernel
theorem qd_L_law_830 : decode qc_L_law 830 = .ok (.iadd, 1) := by decide +kernel
theorem qd_L_law_831 : decode qc_L_law 831 = .ok (.iaload, 1) := by decide +kernel
theorem qd_L_law_832 : decode qc_L_law 832 = .ok (.invokevirtual 104, 3) := by decide +kernel
theorem qd_L_law_835 : decode qc_L_law 835 = .ok (.istore 6, 2) := by decide +kernel
theorem qd_L_law_837 : decode qc_L_law 837 = .ok (.aload_n 2, 1) := by decide +kernel
theorem qd_L_law_838 : decode qc_L_law 838 = .ok (.invokevirtual 70, 3) := by decide +kernel
theorem qd_L_law_841 : decode qc_L_law 841 = .ok (.iload 5, 2) := by decide +kernel
theorem qd_L_law_843 : decode qc_L_law 843 = .ok (.if_icmp .eq 5, 3) := by decide +kernel
theorem qd_L_law_846 : decode qc_L_law 846 = .ok (.iconst 0, 1) := by decide +kernel
theorem qd_L_law_847 : decode qc_L_law 847 = .ok (.ireturn, 1) := by decide +kernel
theorem qd_L_law_848 : decode qc_L_law 848 = .ok (.iload 5, 2) := by decide +kernel
theorem qd_L_law_850 : decode qc_L_law 850 = .ok (.ifCond .ne 15, 3) := by decide +kernel
theorem qd_L_law_853 : decode qc_L_law 853 = .ok (.aload_n 3, 1) := by decide +kernel
theorem qd_L_law_854 : decode qc_L_law 854 = .ok (.iconst 0, 1) := by decide +kernel
theorem qd_L_law_855 : decode qc_L_law 855 = .ok (.laload, 1) := by decide +kernel
theorem qd_L_law_856 : decode qc_L_law 856 = .ok (.iload 6, 2) := by decide +kernel
theorem qd_L_law_858 : decode qc_L_law 858 = .ok (.i2l, 1) := by decide +kernel
theorem qd_L_law_859 : decode qc_L_law 859 = .ok (.lcmp, 1) := by decide +kernel
theorem qd_L_law_860 : decode qc_L_law 860 = .ok (.ifCond .eq 5, 3) := by decide +kernel
theorem qd_L_law_863 : decode qc_L_law 863 = .ok (.iconst 0, 1) := by decide +kernel
theorem qd_L_law_864 : decode qc_L_law 864 = .ok (.ireturn, 1) := by decide +kernel
theorem qd_L_law_865 : decode qc_L_law 865 = .ok (.goto 382, 3) := by decide +kernel
theorem qd_L_law_868 : decode qc_L_law 868 = .ok (.aload_n 1, 1) := by decide +kernel
theorem qd_L_law_869 : decode qc_L_law 869 = .ok (.aload_n 0, 1) := by decide +kernel
theorem qd_L_law_870 : decode qc_L_law 870 = .ok (.iload 4, 2) := by decide +kernel
theorem qd_L_law_872 : decode qc_L_law 872 = .ok (.iconst 1, 1) := by decide +kernel
theorem qd_L_law_873 : decode qc_L_law 873 = .ok (.iadd, 1) := by decide +kernel
theorem qd_L_law_874 : decode qc_L_law 874 = .ok (.iaload, 1) := by decide +kernel
theorem qd_L_law_875 : decode qc_L_law 875 = .ok (.aload_n 0, 1) := by decide +kernel
theorem qd_L_law_876 : decode qc_L_law 876 = .ok (.iload 4, 2) := by decide +kernel
theorem qd_L_law_878 : decode qc_L_law 878 = .ok (.iconst 2, 1) := by decide +kernel
theorem qd_L_law_879 : decode qc_L_law 879 = .ok (.iadd, 1) := by decide +kernel
theorem qd_L_law_880 : decode qc_L_law 880 = .ok (.iaload, 1) := by decide +kernel
theorem qd_L_law_881 : decode qc_L_law 881 = .ok (.aload_n 0, 1) := by decide +kernel
theorem qd_L_law_882 : decode qc_L_law 882 = .ok (.iload 4, 2) := by decide +kernel

theorem dX12_init_478 : decode cX12_init 478 = .ok (.aload_n 0, 1) := by decide +kernel
theorem dX12_init_479 : decode cX12_init 479 = .ok (.bipush 40, 2) := by decide +kernel
theorem dX12_init_481 : decode cX12_init 481 = .ok (.newarray .int, 2) := by decide +kernel
theorem dX12_init_483 : decode cX12_init 483 = .ok (.putfield 184, 3) := by decide +kernel
theorem dX12_init_486 : decode cX12_init 486 = .ok (.aload_n 0, 1) := by decide +kernel
theorem dX12_init_487 : decode cX12_init 487 = .ok (.bipush 40, 2) := by decide +kernel
theorem dX12_init_489 : decode cX12_init 489 = .ok (.newarray .int, 2) := by decide +kernel
theorem dX12_init_491 : decode cX12_init 491 = .ok (.putfield 187, 3) := by decide +kernel
theorem dX12_init_494 : decode cX12_init 494 = .ok (.aload_n 0, 1) := by decide +kernel
theorem dX12_init_495 : decode cX12_init 495 = .ok (.sipush 200, 3) := by decide +kernel
theorem dX12_init_498 : decode cX12_init 498 = .ok (.newarray .int, 2) := by decide +kernel
theorem dX12_init_500 : decode cX12_init 500 = .ok (.putfield 190, 3) := by decide +kernel
theorem dX12_init_503 : decode cX12_init 503 = .ok (.aload_n 0, 1) := by decide +kernel
theorem dX12_init_504 : decode cX12_init 504 = .ok (.sipush 200, 3) := by decide +kernel
theorem dX12_init_507 : decode cX12_init 507 = .ok (.newarray .int, 2) := by decide +kernel
theorem dX12_init_509 : decode cX12_init 509 = .ok (.putfield 193, 3) := by decide +kernel
theorem dX12_init_512 : decode cX12_init 512 = .ok (.aload_n 0, 1) := by decide +kernel
theorem dX12_init_513 : decode cX12_init 513 = .ok (.sipush 240, 3) := by decide +kernel
theorem dX12_init_516 : decode cX12_init 516 = .ok (.newarray .int, 2) := by decide +kernel
theorem dX12_init_518 : decode cX12_init 518 = .ok (.putfield 196, 3) := by decide +kernel
theorem dX12_init_521 : decode cX12_init 521 = .ok (.aload_n 0, 1) := by decide +kernel
theorem dX12_init_522 : decode cX12_init 522 = .ok (.sipush 240, 3) := by decide +kernel
theorem dX12_init_525 : decode cX12_init 525 = .ok (.newarray .int, 2) := by decide +kernel
theorem dX12_init_527 : decode cX12_init 527 = .ok (.putfield 199, 3) := by decide +kernel
theorem dX12_init_530 : decode cX12_init 530 = .ok (.aload_n 0, 1) := by decide +kernel
theorem dX12_init_531 : decode cX12_init 531 = .ok (.sipush 240, 3) := by decide +kernel
theorem dX12_init_534 : decode cX12_init 534 = .ok (.newarray .boolean, 2) := by decide +kernel
theorem dX12_init_536 : decode cX12_init 536 = .ok (.putfield 202, 3) := by decide +kernel
theorem dX12_init_539 : decode cX12_init 539 = .ok (.aload_n 0, 1) := by decide +kernel
theorem dX12_init_540 : decode cX12_init 540 = .ok (.sipush 4000, 3) := by decide +kernel
theorem dX12_init_543 : decode cX12_init 543 = .ok (.newarray .int, 2) := by decide +kernel
theorem dX12_init_545 : decode cX12_init 545 = .ok (.putfield 205, 3) := by decide +kernel
theorem dX12_init_548 : decode cX12_init 548 = .ok (.aload_n 0, 1) := by decide +kernel
theorem dX12_init_549 : decode cX12_init 549 = .ok (.sipush 4000, 3) := by decide +kernel
theorem dX12_init_552 : decode cX12_init 552 = .ok (.newarray .int, 2) := by decide +kernel
theorem dX12_init_554 : decode cX12_init 554 = .ok (.putfield 208, 3) := by decide +kernel
theorem dX12_init_557 : decode cX12_init 557 = .ok (.aload_n 0, 1) := by decide +kernel
theorem dX12_init_558 : decode cX12_init 558 = .ok (.sipush 4000, 3) := by decide +kernel
theorem dX12_init_561 : decode cX12_init 561 = .ok (.newarray .int, 2) := by decide +kernel
theorem dX12_init_563 : decode cX12_init 563 = .ok (.putfield 211, 3) := by decide +kernel
theorem dX12_init_566 : decode cX12_init 566 = .ok (.aload_n 0, 1) := by decide +kernel
theorem dX12_init_567 : decode cX12_init 567 = .ok (.sipush 4000, 3) := by decide +kernel
theorem dX12_init_570 : decode cX12_init 570 = .ok (.newarray .long, 2) := by decide +kernel
theorem dX12_init_572 : decode cX12_init 572 = .ok (.putfield 214, 3) := by decide +kernel
theorem dX12_init_575 : decode cX12_init 575 = .ok (.aload_n 0, 1) := by decide +kernel
theorem dX12_init_576 : decode cX12_init 576 = .ok (.sipush 4000, 3) := by decide +kernel
theorem dX12_init_579 : decode cX12_init 579 = .ok (.newarray .int, 2) := by decide +kernel
theorem dX12_init_581 : decode cX12_init 581 = .ok (.putfield 218, 3) := by decide +kernel
theorem dX12_init_584 : decode cX12_init 584 = .ok (.aload_n 0, 1) := by decide +kernel
theorem dX12_init_585 : decode cX12_init 585 = .ok (.sipush 4000, 3) := by decide +kernel
theorem dX12_init_588 : decode cX12_init 588 = .ok (.newarray .int, 2) := by decide +kernel
theorem dX12_init_590 : decode cX12_init 590 = .ok (.putfield 221, 3) := by decide +kernel
theorem dX12_init_593 : decode cX12_init 593 = .ok (.aload_n 0, 1) := by decide +kernel
theorem dX12_init_594 : decode cX12_init 594 = .ok (.sipush 4000, 3) := by decide +kernel
theorem dX12_init_597 : decode cX12_init 597 = .ok (.newarray .int, 2) := by decide +kernel
theorem dX12_init_599 : decode cX12_init 599 = .ok (.putfield 224, 3) := by decide +kernel
theorem dX12_init_602 : decode cX12_init 602 = .ok (.aload_n 0, 1) := by decide +kernel
theorem dX12_init_603 : decode cX12_init 603 = .ok (.sipush 4000, 3) := by decide +kernel
theorem dX12_init_606 : decode cX12_init 606 = .ok (.newarray .int, 2) := by decide +kernel
theorem dX12_init_608 : decode cX12_init 608 = .ok (.putfield 227, 3) := by decide +kernel
theorem dX12_init_611 : decode cX12_init 611 = .ok (.aload_n 0, 1) := by decide +kernel
theorem dX12_init_612 : decode cX12_init 612 = .ok (.sipush 240, 3) := by decide +kernel
theorem dX12_init_615 : decode cX12_init 615 = .ok (.newarray .int, 2) := by decide +kernel
theorem dX12_init_617 : decode cX12_init 617 = .ok (.putfield 230, 3) := by decide +kernel
theorem dX12_init_620 : decode cX12_init 620 = .ok (.aload_n 0, 1) := by decide +kernel
theorem dX12_init_621 : decode cX12_init 621 = .ok (.bipush 10, 2) := by decide +kernel
theorem dX12_init_623 : decode cX12_init 623 = .ok (.newarray .int, 2) := by decide +kernel
theorem dX12_init_625 : decode cX12_init 625 = .ok (.putfield 233, 3) := by decide +kernel
theorem dX12_init_628 : decode cX12_init 628 = .ok (.aload_n 0, 1) := by decide +kernel
theorem dX12_init_629 : decode cX12_init 629 = .ok (.sipush 4000, 3) := by decide +kernel
theorem dX12_init_632 : decode cX12_init 632 = .ok (.newarray .int, 2) := by decide +kernel
theorem dX12_init_634 : decode cX12_init 634 = .ok (.putfield 236, 3) := by decide +kernel
theorem dX12_init_637 : decode cX12_init 637 = .ok (.aload_n 0, 1) := by decide +kernel
theorem dX12_init_638 : decode cX12_init 638 = .ok (.sipush 4000, 3) := by decide +kernel
theorem dX12_init_641 : decode cX12_init 641 = .ok (.newarray .int, 2) := by decide +kernel
theorem dX12_init_643 : decode cX12_init 643 = .ok (.putfield 239, 3) := by decide +kernel
theorem dX12_init_646 : decode cX12_init 646 = .ok (.aload_n 0, 1) := by decide +kernel
theorem dX12_init_647 : decode cX12_init 647 = .ok (.sipush 4000, 3) := by decide +kernel
theorem dX12_init_650 : decode cX12_init 650 = .ok (.newarray .int, 2) := by decide +kernel
theorem dX12_init_652 : decode cX12_init 652 = .ok (.putfield 242, 3) := by decide +kernel
theorem dX12_init_655 : decode cX12_init 655 = .ok (.aload_n 0, 1) := by decide +kernel
theorem dX12_init_656 : decode cX12_init 656 = .ok (.sipush 4000, 3) := by decide +kernel
theorem dX12_init_659 : decode cX12_init 659 = .ok (.newarray .long, 2) := by decide +kernel
theorem dX12_init_661 : decode cX12_init 661 = .ok (.putfield 245, 3) := by decide +kernel
theorem dX12_init_664 : decode cX12_init 664 = .ok (.aload_n 0, 1) := by decide +kernel
theorem dX12_init_665 : decode cX12_init 665 = .ok (.sipush 240, 3) := by decide +kernel
theorem dX12_init_668 : decode cX12_init 668 = .ok (.newarray .int, 2) := by decide +kernel
theorem dX12_init_670 : decode cX12_init 670 = .ok (.putfield 248, 3) := by decide +kernel
theorem dX12_init_673 : decode cX12_init 673 = .ok (.aload_n 0, 1) := by decide +kernel
theorem dX12_init_674 : decode cX12_init 674 = .ok (.sipush 11000, 3) := by decide +kernel
theorem dX12_init_677 : decode cX12_init 677 = .ok (.newarray .int, 2) := by decide +kernel
theorem dX12_init_679 : decode cX12_init 679 = .ok (.putfield 251, 3) := by decide +kernel
theorem dX12_init_682 : decode cX12_init 682 = .ok (.aload_n 0, 1) := by decide +kernel
theorem dX12_init_683 : decode cX12_init 683 = .ok (.ldc 254, 2) := by decide +kernel
theorem dX12_init_685 : decode cX12_init 685 = .ok (.newarray .int, 2) := by decide +kernel
theorem dX12_init_687 : decode cX12_init 687 = .ok (.putfield 255, 3) := by decide +kernel
theorem dX12_init_690 : decode cX12_init 690 = .ok (.aload_n 0, 1) := by decide +kernel
theorem dX12_init_691 : decode cX12_init 691 = .ok (.bipush 40, 2) := by decide +kernel
theorem dX12_init_693 : decode cX12_init 693 = .ok (.newarray .int, 2) := by decide +kernel
theorem dX12_init_695 : decode cX12_init 695 = .ok (.putfield 258, 3) := by decide +kernel
theorem dX12_init_698 : decode cX12_init 698 = .ok (.aload_n 0, 1) := by decide +kernel
theorem dX12_init_699 : decode cX12_init 699 = .ok (.ldc_w 261, 3) := by decide +kernel
theorem dX12_init_702 : decode cX12_init 702 = .ok (.newarray .int, 2) := by decide +kernel
theorem dX12_init_704 : decode cX12_init 704 = .ok (.putfield 262, 3) := by decide +kernel
theorem dX12_init_707 : decode cX12_init 707 = .ok (.aload_n 0, 1) := by decide +kernel
theorem dX12_init_708 : decode cX12_init 708 = .ok (.bipush 40, 2) := by decide +kernel
theorem dX12_init_710 : decode cX12_init 710 = .ok (.newarray .int, 2) := by decide +kernel
theorem dX12_init_712 : decode cX12_init 712 = .ok (.putfield 265, 3) := by decide +kernel
theorem dX12_init_715 : decode cX12_init 715 = .ok (.aload_n 0, 1) := by decide +kernel
theorem dX12_init_716 : decode cX12_init 716 = .ok (.bipush 40, 2) := by decide +kernel
theorem dX12_init_718 : decode cX12_init 718 = .ok (.newarray .int, 2) := by decide +kernel
theorem dX12_init_720 : decode cX12_init 720 = .ok (.putfield 268, 3) := by decide +kernel
theorem dX12_init_723 : decode cX12_init 723 = .ok (.iconst 0, 1) := by decide +kernel
theorem dX12_init_724 : decode cX12_init 724 = .ok (.istore_n 1, 1) := by decide +kernel
theorem dX12_init_725 : decode cX12_init 725 = .ok (.iload_n 1, 1) := by decide +kernel
theorem dX12_init_726 : decode cX12_init 726 = .ok (.sipush 240, 3) := by decide +kernel
theorem dX12_init_729 : decode cX12_init 729 = .ok (.if_icmp .ge 17, 3) := by decide +kernel
theorem dX12_init_732 : decode cX12_init 732 = .ok (.aload_n 0, 1) := by decide +kernel
theorem dX12_init_733 : decode cX12_init 733 = .ok (.getfield 43, 3) := by decide +kernel
theorem dX12_init_736 : decode cX12_init 736 = .ok (.iload_n 1, 1) := by decide +kernel
theorem dX12_init_737 : decode cX12_init 737 = .ok (.bipush (-2), 2) := by decide +kernel
theorem dX12_init_739 : decode cX12_init 739 = .ok (.iastore, 1) := by decide +kernel
theorem dX12_init_740 : decode cX12_init 740 = .ok (.iinc 1 1, 3) := by decide +kernel
theorem dX12_init_743 : decode cX12_init 743 = .ok (.goto (-18), 3) := by decide +kernel
theorem dX12_init_746 : decode cX12_init 746 = .ok (.iconst 0, 1) := by decide +kernel
theorem dX12_init_747 : decode cX12_init 747 = .ok (.istore_n 1, 1) := by decide +kernel
theorem dX12_init_748 : decode cX12_init 748 = .ok (.iload_n 1, 1) := by decide +kernel
theorem dX12_init_749 : decode cX12_init 749 = .ok (.sipush 400, 3) := by decide +kernel
theorem dX12_init_752 : decode cX12_init 752 = .ok (.if_icmp .ge 16, 3) := by decide +kernel
theorem dX12_init_755 : decode cX12_init 755 = .ok (.aload_n 0, 1) := by decide +kernel
theorem dX12_init_756 : decode cX12_init 756 = .ok (.getfield 46, 3) := by decide +kernel
theorem dX12_init_759 : decode cX12_init 759 = .ok (.iload_n 1, 1) := by decide +kernel
theorem dX12_init_760 : decode cX12_init 760 = .ok (.iconst (-1), 1) := by decide +kernel
theorem dX12_init_761 : decode cX12_init 761 = .ok (.iastore, 1) := by decide +kernel
theorem dX12_init_762 : decode cX12_init 762 = .ok (.iinc 1 1, 3) := by decide +kernel
theorem dX12_init_765 : decode cX12_init 765 = .ok (.goto (-17), 3) := by decide +kernel
theorem dX12_init_768 : decode cX12_init 768 = .ok (.return_, 1) := by decide +kernel
theorem dX12_thrown_0 : decode cX12_thrown 0 = .ok (.aload_n 0, 1) := by decide +kernel
theorem dX12_thrown_1 : decode cX12_thrown 1 = .ok (.getfield 271, 3) := by decide +kernel
theorem dX12_thrown_4 : decode cX12_thrown 4 = .ok (.ireturn, 1) := by decide +kernel
theorem dX12_in_0 : decode cX12_in 0 = .ok (.iload_n 0, 1) := by decide +kernel
theorem dX12_in_1 : decode cX12_in 1 = .ok (.iload_n 1, 1) := by decide +kernel
theorem dX12_in_2 : decode cX12_in 2 = .ok (.if_icmp .lt 12, 3) := by decide +kernel
theorem dX12_in_5 : decode cX12_in 5 = .ok (.iload_n 0, 1) := by decide +kernel
theorem dX12_in_6 : decode cX12_in 6 = .ok (.iload_n 2, 1) := by decide +kernel
theorem dX12_in_7 : decode cX12_in 7 = .ok (.if_icmp .gt 7, 3) := by decide +kernel
theorem dX12_in_10 : decode cX12_in 10 = .ok (.iconst 1, 1) := by decide +kernel
theorem dX12_in_11 : decode cX12_in 11 = .ok (.goto 4, 3) := by decide +kernel
theorem dX12_in_14 : decode cX12_in 14 = .ok (.iconst 0, 1) := by decide +kernel
theorem dX12_in_15 : decode cX12_in 15 = .ok (.ireturn, 1) := by decide +kernel
theorem dX12_goes_0 : decode cX12_goes 0 = .ok (.aload_n 0, 1) := by decide +kernel
theorem dX12_goes_1 : decode cX12_goes 1 = .ok (.iload_n 1, 1) := by decide +kernel
theorem dX12_goes_2 : decode cX12_goes 2 = .ok (.ifCond .ne 7, 3) := by decide +kernel
theorem dX12_goes_5 : decode cX12_goes 5 = .ok (.iconst 1, 1) := by decide +kernel
theorem dX12_goes_6 : decode cX12_goes 6 = .ok (.goto 20, 3) := by decide +kernel
theorem dX12_goes_9 : decode cX12_goes 9 = .ok (.iload_n 2, 1) := by decide +kernel
theorem dX12_goes_10 : decode cX12_goes 10 = .ok (.ifCond .ne 7, 3) := by decide +kernel
theorem dX12_goes_13 : decode cX12_goes 13 = .ok (.iconst 2, 1) := by decide +kernel
theorem dX12_goes_14 : decode cX12_goes 14 = .ok (.goto 12, 3) := by decide +kernel
theorem dX12_goes_17 : decode cX12_goes 17 = .ok (.iload_n 3, 1) := by decide +kernel
theorem dX12_goes_18 : decode cX12_goes 18 = .ok (.ifCond .ne 7, 3) := by decide +kernel
theorem dX12_goes_21 : decode cX12_goes 21 = .ok (.iconst 3, 1) := by decide +kernel
theorem dX12_goes_22 : decode cX12_goes 22 = .ok (.goto 4, 3) := by decide +kernel
theorem dX12_goes_25 : decode cX12_goes 25 = .ok (.iconst 0, 1) := by decide +kernel
theorem dX12_goes_26 : decode cX12_goes 26 = .ok (.putfield 271, 3) := by decide +kernel
theorem dX12_goes_29 : decode cX12_goes 29 = .ok (.aload_n 0, 1) := by decide +kernel
theorem dX12_goes_30 : decode cX12_goes 30 = .ok (.getfield 271, 3) := by decide +kernel
theorem dX12_goes_33 : decode cX12_goes 33 = .ok (.ifCond .ne 7, 3) := by decide +kernel
theorem dX12_goes_36 : decode cX12_goes 36 = .ok (.iconst 1, 1) := by decide +kernel
theorem dX12_goes_37 : decode cX12_goes 37 = .ok (.goto 4, 3) := by decide +kernel
theorem dX12_goes_40 : decode cX12_goes 40 = .ok (.iconst 0, 1) := by decide +kernel
theorem dX12_goes_41 : decode cX12_goes 41 = .ok (.ireturn, 1) := by decide +kernel
theorem dX12_tells_0 : decode cX12_tells 0 = .ok (.aload_n 0, 1) := by decide +kernel
theorem dX12_tells_1 : decode cX12_tells 1 = .ok (.iconst 0, 1) := by decide +kernel
theorem dX12_tells_2 : decode cX12_tells 2 = .ok (.putfield 271, 3) := by decide +kernel
theorem dX12_tells_5 : decode cX12_tells 5 = .ok (.iload_n 1, 1) := by decide +kernel
theorem dX12_tells_6 : decode cX12_tells 6 = .ok (.ireturn, 1) := by decide +kernel
set_option maxRecDepth 20000 in
theorem ggX12_isType_X12_in : GoodIn wsX12_isType wsX12_in := goodIn_r _ [5] rfl (by decide +kernel)
set_option maxRecDepth 20000 in
theorem gX12_isType_X12_in : GoodIn wsX12_isType (va_wsS RX12 278 yX12_in wsX12_in) := goodIn_app (goodIn_of _ (by decide +kernel)) ggX12_isType_X12_in
theorem dX12_isType_0 : decode cX12_isType 0 = .ok (.iload_n 1, 1) := by decide +kernel
theorem dX12_isType_1 : decode cX12_isType 1 = .ok (.iconst 0, 1) := by decide +kernel
theorem dX12_isType_2 : decode cX12_isType 2 = .ok (.aload_n 0, 1) := by decide +kernel
theorem dX12_isType_3 : decode cX12_isType 3 = .ok (.getfield 275, 3) := by decide +kernel
theorem dX12_isType_6 : decode cX12_isType 6 = .ok (.iconst 1, 1) := by decide +kernel
theorem dX12_isType_7 : decode cX12_isType 7 = .ok (.isub, 1) := by decide +kernel
theorem dX12_isType_8 : decode cX12_isType 8 = .ok (.invokestatic 278, 3) := by decide +kernel
theorem dX12_isType_11 : decode cX12_isType 11 = .ok (.ireturn, 1) := by decide +kernel
set_option maxRecDepth 20000 in
theorem ggX12_isExpression_X12_in : GoodIn wsX12_isExpression wsX12_in := goodIn_r _ [5] rfl (by decide +kernel)
set_option maxRecDepth 20000 in
theorem gX12_isExpression_X12_in : GoodIn wsX12_isExpression (va_wsS RX12 278 yX12_in wsX12_in) := goodIn_app (goodIn_of _ (by decide +kernel)) ggX12_isExpression_X12_in
theorem dX12_isExpression_0 : decode cX12_isExpression 0 = .ok (.iload_n 1, 1) := by decide +kernel
theorem dX12_isExpression_1 : decode cX12_isExpression 1 = .ok (.iconst 0, 1) := by decide +kernel
theorem dX12_isExpression_2 : decode cX12_isExpression 2 = .ok (.aload_n 0, 1) := by decide +kernel
theorem dX12_isExpression_3 : decode cX12_isExpression 3 = .ok (.getfield 282, 3) := by decide +kernel
theorem dX12_isExpression_6 : decode cX12_isExpression 6 = .ok (.iconst 1, 1) := by decide +kernel
theorem dX12_isExpression_7 : decode cX12_isExpression 7 = .ok (.isub, 1) := by decide +kernel
theorem dX12_isExpression_8 : decode cX12_isExpression 8 = .ok (.invokestatic 278, 3) := by decide +kernel
theorem dX12_isExpression_11 : decode cX12_isExpression 11 = .ok (.ireturn, 1) := by decide +kernel
set_option maxRecDepth 20000 in
theorem ggX12_isUnit_X12_in : GoodIn wsX12_isUnit wsX12_in := goodIn_r _ [5] rfl (by decide +kernel)
set_option maxRecDepth 20000 in
theorem gX12_isUnit_X12_in : GoodIn wsX12_isUnit (va_wsS RX12 278 yX12_in wsX12_in) := goodIn_app (goodIn_of _ (by decide +kernel)) ggX12_isUnit_X12_in
theorem dX12_isUnit_0 : decode cX12_isUnit 0 = .ok (.iload_n 1, 1) := by decide +kernel
theorem dX12_isUnit_1 : decode cX12_isUnit 1 = .ok (.iconst 0, 1) := by decide +kernel
theorem dX12_isUnit_2 : decode cX12_isUnit 2 = .ok (.aload_n 0, 1) := by decide +kernel
theorem dX12_isUnit_3 : decode cX12_isUnit 3 = .ok (.getfield 285, 3) := by decide +kernel
theorem dX12_isUnit_6 : decode cX12_isUnit 6 = .ok (.iconst 1, 1) := by decide +kernel
theorem dX12_isUnit_7 : decode cX12_isUnit 7 = .ok (.isub, 1) := by decide +kernel
theorem dX12_isUnit_8 : decode cX12_isUnit 8 = .ok (.invokestatic 278, 3) := by decide +kernel
theorem dX12_isUnit_11 : decode cX12_isUnit 11 = .ok (.ireturn, 1) := by decide +kernel
set_option maxRecDepth 20000 in
theorem ggX12_isNode_X12_in : GoodIn wsX12_isNode wsX12_in := goodIn_r _ [5] rfl (by decide +kernel)
set_option maxRecDepth 20000 in
theorem gX12_isNode_X12_in : GoodIn wsX12_isNode (va_wsS RX12 278 yX12_in wsX12_in) := goodIn_app (goodIn_of _ (by decide +kernel)) ggX12_isNode_X12_in
theorem dX12_isNode_0 : decode cX12_isNode 0 = .ok (.iload_n 1, 1) := by decide +kernel
theorem dX12_isNode_1 : decode cX12_isNode 1 = .ok (.iconst 0, 1) := by decide +kernel
theorem dX12_isNode_2 : decode cX12_isNode 2 = .ok (.aload_n 0, 1) := by decide +kernel
theorem dX12_isNode_3 : decode cX12_isNode 3 = .ok (.getfield 288, 3) := by decide +kernel
theorem dX12_isNode_6 : decode cX12_isNode 6 = .ok (.iconst 1, 1) := by decide +kernel
theorem dX12_isNode_7 : decode cX12_isNode 7 = .ok (.isub, 1) := by decide +kernel
theorem dX12_isNode_8 : decode cX12_isNode 8 = .ok (.invokestatic 278, 3) := by decide +kernel
theorem dX12_isNode_11 : decode cX12_isNode 11 = .ok (.ireturn, 1) := by decide +kernel
set_option maxRecDepth 20000 in
theorem ggX12_isName_X12_in : GoodIn wsX12_isName wsX12_in := goodIn_r _ [4] rfl (by decide +kernel)
set_option maxRecDepth 20000 in
theorem gX12_isName_X12_in : GoodIn wsX12_isName (va_wsS RX12 278 yX12_in wsX12_in) := goodIn_app (goodIn_of _ (by decide +kernel)) ggX12_isName_X12_in
theorem dX12_isName_0 : decode cX12_isName 0 = .ok (.iload_n 0, 1) := by decide +kernel
theorem dX12_isName_1 : decode cX12_isName 1 = .ok (.iconst 0, 1) := by decide +kernel
theorem dX12_isName_2 : decode cX12_isName 2 = .ok (.iconst 5, 1) := by decide +kernel
theorem dX12_isName_3 : decode cX12_isName 3 = .ok (.invokestatic 278, 3) := by decide +kernel
theorem dX12_isName_6 : decode cX12_isName 6 = .ok (.ireturn, 1) := by decide +kernel
set_option maxRecDepth 20000 in
theorem ggX12_isValue_X12_in : GoodIn wsX12_isValue wsX12_in := goodIn_r _ [4] rfl (by decide +kernel)
set_option maxRecDepth 20000 in
theorem gX12_isValue_X12_in : GoodIn wsX12_isValue (va_wsS RX12 278 yX12_in wsX12_in) := goodIn_app (goodIn_of _ (by decide +kernel)) ggX12_isValue_X12_in
theorem dX12_isValue_0 : decode cX12_isValue 0 = .ok (.iload_n 0, 1) := by decide +kernel
theorem dX12_isValue_1 : decode cX12_isValue 1 = .ok (.iconst 0, 1) := by decide +kernel
theorem dX12_isValue_2 : decode cX12_isValue 2 = .ok (.bipush 9, 2) := by decide +kernel
theorem dX12_isValue_4 : decode cX12_isValue 4 = .ok (.invokestatic 278, 3) := by decide +kernel
theorem dX12_isValue_7 : decode cX12_isValue 7 = .ok (.ireturn, 1) := by decide +kernel
set_option maxRecDepth 20000 in
theorem ggX12_type_X12_in : GoodIn wsX12_type wsX12_in := goodIn_r _ [10] rfl (by decide +kernel)
set_option maxRecDepth 20000 in
theorem gX12_type_X12_in : GoodIn wsX12_type (va_wsS RX12 278 yX12_in wsX12_in) := goodIn_app (goodIn_of _ (by decide +kernel)) ggX12_type_X12_in
set_option maxRecDepth 20000 in
theorem ggX12_type_X12_isName : GoodIn wsX12_type wsX12_isName := goodIn_r _ [13, 7, 8, 9, 10] rfl (by decide +kernel)
set_option maxRecDepth 20000 in
theorem gX12_type_X12_isName : GoodIn wsX12_type (va_wsS RX12 291 yX12_isName wsX12_isName) := goodIn_app (goodIn_of _ (by decide +kernel)) ggX12_type_X12_isName
set_option maxRecDepth 20000 in
theorem ggX12_type_X12_isType : GoodIn wsX12_type wsX12_isType := goodIn_r _ [17, 2, 7, 8, 9, 10, 23, 24, 25, 26, 27, 28, 29, 30, 31, 32, 33, 34, 35, 36, 37, 38, 39, 40, 41, 42, 43, 44, 45, 46, 47, 48, 49, 50, 51, 52, 53, 54, 55, 56, 57, 58, 59, 60, 61, 62, 63, 64, 65, 66, 67, 68, 69, 70, 71, 72, 73, 74, 75, 76, 77, 78, 79, 80, 81, 82, 83, 84, 85, 86, 87, 88, 89, 90, 91, 92, 93, 94, 95, 96, 97, 98, 99, 100, 101, 102, 103, 104, 105, 106, 107, 108, 109, 110, 111, 112, 113, 114, 115, 116, 117, 118, 119, 120, 121, 122, 123, 124, 125, 126, 127, 128, 129, 130, 131] rfl (by decide +kernel)
set_option maxRecDepth 20000 in
theorem gX12_type_X12_isType : GoodIn wsX12_type (wsV RX12 295 RX12 yX12_isType wsX12_isType) := goodIn_app (goodIn_of _ (by decide +kernel)) ggX12_type_X12_isType
set_option maxRecDepth 20000 in
theorem ggX12_type_X12_goes : GoodIn wsX12_type wsX12_goes := goodIn_r _ [21, 22, 23, 24, 25, 26, 27, 28, 29, 30, 31, 32, 33, 34, 35, 36, 37, 38, 39, 40, 41, 42, 43, 44, 45, 46, 47, 48, 49, 50, 51, 52, 53, 54, 55, 56, 57, 58, 59, 60, 61, 62, 63, 64, 65, 66, 67, 68, 69, 70, 71, 72, 73, 74, 75, 76, 77, 78, 79, 80, 81, 82, 83, 84, 85, 86, 87, 88, 89, 90, 91, 92, 93, 94, 95, 96, 97, 98, 99, 100, 101, 102, 103, 104, 105, 106, 107, 108, 109, 110, 111, 112, 113, 114, 115, 116, 117, 118, 119, 120, 121, 122, 123, 124, 125, 126, 127, 128, 129, 130, 131] rfl (by decide +kernel)
set_option maxRecDepth 20000 in
theorem gX12_type_X12_goes : GoodIn wsX12_type (wsV RX12 298 RX12 yX12_goes wsX12_goes) := goodIn_app (goodIn_of _ (by decide +kernel)) ggX12_type_X12_goes
theorem dX12_type_0 : decode cX12_type 0 = .ok (.iload_n 1, 1) := by decide +kernel
theorem dX12_type_1 : decode cX12_type 1 = .ok (.iconst 0, 1) := by decide +kernel
theorem dX12_type_2 : decode cX12_type 2 = .ok (.iconst 2, 1) := by decide +kernel
theorem dX12_type_3 : decode cX12_type 3 = .ok (.invokestatic 278, 3) := by decide +kernel
theorem dX12_type_6 : decode cX12_type 6 = .ok (.ifCond .eq 19, 3) := by decide +kernel
theorem dX12_type_9 : decode cX12_type 9 = .ok (.iload_n 1, 1) := by decide +kernel
theorem dX12_type_10 : decode cX12_type 10 = .ok (.iconst 2, 1) := by decide +kernel
theorem dX12_type_11 : decode cX12_type 11 = .ok (.if_icmp .ne 10, 3) := by decide +kernel
theorem dX12_type_14 : decode cX12_type 14 = .ok (.iload_n 2, 1) := by decide +kernel
theorem dX12_type_15 : decode cX12_type 15 = .ok (.invokestatic 291, 3) := by decide +kernel
theorem dX12_type_18 : decode cX12_type 18 = .ok (.ifCond .eq 7, 3) := by decide +kernel
theorem dX12_type_21 : decode cX12_type 21 = .ok (.iconst 1, 1) := by decide +kernel
theorem dX12_type_22 : decode cX12_type 22 = .ok (.goto 4, 3) := by decide +kernel
theorem dX12_type_25 : decode cX12_type 25 = .ok (.iconst 0, 1) := by decide +kernel
theorem dX12_type_26 : decode cX12_type 26 = .ok (.istore 4, 2) := by decide +kernel
theorem dX12_type_28 : decode cX12_type 28 = .ok (.iload_n 1, 1) := by decide +kernel
theorem dX12_type_29 : decode cX12_type 29 = .ok (.iconst 1, 1) := by decide +kernel
theorem dX12_type_30 : decode cX12_type 30 = .ok (.if_icmp .ne 19, 3) := by decide +kernel
theorem dX12_type_33 : decode cX12_type 33 = .ok (.aload_n 0, 1) := by decide +kernel
theorem dX12_type_34 : decode cX12_type 34 = .ok (.iload_n 2, 1) := by decide +kernel
theorem dX12_type_35 : decode cX12_type 35 = .ok (.invokevirtual 295, 3) := by decide +kernel
theorem dX12_type_38 : decode cX12_type 38 = .ok (.ifCond .eq 15, 3) := by decide +kernel
theorem dX12_type_41 : decode cX12_type 41 = .ok (.aload_n 0, 1) := by decide +kernel
theorem dX12_type_42 : decode cX12_type 42 = .ok (.iload_n 3, 1) := by decide +kernel
theorem dX12_type_43 : decode cX12_type 43 = .ok (.invokevirtual 295, 3) := by decide +kernel
theorem dX12_type_46 : decode cX12_type 46 = .ok (.ifCond .eq 7, 3) := by decide +kernel
theorem dX12_type_49 : decode cX12_type 49 = .ok (.iconst 1, 1) := by decide +kernel
theorem dX12_type_50 : decode cX12_type 50 = .ok (.goto 4, 3) := by decide +kernel
theorem dX12_type_53 : decode cX12_type 53 = .ok (.iconst 0, 1) := by decide +kernel
theorem dX12_type_54 : decode cX12_type 54 = .ok (.istore 5, 2) := by decide +kernel
theorem dX12_type_56 : decode cX12_type 56 = .ok (.iload 4, 2) := by decide +kernel
theorem dX12_type_58 : decode cX12_type 58 = .ok (.ifCond .eq 31, 3) := by decide +kernel
theorem dX12_type_61 : decode cX12_type 61 = .ok (.iload 5, 2) := by decide +kernel
theorem dX12_type_63 : decode cX12_type 63 = .ok (.ifCond .eq 26, 3) := by decide +kernel
theorem dX12_type_66 : decode cX12_type 66 = .ok (.iload_n 1, 1) := by decide +kernel
theorem dX12_type_67 : decode cX12_type 67 = .ok (.iconst 1, 1) := by decide +kernel
theorem dX12_type_68 : decode cX12_type 68 = .ok (.if_icmp .ne 21, 3) := by decide +kernel
theorem dX12_type_71 : decode cX12_type 71 = .ok (.iconst 1, 1) := by decide +kernel
theorem dX12_type_72 : decode cX12_type 72 = .ok (.aload_n 0, 1) := by decide +kernel
theorem dX12_type_73 : decode cX12_type 73 = .ok (.getfield 19, 3) := by decide +kernel
theorem dX12_type_76 : decode cX12_type 76 = .ok (.iload_n 2, 1) := by decide +kernel
theorem dX12_type_77 : decode cX12_type 77 = .ok (.iaload, 1) := by decide +kernel
theorem dX12_type_78 : decode cX12_type 78 = .ok (.iadd, 1) := by decide +kernel
theorem dX12_type_79 : decode cX12_type 79 = .ok (.aload_n 0, 1) := by decide +kernel
theorem dX12_type_80 : decode cX12_type 80 = .ok (.getfield 19, 3) := by decide +kernel
theorem dX12_type_83 : decode cX12_type 83 = .ok (.iload_n 3, 1) := by decide +kernel
theorem dX12_type_84 : decode cX12_type 84 = .ok (.iaload, 1) := by decide +kernel
theorem dX12_type_85 : decode cX12_type 85 = .ok (.iadd, 1) := by decide +kernel
theorem dX12_type_86 : decode cX12_type 86 = .ok (.goto 4, 3) := by decide +kernel
theorem dX12_type_89 : decode cX12_type 89 = .ok (.iconst 1, 1) := by decide +kernel
theorem dX12_type_90 : decode cX12_type 90 = .ok (.istore 6, 2) := by decide +kernel
theorem dX12_type_92 : decode cX12_type 92 = .ok (.aload_n 0, 1) := by decide +kernel
theorem dX12_type_93 : decode cX12_type 93 = .ok (.iload 4, 2) := by decide +kernel
theorem dX12_type_95 : decode cX12_type 95 = .ok (.iload 5, 2) := by decide +kernel
theorem dX12_type_97 : decode cX12_type 97 = .ok (.aload_n 0, 1) := by decide +kernel
theorem dX12_type_98 : decode cX12_type 98 = .ok (.getfield 275, 3) := by decide +kernel
theorem dX12_type_101 : decode cX12_type 101 = .ok (.bipush 60, 2) := by decide +kernel
theorem dX12_type_103 : decode cX12_type 103 = .ok (.if_icmp .ge 14, 3) := by decide +kernel
theorem dX12_type_106 : decode cX12_type 106 = .ok (.iload 6, 2) := by decide +kernel
theorem dX12_type_108 : decode cX12_type 108 = .ok (.bipush 12, 2) := by decide +kernel
theorem dX12_type_110 : decode cX12_type 110 = .ok (.if_icmp .gt 7, 3) := by decide +kernel
theorem dX12_type_113 : decode cX12_type 113 = .ok (.iconst 1, 1) := by decide +kernel
theorem dX12_type_114 : decode cX12_type 114 = .ok (.goto 4, 3) := by decide +kernel
theorem dX12_type_117 : decode cX12_type 117 = .ok (.iconst 0, 1) := by decide +kernel
theorem dX12_type_118 : decode cX12_type 118 = .ok (.invokevirtual 298, 3) := by decide +kernel
theorem dX12_type_121 : decode cX12_type 121 = .ok (.ifCond .ne 5, 3) := by decide +kernel
theorem dX12_type_124 : decode cX12_type 124 = .ok (.iconst 0, 1) := by decide +kernel
theorem dX12_type_125 : decode cX12_type 125 = .ok (.ireturn, 1) := by decide +kernel
theorem dX12_type_126 : decode cX12_type 126 = .ok (.aload_n 0, 1) := by decide +kernel
theorem dX12_type_127 : decode cX12_type 127 = .ok (.getfield 7, 3) := by decide +kernel
theorem dX12_type_130 : decode cX12_type 130 = .ok (.aload_n 0, 1) := by decide +kernel
theorem dX12_type_131 : decode cX12_type 131 = .ok (.getfield 275, 3) := by decide +kernel
theorem dX12_type_134 : decode cX12_type 134 = .ok (.iload_n 1, 1) := by decide +kernel
theorem dX12_type_135 : decode cX12_type 135 = .ok (.iastore, 1) := by decide +kernel
theorem dX12_type_136 : decode cX12_type 136 = .ok (.aload_n 0, 1) := by decide +kernel
theorem dX12_type_137 : decode cX12_type 137 = .ok (.getfield 13, 3) := by decide +kernel
theorem dX12_type_140 : decode cX12_type 140 = .ok (.aload_n 0, 1) := by decide +kernel
theorem dX12_type_141 : decode cX12_type 141 = .ok (.getfield 275, 3) := by decide +kernel
theorem dX12_type_144 : decode cX12_type 144 = .ok (.iload_n 1, 1) := by decide +kernel
theorem dX12_type_145 : decode cX12_type 145 = .ok (.ifCond .ne 7, 3) := by decide +kernel
theorem dX12_type_148 : decode cX12_type 148 = .ok (.iconst 0, 1) := by decide +kernel
theorem dX12_type_149 : decode cX12_type 149 = .ok (.goto 4, 3) := by decide +kernel
theorem dX12_type_152 : decode cX12_type 152 = .ok (.iload_n 2, 1) := by decide +kernel
theorem dX12_type_153 : decode cX12_type 153 = .ok (.iastore, 1) := by decide +kernel
theorem dX12_type_154 : decode cX12_type 154 = .ok (.aload_n 0, 1) := by decide +kernel
theorem dX12_type_155 : decode cX12_type 155 = .ok (.getfield 16, 3) := by decide +kernel
theorem dX12_type_158 : decode cX12_type 158 = .ok (.aload_n 0, 1) := by decide +kernel
theorem dX12_type_159 : decode cX12_type 159 = .ok (.getfield 275, 3) := by decide +kernel
theorem dX12_type_162 : decode cX12_type 162 = .ok (.iload_n 1, 1) := by decide +kernel
theorem dX12_type_163 : decode cX12_type 163 = .ok (.iconst 1, 1) := by decide +kernel
theorem dX12_type_164 : decode cX12_type 164 = .ok (.if_icmp .ne 7, 3) := by decide +kernel
theorem dX12_type_167 : decode cX12_type 167 = .ok (.iload_n 3, 1) := by decide +kernel
theorem dX12_type_168 : decode cX12_type 168 = .ok (.goto 4, 3) := by decide +kernel
theorem dX12_type_171 : decode cX12_type 171 = .ok (.iconst 0, 1) := by decide +kernel
theorem dX12_type_172 : decode cX12_type 172 = .ok (.iastore, 1) := by decide +kernel
theorem dX12_type_173 : decode cX12_type 173 = .ok (.aload_n 0, 1) := by decide +kernel
theorem dX12_type_174 : decode cX12_type 174 = .ok (.getfield 19, 3) := by decide +kernel
theorem dX12_type_177 : decode cX12_type 177 = .ok (.aload_n 0, 1) := by decide +kernel
theorem dX12_type_178 : decode cX12_type 178 = .ok (.getfield 275, 3) := by decide +kernel
theorem dX12_type_181 : decode cX12_type 181 = .ok (.iload 6, 2) := by decide +kernel
theorem dX12_type_183 : decode cX12_type 183 = .ok (.iastore, 1) := by decide +kernel
theorem dX12_type_184 : decode cX12_type 184 = .ok (.aload_n 0, 1) := by decide +kernel
theorem dX12_type_185 : decode cX12_type 185 = .ok (.getfield 22, 3) := by decide +kernel
theorem dX12_type_188 : decode cX12_type 188 = .ok (.aload_n 0, 1) := by decide +kernel
theorem dX12_type_189 : decode cX12_type 189 = .ok (.getfield 275, 3) := by decide +kernel
theorem dX12_type_192 : decode cX12_type 192 = .ok (.iload_n 1, 1) := by decide +kernel
theorem dX12_type_193 : decode cX12_type 193 = .ok (.iconst 2, 1) := by decide +kernel
theorem dX12_type_194 : decode cX12_type 194 = .ok (.if_icmp .ne 9, 3) := by decide +kernel
theorem dX12_type_197 : decode cX12_type 197 = .ok (.iconst 1, 1) := by decide +kernel
theorem dX12_type_198 : decode cX12_type 198 = .ok (.iload_n 2, 1) := by decide +kernel
theorem dX12_type_199 : decode cX12_type 199 = .ok (.ishl, 1) := by decide +kernel
theorem dX12_type_200 : decode cX12_type 200 = .ok (.goto 25, 3) := by decide +kernel
theorem dX12_type_203 : decode cX12_type 203 = .ok (.iload_n 1, 1) := by decide +kernel
theorem dX12_type_204 : decode cX12_type 204 = .ok (.iconst 1, 1) := by decide +kernel
theorem dX12_type_205 : decode cX12_type 205 = .ok (.if_icmp .ne 19, 3) := by decide +kernel
theorem dX12_type_208 : decode cX12_type 208 = .ok (.aload_n 0, 1) := by decide +kernel
theorem dX12_type_209 : decode cX12_type 209 = .ok (.getfield 22, 3) := by decide +kernel
theorem dX12_type_212 : decode cX12_type 212 = .ok (.iload_n 2, 1) := by decide +kernel
theorem dX12_type_213 : decode cX12_type 213 = .ok (.iaload, 1) := by decide +kernel
theorem dX12_type_214 : decode cX12_type 214 = .ok (.aload_n 0, 1) := by decide +kernel
theorem dX12_type_215 : decode cX12_type 215 = .ok (.getfield 22, 3) := by decide +kernel
theorem dX12_type_218 : decode cX12_type 218 = .ok (.iload_n 3, 1) := by decide +kernel
theorem dX12_type_219 : decode cX12_type 219 = .ok (.iaload, 1) := by decide +kernel
theorem dX12_type_220 : decode cX12_type 220 = .ok (.ior, 1) := by decide +kernel
theorem dX12_type_221 : decode cX12_type 221 = .ok (.goto 4, 3) := by decide +kernel
theorem dX12_type_224 : decode cX12_type 224 = .ok (.iconst 0, 1) := by decide +kernel
theorem dX12_type_225 : decode cX12_type 225 = .ok (.iastore, 1) := by decide +kernel
theorem dX12_type_226 : decode cX12_type 226 = .ok (.aload_n 0, 1) := by decide +kernel
theorem dX12_type_227 : decode cX12_type 227 = .ok (.dup, 1) := by decide +kernel
theorem dX12_type_228 : decode cX12_type 228 = .ok (.getfield 275, 3) := by decide +kernel
theorem dX12_type_231 : decode cX12_type 231 = .ok (.iconst 1, 1) := by decide +kernel
theorem dX12_type_232 : decode cX12_type 232 = .ok (.iadd, 1) := by decide +kernel
theorem dX12_type_233 : decode cX12_type 233 = .ok (.putfield 275, 3) := by decide +kernel
theorem dX12_type_236 : decode cX12_type 236 = .ok (.aload_n 0, 1) := by decide +kernel
theorem dX12_type_237 : decode cX12_type 237 = .ok (.getfield 275, 3) := by decide +kernel
theorem dX12_type_240 : decode cX12_type 240 = .ok (.iconst 1, 1) := by decide +kernel
theorem dX12_type_241 : decode cX12_type 241 = .ok (.isub, 1) := by decide +kernel
theorem dX12_type_242 : decode cX12_type 242 = .ok (.ireturn, 1) := by decide +kernel
theorem dX12_made_0 : decode cX12_made 0 = .ok (.aload_n 0, 1) := by decide +kernel
theorem dX12_made_1 : decode cX12_made 1 = .ok (.getfield 25, 3) := by decide +kernel
theorem dX12_made_4 : decode cX12_made 4 = .ok (.aload_n 0, 1) := by decide +kernel
theorem dX12_made_5 : decode cX12_made 5 = .ok (.getfield 282, 3) := by decide +kernel
theorem dX12_made_8 : decode cX12_made 8 = .ok (.iload_n 1, 1) := by decide +kernel
theorem dX12_made_9 : decode cX12_made 9 = .ok (.iastore, 1) := by decide +kernel
theorem dX12_made_10 : decode cX12_made 10 = .ok (.aload_n 0, 1) := by decide +kernel
theorem dX12_made_11 : decode cX12_made 11 = .ok (.getfield 28, 3) := by decide +kernel
theorem dX12_made_14 : decode cX12_made 14 = .ok (.aload_n 0, 1) := by decide +kernel
theorem dX12_made_15 : decode cX12_made 15 = .ok (.getfield 282, 3) := by decide +kernel
theorem dX12_made_18 : decode cX12_made 18 = .ok (.iload_n 2, 1) := by decide +kernel
theorem dX12_made_19 : decode cX12_made 19 = .ok (.iastore, 1) := by decide +kernel
theorem dX12_made_20 : decode cX12_made 20 = .ok (.aload_n 0, 1) := by decide +kernel
theorem dX12_made_21 : decode cX12_made 21 = .ok (.getfield 31, 3) := by decide +kernel
theorem dX12_made_24 : decode cX12_made 24 = .ok (.aload_n 0, 1) := by decide +kernel
theorem dX12_made_25 : decode cX12_made 25 = .ok (.getfield 282, 3) := by decide +kernel
theorem dX12_made_28 : decode cX12_made 28 = .ok (.iload_n 3, 1) := by decide +kernel
theorem dX12_made_29 : decode cX12_made 29 = .ok (.iastore, 1) := by decide +kernel
theorem dX12_made_30 : decode cX12_made 30 = .ok (.aload_n 0, 1) := by decide +kernel
theorem dX12_made_31 : decode cX12_made 31 = .ok (.getfield 34, 3) := by decide +kernel
theorem dX12_made_34 : decode cX12_made 34 = .ok (.aload_n 0, 1) := by decide +kernel
theorem dX12_made_35 : decode cX12_made 35 = .ok (.getfield 282, 3) := by decide +kernel
theorem dX12_made_38 : decode cX12_made 38 = .ok (.iload 4, 2) := by decide +kernel
theorem dX12_made_40 : decode cX12_made 40 = .ok (.iastore, 1) := by decide +kernel
theorem dX12_made_41 : decode cX12_made 41 = .ok (.aload_n 0, 1) := by decide +kernel
theorem dX12_made_42 : decode cX12_made 42 = .ok (.getfield 37, 3) := by decide +kernel
theorem dX12_made_45 : decode cX12_made 45 = .ok (.aload_n 0, 1) := by decide +kernel
theorem dX12_made_46 : decode cX12_made 46 = .ok (.getfield 282, 3) := by decide +kernel
theorem dX12_made_49 : decode cX12_made 49 = .ok (.iload 5, 2) := by decide +kernel
theorem dX12_made_51 : decode cX12_made 51 = .ok (.iastore, 1) := by decide +kernel
theorem dX12_made_52 : decode cX12_made 52 = .ok (.aload_n 0, 1) := by decide +kernel
theorem dX12_made_53 : decode cX12_made 53 = .ok (.dup, 1) := by decide +kernel
theorem dX12_made_54 : decode cX12_made 54 = .ok (.getfield 282, 3) := by decide +kernel
theorem dX12_made_57 : decode cX12_made 57 = .ok (.iconst 1, 1) := by decide +kernel
theorem dX12_made_58 : decode cX12_made 58 = .ok (.iadd, 1) := by decide +kernel
theorem dX12_made_59 : decode cX12_made 59 = .ok (.putfield 282, 3) := by decide +kernel
theorem dX12_made_62 : decode cX12_made 62 = .ok (.aload_n 0, 1) := by decide +kernel
theorem dX12_made_63 : decode cX12_made 63 = .ok (.getfield 282, 3) := by decide +kernel
theorem dX12_made_66 : decode cX12_made 66 = .ok (.iconst 1, 1) := by decide +kernel
theorem dX12_made_67 : decode cX12_made 67 = .ok (.isub, 1) := by decide +kernel
theorem dX12_made_68 : decode cX12_made 68 = .ok (.ireturn, 1) := by decide +kernel
set_option maxRecDepth 20000 in
theorem ggX12_leaf_X12_isValue : GoodIn wsX12_leaf wsX12_isValue := goodIn_r _ [5, 6, 7, 4, 8] rfl (by decide +kernel)
set_option maxRecDepth 20000 in
theorem gX12_leaf_X12_isValue : GoodIn wsX12_leaf (va_wsS RX12 302 yX12_isValue wsX12_isValue) := goodIn_app (goodIn_of _ (by decide +kernel)) ggX12_leaf_X12_isValue
set_option maxRecDepth 20000 in
theorem ggX12_leaf_X12_goes : GoodIn wsX12_leaf wsX12_goes := goodIn_r _ [12, 13, 23, 24, 25, 26, 27, 28, 29, 30, 31, 32, 33, 34, 35, 36, 37, 38, 39, 40, 41, 42, 43, 44, 45, 46, 47, 48, 49, 50, 51, 52, 53, 54, 55, 56, 57, 58, 59, 60, 61, 62, 63, 64, 65, 66, 67, 68, 69, 70, 71, 72, 73, 74, 75, 76, 77, 78, 79, 80, 81, 82, 83, 84, 85, 86, 87, 88, 89, 90, 91, 92, 93, 94, 95, 96, 97, 98, 99, 100, 101, 102, 103, 104, 105, 106, 107, 108, 109, 110, 111, 112, 113, 114, 115, 116, 117, 118, 119, 120, 121, 122, 123, 124, 125, 126, 127, 128, 129, 130, 131] rfl (by decide +kernel)
set_option maxRecDepth 20000 in
theorem gX12_leaf_X12_goes : GoodIn wsX12_leaf (wsV RX12 298 RX12 yX12_goes wsX12_goes) := goodIn_app (goodIn_of _ (by decide +kernel)) ggX12_leaf_X12_goes
set_option maxRecDepth 20000 in
theorem ggX12_leaf_X12_made : GoodIn wsX12_leaf wsX12_made := goodIn_r _ [17, 18, 1, 19, 20, 21, 22, 23, 24, 25, 26, 27, 28, 29, 30, 31, 32, 33, 34, 35, 36, 37, 38, 39, 40, 41, 42, 43, 44, 45, 46, 47, 48, 49, 50, 51, 52, 53, 54, 55, 56, 57, 58, 59, 60, 61, 62, 63, 64, 65, 66, 67, 68, 69, 70, 71, 72, 73, 74, 75, 76, 77, 78, 79, 80, 81, 82, 83, 84, 85, 86, 87, 88, 89, 90, 91, 92, 93, 94, 95, 96, 97, 98, 99, 100, 101, 102, 103, 104, 105, 106, 107, 108, 109, 110, 111, 112, 113, 114, 115, 116, 117, 118, 119, 120, 121, 122, 123, 124, 125, 126, 127, 128, 129, 130, 131] rfl (by decide +kernel)
set_option maxRecDepth 20000 in
theorem gX12_leaf_X12_made : GoodIn wsX12_leaf (wsV RX12 305 RX12 yX12_made wsX12_made) := goodIn_app (goodIn_of _ (by decide +kernel)) ggX12_leaf_X12_made
theorem dX12_leaf_0 : decode cX12_leaf 0 = .ok (.aload_n 0, 1) := by decide +kernel
theorem dX12_leaf_1 : decode cX12_leaf 1 = .ok (.iload_n 1, 1) := by decide +kernel
theorem dX12_leaf_2 : decode cX12_leaf 2 = .ok (.ifCond .eq 10, 3) := by decide +kernel
theorem dX12_leaf_5 : decode cX12_leaf 5 = .ok (.iload_n 2, 1) := by decide +kernel
theorem dX12_leaf_6 : decode cX12_leaf 6 = .ok (.invokestatic 302, 3) := by decide +kernel
theorem dX12_leaf_9 : decode cX12_leaf 9 = .ok (.ifCond .eq 7, 3) := by decide +kernel
theorem dX12_leaf_12 : decode cX12_leaf 12 = .ok (.iconst 1, 1) := by decide +kernel
theorem dX12_leaf_13 : decode cX12_leaf 13 = .ok (.goto 4, 3) := by decide +kernel
theorem dX12_leaf_16 : decode cX12_leaf 16 = .ok (.iconst 0, 1) := by decide +kernel
theorem dX12_leaf_17 : decode cX12_leaf 17 = .ok (.aload_n 0, 1) := by decide +kernel
theorem dX12_leaf_18 : decode cX12_leaf 18 = .ok (.getfield 282, 3) := by decide +kernel
theorem dX12_leaf_21 : decode cX12_leaf 21 = .ok (.bipush 120, 2) := by decide +kernel
theorem dX12_leaf_23 : decode cX12_leaf 23 = .ok (.if_icmp .ge 7, 3) := by decide +kernel
theorem dX12_leaf_26 : decode cX12_leaf 26 = .ok (.iconst 1, 1) := by decide +kernel
theorem dX12_leaf_27 : decode cX12_leaf 27 = .ok (.goto 4, 3) := by decide +kernel
theorem dX12_leaf_30 : decode cX12_leaf 30 = .ok (.iconst 0, 1) := by decide +kernel
theorem dX12_leaf_31 : decode cX12_leaf 31 = .ok (.iconst 1, 1) := by decide +kernel
theorem dX12_leaf_32 : decode cX12_leaf 32 = .ok (.invokevirtual 298, 3) := by decide +kernel
theorem dX12_leaf_35 : decode cX12_leaf 35 = .ok (.ifCond .eq 23, 3) := by decide +kernel
theorem dX12_leaf_38 : decode cX12_leaf 38 = .ok (.aload_n 0, 1) := by decide +kernel
theorem dX12_leaf_39 : decode cX12_leaf 39 = .ok (.iload_n 1, 1) := by decide +kernel
theorem dX12_leaf_40 : decode cX12_leaf 40 = .ok (.ifCond .eq 7, 3) := by decide +kernel
theorem dX12_leaf_43 : decode cX12_leaf 43 = .ok (.iconst 1, 1) := by decide +kernel
theorem dX12_leaf_44 : decode cX12_leaf 44 = .ok (.goto 4, 3) := by decide +kernel
theorem dX12_leaf_47 : decode cX12_leaf 47 = .ok (.iconst 0, 1) := by decide +kernel
theorem dX12_leaf_48 : decode cX12_leaf 48 = .ok (.iload_n 2, 1) := by decide +kernel
theorem dX12_leaf_49 : decode cX12_leaf 49 = .ok (.iconst 0, 1) := by decide +kernel
theorem dX12_leaf_50 : decode cX12_leaf 50 = .ok (.iconst 0, 1) := by decide +kernel
theorem dX12_leaf_51 : decode cX12_leaf 51 = .ok (.iconst 1, 1) := by decide +kernel
theorem dX12_leaf_52 : decode cX12_leaf 52 = .ok (.invokevirtual 305, 3) := by decide +kernel
theorem dX12_leaf_55 : decode cX12_leaf 55 = .ok (.goto 4, 3) := by decide +kernel
theorem dX12_leaf_58 : decode cX12_leaf 58 = .ok (.iconst 0, 1) := by decide +kernel
theorem dX12_leaf_59 : decode cX12_leaf 59 = .ok (.ireturn, 1) := by decide +kernel
theorem dX12_partsOf_0 : decode cX12_partsOf 0 = .ok (.iload_n 0, 1) := by decide +kernel
theorem dX12_partsOf_1 : decode cX12_partsOf 1 = .ok (.iconst 2, 1) := by decide +kernel
theorem dX12_partsOf_2 : decode cX12_partsOf 2 = .ok (.if_icmp .ge 7, 3) := by decide +kernel
theorem dX12_partsOf_5 : decode cX12_partsOf 5 = .ok (.iconst 0, 1) := by decide +kernel
theorem dX12_partsOf_6 : decode cX12_partsOf 6 = .ok (.goto 28, 3) := by decide +kernel
theorem dX12_partsOf_9 : decode cX12_partsOf 9 = .ok (.iload_n 0, 1) := by decide +kernel
theorem dX12_partsOf_10 : decode cX12_partsOf 10 = .ok (.iconst 4, 1) := by decide +kernel
theorem dX12_partsOf_11 : decode cX12_partsOf 11 = .ok (.if_icmp .eq 8, 3) := by decide +kernel
theorem dX12_partsOf_14 : decode cX12_partsOf 14 = .ok (.iload_n 0, 1) := by decide +kernel
theorem dX12_partsOf_15 : decode cX12_partsOf 15 = .ok (.iconst 5, 1) := by decide +kernel
theorem dX12_partsOf_16 : decode cX12_partsOf 16 = .ok (.if_icmp .ne 7, 3) := by decide +kernel
theorem dX12_partsOf_19 : decode cX12_partsOf 19 = .ok (.iconst 1, 1) := by decide +kernel
theorem dX12_partsOf_20 : decode cX12_partsOf 20 = .ok (.goto 14, 3) := by decide +kernel
theorem dX12_partsOf_23 : decode cX12_partsOf 23 = .ok (.iload_n 0, 1) := by decide +kernel
theorem dX12_partsOf_24 : decode cX12_partsOf 24 = .ok (.bipush 6, 2) := by decide +kernel
theorem dX12_partsOf_26 : decode cX12_partsOf 26 = .ok (.if_icmp .ne 7, 3) := by decide +kernel
theorem dX12_partsOf_29 : decode cX12_partsOf 29 = .ok (.iconst 3, 1) := by decide +kernel
theorem dX12_partsOf_30 : decode cX12_partsOf 30 = .ok (.goto 4, 3) := by decide +kernel
theorem dX12_partsOf_33 : decode cX12_partsOf 33 = .ok (.iconst 2, 1) := by decide +kernel
theorem dX12_partsOf_34 : decode cX12_partsOf 34 = .ok (.ireturn, 1) := by decide +kernel
set_option maxRecDepth 20000 in
theorem ggX12_expression_X12_in : GoodIn wsX12_expression wsX12_in := goodIn_r _ [6] rfl (by decide +kernel)
set_option maxRecDepth 20000 in
theorem gX12_expression_X12_in : GoodIn wsX12_expression (va_wsS RX12 278 yX12_in wsX12_in) := goodIn_app (goodIn_of _ (by decide +kernel)) ggX12_expression_X12_in
set_option maxRecDepth 20000 in
theorem ggX12_expression_X12_partsOf : GoodIn wsX12_expression wsX12_partsOf := goodIn_r _ [9] rfl (by decide +kernel)
set_option maxRecDepth 20000 in
theorem gX12_expression_X12_partsOf : GoodIn wsX12_expression (va_wsS RX12 309 yX12_partsOf wsX12_partsOf) := goodIn_app (goodIn_of _ (by decide +kernel)) ggX12_expression_X12_partsOf
set_option maxRecDepth 20000 in
theorem ggX12_expression_X12_isExpression : GoodIn wsX12_expression wsX12_isExpression := goodIn_r _ [13, 2, 3, 4, 5, 6, 27, 28, 29, 30, 31, 32, 33, 34, 35, 36, 37, 38, 39, 40, 41, 42, 43, 44, 45, 46, 47, 48, 49, 50, 51, 52, 53, 54, 55, 56, 57, 58, 59, 60, 61, 62, 63, 64, 65, 66, 67, 68, 69, 70, 71, 72, 73, 74, 75, 76, 77, 78, 79, 80, 81, 82, 83, 84, 85, 86, 87, 88, 89, 90, 91, 92, 93, 94, 95, 96, 97, 98, 99, 100, 101, 102, 103, 104, 105, 106, 107, 108, 109, 110, 111, 112, 113, 114, 115, 116, 117, 118, 119, 120, 121, 122, 123, 124, 125, 126, 127, 128, 129, 130, 131, 132, 133, 134, 135] rfl (by decide +kernel)
set_option maxRecDepth 20000 in
theorem gX12_expression_X12_isExpression : GoodIn wsX12_expression (wsV RX12 313 RX12 yX12_isExpression wsX12_isExpression) := goodIn_app (goodIn_of _ (by decide +kernel)) ggX12_expression_X12_isExpression
set_option maxRecDepth 20000 in
theorem ggX12_expression_X12_goes : GoodIn wsX12_expression wsX12_goes := goodIn_r _ [17, 18, 27, 28, 29, 30, 31, 32, 33, 34, 35, 36, 37, 38, 39, 40, 41, 42, 43, 44, 45, 46, 47, 48, 49, 50, 51, 52, 53, 54, 55, 56, 57, 58, 59, 60, 61, 62, 63, 64, 65, 66, 67, 68, 69, 70, 71, 72, 73, 74, 75, 76, 77, 78, 79, 80, 81, 82, 83, 84, 85, 86, 87, 88, 89, 90, 91, 92, 93, 94, 95, 96, 97, 98, 99, 100, 101, 102, 103, 104, 105, 106, 107, 108, 109, 110, 111, 112, 113, 114, 115, 116, 117, 118, 119, 120, 121, 122, 123, 124, 125, 126, 127, 128, 129, 130, 131, 132, 133, 134, 135] rfl (by decide +kernel)
set_option maxRecDepth 20000 in
theorem gX12_expression_X12_goes : GoodIn wsX12_expression (wsV RX12 298 RX12 yX12_goes wsX12_goes) := goodIn_app (goodIn_of _ (by decide +kernel)) ggX12_expression_X12_goes
set_option maxRecDepth 20000 in
theorem ggX12_expression_X12_made : GoodIn wsX12_expression wsX12_made := goodIn_r _ [22, 23, 2, 24, 25, 26, 1, 27, 28, 29, 30, 31, 32, 33, 34, 35, 36, 37, 38, 39, 40, 41, 42, 43, 44, 45, 46, 47, 48, 49, 50, 51, 52, 53, 54, 55, 56, 57, 58, 59, 60, 61, 62, 63, 64, 65, 66, 67, 68, 69, 70, 71, 72, 73, 74, 75, 76, 77, 78, 79, 80, 81, 82, 83, 84, 85, 86, 87, 88, 89, 90, 91, 92, 93, 94, 95, 96, 97, 98, 99, 100, 101, 102, 103, 104, 105, 106, 107, 108, 109, 110, 111, 112, 113, 114, 115, 116, 117, 118, 119, 120, 121, 122, 123, 124, 125, 126, 127, 128, 129, 130, 131, 132, 133, 134, 135] rfl (by decide +kernel)
set_option maxRecDepth 20000 in
theorem gX12_expression_X12_made : GoodIn wsX12_expression (wsV RX12 305 RX12 yX12_made wsX12_made) := goodIn_app (goodIn_of _ (by decide +kernel)) ggX12_expression_X12_made
theorem dX12_expression_0 : decode cX12_expression 0 = .ok (.iload_n 1, 1) := by decide +kernel
theorem dX12_expression_1 : decode cX12_expression 1 = .ok (.iconst 0, 1) := by decide +kernel
theorem dX12_expression_2 : decode cX12_expression 2 = .ok (.iconst 4, 1) := by decide +kernel
theorem dX12_expression_3 : decode cX12_expression 3 = .ok (.invokestatic 278, 3) := by decide +kernel
theorem dX12_expression_6 : decode cX12_expression 6 = .ok (.istore 5, 2) := by decide +kernel
theorem dX12_expression_8 : decode cX12_expression 8 = .ok (.iload 5, 2) := by decide +kernel
theorem dX12_expression_10 : decode cX12_expression 10 = .ok (.ifCond .eq 12, 3) := by decide +kernel
theorem dX12_expression_13 : decode cX12_expression 13 = .ok (.iload_n 1, 1) := by decide +kernel
theorem dX12_expression_14 : decode cX12_expression 14 = .ok (.iconst 2, 1) := by decide +kernel
theorem dX12_expression_15 : decode cX12_expression 15 = .ok (.iadd, 1) := by decide +kernel
theorem dX12_expression_16 : decode cX12_expression 16 = .ok (.invokestatic 309, 3) := by decide +kernel
theorem dX12_expression_19 : decode cX12_expression 19 = .ok (.goto 4, 3) := by decide +kernel
theorem dX12_expression_22 : decode cX12_expression 22 = .ok (.iconst 0, 1) := by decide +kernel
theorem dX12_expression_23 : decode cX12_expression 23 = .ok (.istore 6, 2) := by decide +kernel
theorem dX12_expression_25 : decode cX12_expression 25 = .ok (.iload 6, 2) := by decide +kernel
theorem dX12_expression_27 : decode cX12_expression 27 = .ok (.iconst 1, 1) := by decide +kernel
theorem dX12_expression_28 : decode cX12_expression 28 = .ok (.if_icmp .lt 11, 3) := by decide +kernel
theorem dX12_expression_31 : decode cX12_expression 31 = .ok (.aload_n 0, 1) := by decide +kernel
theorem dX12_expression_32 : decode cX12_expression 32 = .ok (.iload_n 2, 1) := by decide +kernel
theorem dX12_expression_33 : decode cX12_expression 33 = .ok (.invokevirtual 313, 3) := by decide +kernel
theorem dX12_expression_36 : decode cX12_expression 36 = .ok (.ifCond .eq 36, 3) := by decide +kernel
theorem dX12_expression_39 : decode cX12_expression 39 = .ok (.iload 6, 2) := by decide +kernel
theorem dX12_expression_41 : decode cX12_expression 41 = .ok (.iconst 2, 1) := by decide +kernel
theorem dX12_expression_42 : decode cX12_expression 42 = .ok (.if_icmp .lt 11, 3) := by decide +kernel
theorem dX12_expression_45 : decode cX12_expression 45 = .ok (.aload_n 0, 1) := by decide +kernel
theorem dX12_expression_46 : decode cX12_expression 46 = .ok (.iload_n 3, 1) := by decide +kernel
theorem dX12_expression_47 : decode cX12_expression 47 = .ok (.invokevirtual 313, 3) := by decide +kernel
theorem dX12_expression_50 : decode cX12_expression 50 = .ok (.ifCond .eq 22, 3) := by decide +kernel
theorem dX12_expression_53 : decode cX12_expression 53 = .ok (.iload 6, 2) := by decide +kernel
theorem dX12_expression_55 : decode cX12_expression 55 = .ok (.iconst 3, 1) := by decide +kernel
theorem dX12_expression_56 : decode cX12_expression 56 = .ok (.if_icmp .lt 12, 3) := by decide +kernel
theorem dX12_expression_59 : decode cX12_expression 59 = .ok (.aload_n 0, 1) := by decide +kernel
theorem dX12_expression_60 : decode cX12_expression 60 = .ok (.iload 4, 2) := by decide +kernel
theorem dX12_expression_62 : decode cX12_expression 62 = .ok (.invokevirtual 313, 3) := by decide +kernel
theorem dX12_expression_65 : decode cX12_expression 65 = .ok (.ifCond .eq 7, 3) := by decide +kernel
theorem dX12_expression_68 : decode cX12_expression 68 = .ok (.iconst 1, 1) := by decide +kernel
theorem dX12_expression_69 : decode cX12_expression 69 = .ok (.goto 4, 3) := by decide +kernel
theorem dX12_expression_72 : decode cX12_expression 72 = .ok (.iconst 0, 1) := by decide +kernel
theorem dX12_expression_73 : decode cX12_expression 73 = .ok (.istore 7, 2) := by decide +kernel
theorem dX12_expression_75 : decode cX12_expression 75 = .ok (.iconst 1, 1) := by decide +kernel
theorem dX12_expression_76 : decode cX12_expression 76 = .ok (.istore 8, 2) := by decide +kernel
theorem dX12_expression_78 : decode cX12_expression 78 = .ok (.iload 5, 2) := by decide +kernel
theorem dX12_expression_80 : decode cX12_expression 80 = .ok (.ifCond .eq 54, 3) := by decide +kernel
theorem dX12_expression_83 : decode cX12_expression 83 = .ok (.iload 7, 2) := by decide +kernel
theorem dX12_expression_85 : decode cX12_expression 85 = .ok (.ifCond .eq 49, 3) := by decide +kernel
theorem dX12_expression_88 : decode cX12_expression 88 = .ok (.iload 8, 2) := by decide +kernel
theorem dX12_expression_90 : decode cX12_expression 90 = .ok (.aload_n 0, 1) := by decide +kernel
theorem dX12_expression_91 : decode cX12_expression 91 = .ok (.getfield 37, 3) := by decide +kernel
theorem dX12_expression_94 : decode cX12_expression 94 = .ok (.iload_n 2, 1) := by decide +kernel
theorem dX12_expression_95 : decode cX12_expression 95 = .ok (.iaload, 1) := by decide +kernel
theorem dX12_expression_96 : decode cX12_expression 96 = .ok (.iload 6, 2) := by decide +kernel
theorem dX12_expression_98 : decode cX12_expression 98 = .ok (.iconst 1, 1) := by decide +kernel
theorem dX12_expression_99 : decode cX12_expression 99 = .ok (.if_icmp .le 12, 3) := by decide +kernel
theorem dX12_expression_102 : decode cX12_expression 102 = .ok (.aload_n 0, 1) := by decide +kernel
theorem dX12_expression_103 : decode cX12_expression 103 = .ok (.getfield 37, 3) := by decide +kernel
theorem dX12_expression_106 : decode cX12_expression 106 = .ok (.iload_n 3, 1) := by decide +kernel
theorem dX12_expression_107 : decode cX12_expression 107 = .ok (.iaload, 1) := by decide +kernel
theorem dX12_expression_108 : decode cX12_expression 108 = .ok (.goto 4, 3) := by decide +kernel
theorem dX12_expression_111 : decode cX12_expression 111 = .ok (.iconst 0, 1) := by decide +kernel
theorem dX12_expression_112 : decode cX12_expression 112 = .ok (.iadd, 1) := by decide +kernel
theorem dX12_expression_113 : decode cX12_expression 113 = .ok (.iload 6, 2) := by decide +kernel
theorem dX12_expression_115 : decode cX12_expression 115 = .ok (.iconst 2, 1) := by decide +kernel
theorem dX12_expression_116 : decode cX12_expression 116 = .ok (.if_icmp .le 13, 3) := by decide +kernel
theorem dX12_expression_119 : decode cX12_expression 119 = .ok (.aload_n 0, 1) := by decide +kernel
theorem dX12_expression_120 : decode cX12_expression 120 = .ok (.getfield 37, 3) := by decide +kernel
theorem dX12_expression_123 : decode cX12_expression 123 = .ok (.iload 4, 2) := by decide +kernel
theorem dX12_expression_125 : decode cX12_expression 125 = .ok (.iaload, 1) := by decide +kernel
theorem dX12_expression_126 : decode cX12_expression 126 = .ok (.goto 4, 3) := by decide +kernel
theorem dX12_expression_129 : decode cX12_expression 129 = .ok (.iconst 0, 1) := by decide +kernel
theorem dX12_expression_130 : decode cX12_expression 130 = .ok (.iadd, 1) := by decide +kernel
theorem dX12_expression_131 : decode cX12_expression 131 = .ok (.iadd, 1) := by decide +kernel
theorem dX12_expression_132 : decode cX12_expression 132 = .ok (.istore 8, 2) := by decide +kernel
theorem dX12_expression_134 : decode cX12_expression 134 = .ok (.aload_n 0, 1) := by decide +kernel
theorem dX12_expression_135 : decode cX12_expression 135 = .ok (.iload 5, 2) := by decide +kernel
theorem dX12_expression_137 : decode cX12_expression 137 = .ok (.iload 7, 2) := by decide +kernel
theorem dX12_expression_139 : decode cX12_expression 139 = .ok (.aload_n 0, 1) := by decide +kernel
theorem dX12_expression_140 : decode cX12_expression 140 = .ok (.getfield 282, 3) := by decide +kernel
theorem dX12_expression_143 : decode cX12_expression 143 = .ok (.bipush 120, 2) := by decide +kernel
theorem dX12_expression_145 : decode cX12_expression 145 = .ok (.if_icmp .ge 14, 3) := by decide +kernel
theorem dX12_expression_148 : decode cX12_expression 148 = .ok (.iload 8, 2) := by decide +kernel
theorem dX12_expression_150 : decode cX12_expression 150 = .ok (.bipush 12, 2) := by decide +kernel
theorem dX12_expression_152 : decode cX12_expression 152 = .ok (.if_icmp .gt 7, 3) := by decide +kernel
theorem dX12_expression_155 : decode cX12_expression 155 = .ok (.iconst 1, 1) := by decide +kernel
theorem dX12_expression_156 : decode cX12_expression 156 = .ok (.goto 4, 3) := by decide +kernel
theorem dX12_expression_159 : decode cX12_expression 159 = .ok (.iconst 0, 1) := by decide +kernel
theorem dX12_expression_160 : decode cX12_expression 160 = .ok (.invokevirtual 298, 3) := by decide +kernel
theorem dX12_expression_163 : decode cX12_expression 163 = .ok (.ifCond .ne 5, 3) := by decide +kernel
theorem dX12_expression_166 : decode cX12_expression 166 = .ok (.iconst 0, 1) := by decide +kernel
theorem dX12_expression_167 : decode cX12_expression 167 = .ok (.ireturn, 1) := by decide +kernel
theorem dX12_expression_168 : decode cX12_expression 168 = .ok (.aload_n 0, 1) := by decide +kernel
theorem dX12_expression_169 : decode cX12_expression 169 = .ok (.iload_n 1, 1) := by decide +kernel
theorem dX12_expression_170 : decode cX12_expression 170 = .ok (.iconst 2, 1) := by decide +kernel
theorem dX12_expression_171 : decode cX12_expression 171 = .ok (.iadd, 1) := by decide +kernel
theorem dX12_expression_172 : decode cX12_expression 172 = .ok (.iload_n 2, 1) := by decide +kernel
theorem dX12_expression_173 : decode cX12_expression 173 = .ok (.iload 6, 2) := by decide +kernel
theorem dX12_expression_175 : decode cX12_expression 175 = .ok (.iconst 1, 1) := by decide +kernel
theorem dX12_expression_176 : decode cX12_expression 176 = .ok (.if_icmp .le 7, 3) := by decide +kernel
theorem dX12_expression_179 : decode cX12_expression 179 = .ok (.iload_n 3, 1) := by decide +kernel
theorem dX12_expression_180 : decode cX12_expression 180 = .ok (.goto 4, 3) := by decide +kernel
theorem dX12_expression_183 : decode cX12_expression 183 = .ok (.iconst 0, 1) := by decide +kernel
theorem dX12_expression_184 : decode cX12_expression 184 = .ok (.iload 6, 2) := by decide +kernel
theorem dX12_expression_186 : decode cX12_expression 186 = .ok (.iconst 2, 1) := by decide +kernel
theorem dX12_expression_187 : decode cX12_expression 187 = .ok (.if_icmp .le 8, 3) := by decide +kernel
theorem dX12_expression_190 : decode cX12_expression 190 = .ok (.iload 4, 2) := by decide +kernel
theorem dX12_expression_192 : decode cX12_expression 192 = .ok (.goto 4, 3) := by decide +kernel
theorem dX12_expression_195 : decode cX12_expression 195 = .ok (.iconst 0, 1) := by decide +kernel
theorem dX12_expression_196 : decode cX12_expression 196 = .ok (.iload 8, 2) := by decide +kernel
theorem dX12_expression_198 : decode cX12_expression 198 = .ok (.invokevirtual 305, 3) := by decide +kernel
theorem dX12_expression_201 : decode cX12_expression 201 = .ok (.ireturn, 1) := by decide +kernel
set_option maxRecDepth 20000 in
theorem ggX12_unit_X12_goes : GoodIn wsX12_unit wsX12_goes := goodIn_r _ [7, 8, 9, 10, 11, 12, 13, 14, 15, 16, 17, 18, 19, 20, 21, 22, 23, 24, 25, 26, 27, 28, 29, 30, 31, 32, 33, 34, 35, 36, 37, 38, 39, 40, 41, 42, 43, 44, 45, 46, 47, 48, 49, 50, 51, 52, 53, 54, 55, 56, 57, 58, 59, 60, 61, 62, 63, 64, 65, 66, 67, 68, 69, 70, 71, 72, 73, 74, 75, 76, 77, 78, 79, 80, 81, 82, 83, 84, 85, 86, 87, 88, 89, 90, 91, 92, 93, 94, 95, 96, 97, 98, 99, 100, 101, 102, 103, 104, 105, 106, 107, 108, 109, 110, 111, 112, 113, 114, 115, 116, 117] rfl (by decide +kernel)
set_option maxRecDepth 20000 in
theorem gX12_unit_X12_goes : GoodIn wsX12_unit (wsV RX12 298 RX12 yX12_goes wsX12_goes) := goodIn_app (goodIn_of _ (by decide +kernel)) ggX12_unit_X12_goes
theorem dX12_unit_0 : decode cX12_unit 0 = .ok (.aload_n 0, 1) := by decide +kernel
theorem dX12_unit_1 : decode cX12_unit 1 = .ok (.aload_n 0, 1) := by decide +kernel
theorem dX12_unit_2 : decode cX12_unit 2 = .ok (.getfield 285, 3) := by decide +kernel
theorem dX12_unit_5 : decode cX12_unit 5 = .ok (.bipush 8, 2) := by decide +kernel
theorem dX12_unit_7 : decode cX12_unit 7 = .ok (.if_icmp .ge 7, 3) := by decide +kernel
theorem dX12_unit_10 : decode cX12_unit 10 = .ok (.iconst 1, 1) := by decide +kernel
theorem dX12_unit_11 : decode cX12_unit 11 = .ok (.goto 4, 3) := by decide +kernel
theorem dX12_unit_14 : decode cX12_unit 14 = .ok (.iconst 0, 1) := by decide +kernel
theorem dX12_unit_15 : decode cX12_unit 15 = .ok (.iconst 1, 1) := by decide +kernel
theorem dX12_unit_16 : decode cX12_unit 16 = .ok (.iconst 1, 1) := by decide +kernel
theorem dX12_unit_17 : decode cX12_unit 17 = .ok (.invokevirtual 298, 3) := by decide +kernel
theorem dX12_unit_20 : decode cX12_unit 20 = .ok (.ifCond .ne 5, 3) := by decide +kernel
theorem dX12_unit_23 : decode cX12_unit 23 = .ok (.iconst 0, 1) := by decide +kernel
theorem dX12_unit_24 : decode cX12_unit 24 = .ok (.ireturn, 1) := by decide +kernel
theorem dX12_unit_25 : decode cX12_unit 25 = .ok (.aload_n 0, 1) := by decide +kernel
theorem dX12_unit_26 : decode cX12_unit 26 = .ok (.getfield 40, 3) := by decide +kernel
theorem dX12_unit_29 : decode cX12_unit 29 = .ok (.aload_n 0, 1) := by decide +kernel
theorem dX12_unit_30 : decode cX12_unit 30 = .ok (.getfield 285, 3) := by decide +kernel
theorem dX12_unit_33 : decode cX12_unit 33 = .ok (.iconst 1, 1) := by decide +kernel
theorem dX12_unit_34 : decode cX12_unit 34 = .ok (.iastore, 1) := by decide +kernel
theorem dX12_unit_35 : decode cX12_unit 35 = .ok (.aload_n 0, 1) := by decide +kernel
theorem dX12_unit_36 : decode cX12_unit 36 = .ok (.dup, 1) := by decide +kernel
theorem dX12_unit_37 : decode cX12_unit 37 = .ok (.getfield 285, 3) := by decide +kernel
theorem dX12_unit_40 : decode cX12_unit 40 = .ok (.iconst 1, 1) := by decide +kernel
theorem dX12_unit_41 : decode cX12_unit 41 = .ok (.iadd, 1) := by decide +kernel
theorem dX12_unit_42 : decode cX12_unit 42 = .ok (.putfield 285, 3) := by decide +kernel
theorem dX12_unit_45 : decode cX12_unit 45 = .ok (.aload_n 0, 1) := by decide +kernel
theorem dX12_unit_46 : decode cX12_unit 46 = .ok (.getfield 285, 3) := by decide +kernel
theorem dX12_unit_49 : decode cX12_unit 49 = .ok (.iconst 1, 1) := by decide +kernel
theorem dX12_unit_50 : decode cX12_unit 50 = .ok (.isub, 1) := by decide +kernel
theorem dX12_unit_51 : decode cX12_unit 51 = .ok (.ireturn, 1) := by decide +kernel
set_option maxRecDepth 20000 in
theorem ggX12_version_X12_isUnit : GoodIn wsX12_version wsX12_isUnit := goodIn_r _ [10, 11, 12, 13, 9, 14, 27, 28, 29, 30, 31, 32, 33, 34, 35, 36, 37, 38, 39, 40, 41, 42, 43, 44, 45, 46, 47, 48, 49, 50, 51, 52, 53, 54, 55, 56, 57, 58, 59, 60, 61, 62, 63, 64, 65, 66, 67, 68, 69, 70, 71, 72, 73, 74, 75, 76, 77, 78, 79, 80, 81, 82, 83, 84, 85, 86, 87, 88, 89, 90, 91, 92, 93, 94, 95, 96, 97, 98, 99, 100, 101, 102, 103, 104, 105, 106, 107, 108, 109, 110, 111, 112, 113, 114, 115, 116, 117, 118, 119, 120, 121, 122, 123, 124, 125, 126, 127, 128, 129, 130, 131, 132, 133, 134, 135] rfl (by decide +kernel)
set_option maxRecDepth 20000 in
theorem gX12_version_X12_isUnit : GoodIn wsX12_version (wsV RX12 320 RX12 yX12_isUnit wsX12_isUnit) := goodIn_app (goodIn_of _ (by decide +kernel)) ggX12_version_X12_isUnit
set_option maxRecDepth 20000 in
theorem ggX12_version_X12_goes : GoodIn wsX12_version wsX12_goes := goodIn_r _ [18, 19, 27, 28, 29, 30, 31, 32, 33, 34, 35, 36, 37, 38, 39, 40, 41, 42, 43, 44, 45, 46, 47, 48, 49, 50, 51, 52, 53, 54, 55, 56, 57, 58, 59, 60, 61, 62, 63, 64, 65, 66, 67, 68, 69, 70, 71, 72, 73, 74, 75, 76, 77, 78, 79, 80, 81, 82, 83, 84, 85, 86, 87, 88, 89, 90, 91, 92, 93, 94, 95, 96, 97, 98, 99, 100, 101, 102, 103, 104, 105, 106, 107, 108, 109, 110, 111, 112, 113, 114, 115, 116, 117, 118, 119, 120, 121, 122, 123, 124, 125, 126, 127, 128, 129, 130, 131, 132, 133, 134, 135] rfl (by decide +kernel)
set_option maxRecDepth 20000 in
theorem gX12_version_X12_goes : GoodIn wsX12_version (wsV RX12 298 RX12 yX12_goes wsX12_goes) := goodIn_app (goodIn_of _ (by decide +kernel)) ggX12_version_X12_goes
theorem dX12_version_0 : decode cX12_version 0 = .ok (.aload_n 0, 1) := by decide +kernel
theorem dX12_version_1 : decode cX12_version 1 = .ok (.iload_n 1, 1) := by decide +kernel
theorem dX12_version_2 : decode cX12_version 2 = .ok (.invokevirtual 320, 3) := by decide +kernel
theorem dX12_version_5 : decode cX12_version 5 = .ok (.istore_n 2, 1) := by decide +kernel
theorem dX12_version_6 : decode cX12_version 6 = .ok (.aload_n 0, 1) := by decide +kernel
theorem dX12_version_7 : decode cX12_version 7 = .ok (.iload_n 2, 1) := by decide +kernel
theorem dX12_version_8 : decode cX12_version 8 = .ok (.iload_n 2, 1) := by decide +kernel
theorem dX12_version_9 : decode cX12_version 9 = .ok (.ifCond .eq 17, 3) := by decide +kernel
theorem dX12_version_12 : decode cX12_version 12 = .ok (.aload_n 0, 1) := by decide +kernel
theorem dX12_version_13 : decode cX12_version 13 = .ok (.getfield 40, 3) := by decide +kernel
theorem dX12_version_16 : decode cX12_version 16 = .ok (.iload_n 1, 1) := by decide +kernel
theorem dX12_version_17 : decode cX12_version 17 = .ok (.iaload, 1) := by decide +kernel
theorem dX12_version_18 : decode cX12_version 18 = .ok (.iconst 5, 1) := by decide +kernel
theorem dX12_version_19 : decode cX12_version 19 = .ok (.if_icmp .ge 7, 3) := by decide +kernel
theorem dX12_version_22 : decode cX12_version 22 = .ok (.iconst 1, 1) := by decide +kernel
theorem dX12_version_23 : decode cX12_version 23 = .ok (.goto 4, 3) := by decide +kernel
theorem dX12_version_26 : decode cX12_version 26 = .ok (.iconst 0, 1) := by decide +kernel
theorem dX12_version_27 : decode cX12_version 27 = .ok (.iconst 1, 1) := by decide +kernel
theorem dX12_version_28 : decode cX12_version 28 = .ok (.invokevirtual 298, 3) := by decide +kernel
theorem dX12_version_31 : decode cX12_version 31 = .ok (.ifCond .ne 5, 3) := by decide +kernel
theorem dX12_version_34 : decode cX12_version 34 = .ok (.iconst 0, 1) := by decide +kernel
theorem dX12_version_35 : decode cX12_version 35 = .ok (.ireturn, 1) := by decide +kernel
theorem dX12_version_36 : decode cX12_version 36 = .ok (.aload_n 0, 1) := by decide +kernel
theorem dX12_version_37 : decode cX12_version 37 = .ok (.iload_n 1, 1) := by decide +kernel
theorem dX12_version_38 : decode cX12_version 38 = .ok (.invokevirtual 323, 3) := by decide +kernel

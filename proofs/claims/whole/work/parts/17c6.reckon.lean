/-! The reckoning, counts 40960 on. -/
set_option maxRecDepth 100000 in
theorem fl_b640 : n_all n_ok 6 40960 = true := by decide +kernel
set_option maxRecDepth 100000 in
theorem fl_b641 : n_all n_ok 6 41024 = true := by decide +kernel
set_option maxRecDepth 100000 in
theorem fl_b642 : n_all n_ok 6 41088 = true := by decide +kernel
set_option maxRecDepth 100000 in
theorem fl_b643 : n_all n_ok 6 41152 = true := by decide +kernel
set_option maxRecDepth 100000 in
theorem fl_b644 : n_all n_ok 6 41216 = true := by decide +kernel
set_option maxRecDepth 100000 in
theorem fl_b645 : n_all n_ok 6 41280 = true := by decide +kernel
set_option maxRecDepth 100000 in
theorem fl_b646 : n_all n_ok 6 41344 = true := by decide +kernel
set_option maxRecDepth 100000 in
theorem fl_b647 : n_all n_ok 6 41408 = true := by decide +kernel
set_option maxRecDepth 100000 in
theorem fl_b648 : n_all n_ok 6 41472 = true := by decide +kernel
set_option maxRecDepth 100000 in
theorem fl_b649 : n_all n_ok 6 41536 = true := by decide +kernel
set_option maxRecDepth 100000 in
theorem fl_b650 : n_all n_ok 6 41600 = true := by decide +kernel
set_option maxRecDepth 100000 in
theorem fl_b651 : n_all n_ok 6 41664 = true := by decide +kernel
set_option maxRecDepth 100000 in
theorem fl_b652 : n_all n_ok 6 41728 = true := by decide +kernel
set_option maxRecDepth 100000 in
theorem fl_b653 : n_all n_ok 6 41792 = true := by decide +kernel
set_option maxRecDepth 100000 in
theorem fl_b654 : n_all n_ok 6 41856 = true := by decide +kernel
set_option maxRecDepth 100000 in
theorem fl_b655 : n_all n_ok 6 41920 = true := by decide +kernel
set_option maxRecDepth 100000 in
theorem fl_b656 : n_all n_ok 6 41984 = true := by decide +kernel
set_option maxRecDepth 100000 in
theorem fl_b657 : n_all n_ok 6 42048 = true := by decide +kernel
set_option maxRecDepth 100000 in
theorem fl_b658 : n_all n_ok 6 42112 = true := by decide +kernel
set_option maxRecDepth 100000 in
theorem fl_b659 : n_all n_ok 6 42176 = true := by decide +kernel
set_option maxRecDepth 100000 in
theorem fl_b660 : n_all n_ok 6 42240 = true := by decide +kernel
set_option maxRecDepth 100000 in
theorem fl_b661 : n_all n_ok 6 42304 = true := by decide +kernel
set_option maxRecDepth 100000 in
theorem fl_b662 : n_all n_ok 6 42368 = true := by decide +kernel
set_option maxRecDepth 100000 in
theorem fl_b663 : n_all n_ok 6 42432 = true := by decide +kernel
set_option maxRecDepth 100000 in
theorem fl_b664 : n_all n_ok 6 42496 = true := by decide +kernel
set_option maxRecDepth 100000 in
theorem fl_b665 : n_all n_ok 6 42560 = true := by decide +kernel
set_option maxRecDepth 100000 in
theorem fl_b666 : n_all n_ok 6 42624 = true := by decide +kernel
set_option maxRecDepth 100000 in
theorem fl_b667 : n_all n_ok 6 42688 = true := by decide +kernel
set_option maxRecDepth 100000 in
theorem fl_b668 : n_all n_ok 6 42752 = true := by decide +kernel
set_option maxRecDepth 100000 in
theorem fl_b669 : n_all n_ok 6 42816 = true := by decide +kernel
set_option maxRecDepth 100000 in
theorem fl_b670 : n_all n_ok 6 42880 = true := by decide +kernel
set_option maxRecDepth 100000 in
theorem fl_b671 : n_all n_ok 6 42944 = true := by decide +kernel
set_option maxRecDepth 100000 in
theorem fl_b672 : n_all n_ok 6 43008 = true := by decide +kernel
set_option maxRecDepth 100000 in
theorem fl_b673 : n_all n_ok 6 43072 = true := by decide +kernel
set_option maxRecDepth 100000 in
theorem fl_b674 : n_all n_ok 6 43136 = true := by decide +kernel
set_option maxRecDepth 100000 in
theorem fl_b675 : n_all n_ok 6 43200 = true := by decide +kernel
set_option maxRecDepth 100000 in
theorem fl_b676 : n_all n_ok 6 43264 = true := by decide +kernel
set_option maxRecDepth 100000 in
theorem fl_b677 : n_all n_ok 6 43328 = true := by decide +kernel
set_option maxRecDepth 100000 in
theorem fl_b678 : n_all n_ok 6 43392 = true := by decide +kernel
set_option maxRecDepth 100000 in
theorem fl_b679 : n_all n_ok 6 43456 = true := by decide +kernel
set_option maxRecDepth 100000 in
theorem fl_b680 : n_all n_ok 6 43520 = true := by decide +kernel
set_option maxRecDepth 100000 in
theorem fl_b681 : n_all n_ok 6 43584 = true := by decide +kernel
set_option maxRecDepth 100000 in
theorem fl_b682 : n_all n_ok 6 43648 = true := by decide +kernel
set_option maxRecDepth 100000 in
theorem fl_b683 : n_all n_ok 6 43712 = true := by decide +kernel
set_option maxRecDepth 100000 in
theorem fl_b684 : n_all n_ok 6 43776 = true := by decide +kernel
set_option maxRecDepth 100000 in
theorem fl_b685 : n_all n_ok 6 43840 = true := by decide +kernel
set_option maxRecDepth 100000 in
theorem fl_b686 : n_all n_ok 6 43904 = true := by decide +kernel
set_option maxRecDepth 100000 in
theorem fl_b687 : n_all n_ok 6 43968 = true := by decide +kernel
set_option maxRecDepth 100000 in
theorem fl_b688 : n_all n_ok 6 44032 = true := by decide +kernel
set_option maxRecDepth 100000 in
theorem fl_b689 : n_all n_ok 6 44096 = true := by decide +kernel
set_option maxRecDepth 100000 in
theorem fl_b690 : n_all n_ok 6 44160 = true := by decide +kernel
set_option maxRecDepth 100000 in
theorem fl_b691 : n_all n_ok 6 44224 = true := by decide +kernel
set_option maxRecDepth 100000 in
theorem fl_b692 : n_all n_ok 6 44288 = true := by decide +kernel
set_option maxRecDepth 100000 in
theorem fl_b693 : n_all n_ok 6 44352 = true := by decide +kernel
set_option maxRecDepth 100000 in
theorem fl_b694 : n_all n_ok 6 44416 = true := by decide +kernel
set_option maxRecDepth 100000 in
theorem fl_b695 : n_all n_ok 6 44480 = true := by decide +kernel
set_option maxRecDepth 100000 in
theorem fl_b696 : n_all n_ok 6 44544 = true := by decide +kernel
set_option maxRecDepth 100000 in
theorem fl_b697 : n_all n_ok 6 44608 = true := by decide +kernel
set_option maxRecDepth 100000 in
theorem fl_b698 : n_all n_ok 6 44672 = true := by decide +kernel
set_option maxRecDepth 100000 in
theorem fl_b699 : n_all n_ok 6 44736 = true := by decide +kernel
set_option maxRecDepth 100000 in
theorem fl_b700 : n_all n_ok 6 44800 = true := by decide +kernel
set_option maxRecDepth 100000 in
theorem fl_b701 : n_all n_ok 6 44864 = true := by decide +kernel
set_option maxRecDepth 100000 in
theorem fl_b702 : n_all n_ok 6 44928 = true := by decide +kernel
set_option maxRecDepth 100000 in
theorem fl_b703 : n_all n_ok 6 44992 = true := by decide +kernel
set_option maxRecDepth 100000 in
theorem fl_b704 : n_all n_ok 6 45056 = true := by decide +kernel
set_option maxRecDepth 100000 in
theorem fl_b705 : n_all n_ok 6 45120 = true := by decide +kernel
set_option maxRecDepth 100000 in
theorem fl_b706 : n_all n_ok 6 45184 = true := by decide +kernel
set_option maxRecDepth 100000 in
theorem fl_b707 : n_all n_ok 6 45248 = true := by decide +kernel
set_option maxRecDepth 100000 in
theorem fl_b708 : n_all n_ok 6 45312 = true := by decide +kernel
set_option maxRecDepth 100000 in
theorem fl_b709 : n_all n_ok 6 45376 = true := by decide +kernel
set_option maxRecDepth 100000 in
theorem fl_b710 : n_all n_ok 6 45440 = true := by decide +kernel
set_option maxRecDepth 100000 in
theorem fl_b711 : n_all n_ok 6 45504 = true := by decide +kernel
set_option maxRecDepth 100000 in
theorem fl_b712 : n_all n_ok 6 45568 = true := by decide +kernel
set_option maxRecDepth 100000 in
theorem fl_b713 : n_all n_ok 6 45632 = true := by decide +kernel
set_option maxRecDepth 100000 in
theorem fl_b714 : n_all n_ok 6 45696 = true := by decide +kernel
set_option maxRecDepth 100000 in
theorem fl_b715 : n_all n_ok 6 45760 = true := by decide +kernel
set_option maxRecDepth 100000 in
theorem fl_b716 : n_all n_ok 6 45824 = true := by decide +kernel
set_option maxRecDepth 100000 in
theorem fl_b717 : n_all n_ok 6 45888 = true := by decide +kernel
set_option maxRecDepth 100000 in
theorem fl_b718 : n_all n_ok 6 45952 = true := by decide +kernel
set_option maxRecDepth 100000 in
theorem fl_b719 : n_all n_ok 6 46016 = true := by decide +kernel
set_option maxRecDepth 100000 in
theorem fl_b720 : n_all n_ok 6 46080 = true := by decide +kernel
set_option maxRecDepth 100000 in
theorem fl_b721 : n_all n_ok 6 46144 = true := by decide +kernel
set_option maxRecDepth 100000 in
theorem fl_b722 : n_all n_ok 6 46208 = true := by decide +kernel
set_option maxRecDepth 100000 in
theorem fl_b723 : n_all n_ok 6 46272 = true := by decide +kernel
set_option maxRecDepth 100000 in
theorem fl_b724 : n_all n_ok 6 46336 = true := by decide +kernel
set_option maxRecDepth 100000 in
theorem fl_b725 : n_all n_ok 6 46400 = true := by decide +kernel
set_option maxRecDepth 100000 in
theorem fl_b726 : n_all n_ok 6 46464 = true := by decide +kernel
set_option maxRecDepth 100000 in
theorem fl_b727 : n_all n_ok 6 46528 = true := by decide +kernel
set_option maxRecDepth 100000 in
theorem fl_b728 : n_all n_ok 6 46592 = true := by decide +kernel
set_option maxRecDepth 100000 in
theorem fl_b729 : n_all n_ok 6 46656 = true := by decide +kernel
set_option maxRecDepth 100000 in
theorem fl_b730 : n_all n_ok 6 46720 = true := by decide +kernel
set_option maxRecDepth 100000 in
theorem fl_b731 : n_all n_ok 6 46784 = true := by decide +kernel
set_option maxRecDepth 100000 in
theorem fl_b732 : n_all n_ok 6 46848 = true := by decide +kernel
set_option maxRecDepth 100000 in
theorem fl_b733 : n_all n_ok 6 46912 = true := by decide +kernel
set_option maxRecDepth 100000 in
theorem fl_b734 : n_all n_ok 6 46976 = true := by decide +kernel
set_option maxRecDepth 100000 in
theorem fl_b735 : n_all n_ok 6 47040 = true := by decide +kernel
set_option maxRecDepth 100000 in
theorem fl_b736 : n_all n_ok 6 47104 = true := by decide +kernel
set_option maxRecDepth 100000 in
theorem fl_b737 : n_all n_ok 6 47168 = true := by decide +kernel
set_option maxRecDepth 100000 in
theorem fl_b738 : n_all n_ok 6 47232 = true := by decide +kernel
set_option maxRecDepth 100000 in
theorem fl_b739 : n_all n_ok 6 47296 = true := by decide +kernel
set_option maxRecDepth 100000 in
theorem fl_b740 : n_all n_ok 6 47360 = true := by decide +kernel
set_option maxRecDepth 100000 in
theorem fl_b741 : n_all n_ok 6 47424 = true := by decide +kernel
set_option maxRecDepth 100000 in
theorem fl_b742 : n_all n_ok 6 47488 = true := by decide +kernel
set_option maxRecDepth 100000 in
theorem fl_b743 : n_all n_ok 6 47552 = true := by decide +kernel
set_option maxRecDepth 100000 in
theorem fl_b744 : n_all n_ok 6 47616 = true := by decide +kernel
set_option maxRecDepth 100000 in
theorem fl_b745 : n_all n_ok 6 47680 = true := by decide +kernel
set_option maxRecDepth 100000 in
theorem fl_b746 : n_all n_ok 6 47744 = true := by decide +kernel
set_option maxRecDepth 100000 in
theorem fl_b747 : n_all n_ok 6 47808 = true := by decide +kernel
set_option maxRecDepth 100000 in
theorem fl_b748 : n_all n_ok 6 47872 = true := by decide +kernel
set_option maxRecDepth 100000 in
theorem fl_b749 : n_all n_ok 6 47936 = true := by decide +kernel
set_option maxRecDepth 100000 in
theorem fl_b750 : n_all n_ok 6 48000 = true := by decide +kernel
set_option maxRecDepth 100000 in
theorem fl_b751 : n_all n_ok 6 48064 = true := by decide +kernel
set_option maxRecDepth 100000 in
theorem fl_b752 : n_all n_ok 6 48128 = true := by decide +kernel
set_option maxRecDepth 100000 in
theorem fl_b753 : n_all n_ok 6 48192 = true := by decide +kernel
set_option maxRecDepth 100000 in
theorem fl_b754 : n_all n_ok 6 48256 = true := by decide +kernel
set_option maxRecDepth 100000 in
theorem fl_b755 : n_all n_ok 6 48320 = true := by decide +kernel
set_option maxRecDepth 100000 in
theorem fl_b756 : n_all n_ok 6 48384 = true := by decide +kernel
set_option maxRecDepth 100000 in
theorem fl_b757 : n_all n_ok 6 48448 = true := by decide +kernel
set_option maxRecDepth 100000 in
theorem fl_b758 : n_all n_ok 6 48512 = true := by decide +kernel
set_option maxRecDepth 100000 in
theorem fl_b759 : n_all n_ok 6 48576 = true := by decide +kernel
set_option maxRecDepth 100000 in
theorem fl_b760 : n_all n_ok 6 48640 = true := by decide +kernel
set_option maxRecDepth 100000 in
theorem fl_b761 : n_all n_ok 6 48704 = true := by decide +kernel
set_option maxRecDepth 100000 in
theorem fl_b762 : n_all n_ok 6 48768 = true := by decide +kernel
set_option maxRecDepth 100000 in
theorem fl_b763 : n_all n_ok 6 48832 = true := by decide +kernel
set_option maxRecDepth 100000 in
theorem fl_b764 : n_all n_ok 6 48896 = true := by decide +kernel
set_option maxRecDepth 100000 in
theorem fl_b765 : n_all n_ok 6 48960 = true := by decide +kernel
set_option maxRecDepth 100000 in
theorem fl_b766 : n_all n_ok 6 49024 = true := by decide +kernel
set_option maxRecDepth 100000 in
theorem fl_b767 : n_all n_ok 6 49088 = true := by decide +kernel
theorem fl_r5_0 : fl_R 40960 41024 := fl_L 40960 fl_b640
theorem fl_r5_1 : fl_R 40960 41088 := fl_J fl_r5_0 (fl_L 41024 fl_b641)
theorem fl_r5_2 : fl_R 40960 41152 := fl_J fl_r5_1 (fl_L 41088 fl_b642)
theorem fl_r5_3 : fl_R 40960 41216 := fl_J fl_r5_2 (fl_L 41152 fl_b643)
theorem fl_r5_4 : fl_R 40960 41280 := fl_J fl_r5_3 (fl_L 41216 fl_b644)
theorem fl_r5_5 : fl_R 40960 41344 := fl_J fl_r5_4 (fl_L 41280 fl_b645)
theorem fl_r5_6 : fl_R 40960 41408 := fl_J fl_r5_5 (fl_L 41344 fl_b646)
theorem fl_r5_7 : fl_R 40960 41472 := fl_J fl_r5_6 (fl_L 41408 fl_b647)
theorem fl_r5_8 : fl_R 40960 41536 := fl_J fl_r5_7 (fl_L 41472 fl_b648)
theorem fl_r5_9 : fl_R 40960 41600 := fl_J fl_r5_8 (fl_L 41536 fl_b649)
theorem fl_r5_10 : fl_R 40960 41664 := fl_J fl_r5_9 (fl_L 41600 fl_b650)
theorem fl_r5_11 : fl_R 40960 41728 := fl_J fl_r5_10 (fl_L 41664 fl_b651)
theorem fl_r5_12 : fl_R 40960 41792 := fl_J fl_r5_11 (fl_L 41728 fl_b652)
theorem fl_r5_13 : fl_R 40960 41856 := fl_J fl_r5_12 (fl_L 41792 fl_b653)
theorem fl_r5_14 : fl_R 40960 41920 := fl_J fl_r5_13 (fl_L 41856 fl_b654)
theorem fl_r5_15 : fl_R 40960 41984 := fl_J fl_r5_14 (fl_L 41920 fl_b655)
theorem fl_r5_16 : fl_R 40960 42048 := fl_J fl_r5_15 (fl_L 41984 fl_b656)
theorem fl_r5_17 : fl_R 40960 42112 := fl_J fl_r5_16 (fl_L 42048 fl_b657)
theorem fl_r5_18 : fl_R 40960 42176 := fl_J fl_r5_17 (fl_L 42112 fl_b658)
theorem fl_r5_19 : fl_R 40960 42240 := fl_J fl_r5_18 (fl_L 42176 fl_b659)
theorem fl_r5_20 : fl_R 40960 42304 := fl_J fl_r5_19 (fl_L 42240 fl_b660)
theorem fl_r5_21 : fl_R 40960 42368 := fl_J fl_r5_20 (fl_L 42304 fl_b661)
theorem fl_r5_22 : fl_R 40960 42432 := fl_J fl_r5_21 (fl_L 42368 fl_b662)
theorem fl_r5_23 : fl_R 40960 42496 := fl_J fl_r5_22 (fl_L 42432 fl_b663)
theorem fl_r5_24 : fl_R 40960 42560 := fl_J fl_r5_23 (fl_L 42496 fl_b664)
theorem fl_r5_25 : fl_R 40960 42624 := fl_J fl_r5_24 (fl_L 42560 fl_b665)
theorem fl_r5_26 : fl_R 40960 42688 := fl_J fl_r5_25 (fl_L 42624 fl_b666)
theorem fl_r5_27 : fl_R 40960 42752 := fl_J fl_r5_26 (fl_L 42688 fl_b667)
theorem fl_r5_28 : fl_R 40960 42816 := fl_J fl_r5_27 (fl_L 42752 fl_b668)
theorem fl_r5_29 : fl_R 40960 42880 := fl_J fl_r5_28 (fl_L 42816 fl_b669)
theorem fl_r5_30 : fl_R 40960 42944 := fl_J fl_r5_29 (fl_L 42880 fl_b670)
theorem fl_r5_31 : fl_R 40960 43008 := fl_J fl_r5_30 (fl_L 42944 fl_b671)
theorem fl_r5_32 : fl_R 40960 43072 := fl_J fl_r5_31 (fl_L 43008 fl_b672)
theorem fl_r5_33 : fl_R 40960 43136 := fl_J fl_r5_32 (fl_L 43072 fl_b673)
theorem fl_r5_34 : fl_R 40960 43200 := fl_J fl_r5_33 (fl_L 43136 fl_b674)
theorem fl_r5_35 : fl_R 40960 43264 := fl_J fl_r5_34 (fl_L 43200 fl_b675)
theorem fl_r5_36 : fl_R 40960 43328 := fl_J fl_r5_35 (fl_L 43264 fl_b676)
theorem fl_r5_37 : fl_R 40960 43392 := fl_J fl_r5_36 (fl_L 43328 fl_b677)
theorem fl_r5_38 : fl_R 40960 43456 := fl_J fl_r5_37 (fl_L 43392 fl_b678)
theorem fl_r5_39 : fl_R 40960 43520 := fl_J fl_r5_38 (fl_L 43456 fl_b679)
theorem fl_r5_40 : fl_R 40960 43584 := fl_J fl_r5_39 (fl_L 43520 fl_b680)
theorem fl_r5_41 : fl_R 40960 43648 := fl_J fl_r5_40 (fl_L 43584 fl_b681)
theorem fl_r5_42 : fl_R 40960 43712 := fl_J fl_r5_41 (fl_L 43648 fl_b682)
theorem fl_r5_43 : fl_R 40960 43776 := fl_J fl_r5_42 (fl_L 43712 fl_b683)
theorem fl_r5_44 : fl_R 40960 43840 := fl_J fl_r5_43 (fl_L 43776 fl_b684)
theorem fl_r5_45 : fl_R 40960 43904 := fl_J fl_r5_44 (fl_L 43840 fl_b685)
theorem fl_r5_46 : fl_R 40960 43968 := fl_J fl_r5_45 (fl_L 43904 fl_b686)
theorem fl_r5_47 : fl_R 40960 44032 := fl_J fl_r5_46 (fl_L 43968 fl_b687)
theorem fl_r5_48 : fl_R 40960 44096 := fl_J fl_r5_47 (fl_L 44032 fl_b688)
theorem fl_r5_49 : fl_R 40960 44160 := fl_J fl_r5_48 (fl_L 44096 fl_b689)
theorem fl_r5_50 : fl_R 40960 44224 := fl_J fl_r5_49 (fl_L 44160 fl_b690)
theorem fl_r5_51 : fl_R 40960 44288 := fl_J fl_r5_50 (fl_L 44224 fl_b691)
theorem fl_r5_52 : fl_R 40960 44352 := fl_J fl_r5_51 (fl_L 44288 fl_b692)
theorem fl_r5_53 : fl_R 40960 44416 := fl_J fl_r5_52 (fl_L 44352 fl_b693)
theorem fl_r5_54 : fl_R 40960 44480 := fl_J fl_r5_53 (fl_L 44416 fl_b694)
theorem fl_r5_55 : fl_R 40960 44544 := fl_J fl_r5_54 (fl_L 44480 fl_b695)
theorem fl_r5_56 : fl_R 40960 44608 := fl_J fl_r5_55 (fl_L 44544 fl_b696)
theorem fl_r5_57 : fl_R 40960 44672 := fl_J fl_r5_56 (fl_L 44608 fl_b697)
theorem fl_r5_58 : fl_R 40960 44736 := fl_J fl_r5_57 (fl_L 44672 fl_b698)
theorem fl_r5_59 : fl_R 40960 44800 := fl_J fl_r5_58 (fl_L 44736 fl_b699)
theorem fl_r5_60 : fl_R 40960 44864 := fl_J fl_r5_59 (fl_L 44800 fl_b700)
theorem fl_r5_61 : fl_R 40960 44928 := fl_J fl_r5_60 (fl_L 44864 fl_b701)
theorem fl_r5_62 : fl_R 40960 44992 := fl_J fl_r5_61 (fl_L 44928 fl_b702)
theorem fl_r5_63 : fl_R 40960 45056 := fl_J fl_r5_62 (fl_L 44992 fl_b703)
theorem fl_r5_64 : fl_R 40960 45120 := fl_J fl_r5_63 (fl_L 45056 fl_b704)
theorem fl_r5_65 : fl_R 40960 45184 := fl_J fl_r5_64 (fl_L 45120 fl_b705)
theorem fl_r5_66 : fl_R 40960 45248 := fl_J fl_r5_65 (fl_L 45184 fl_b706)
theorem fl_r5_67 : fl_R 40960 45312 := fl_J fl_r5_66 (fl_L 45248 fl_b707)
theorem fl_r5_68 : fl_R 40960 45376 := fl_J fl_r5_67 (fl_L 45312 fl_b708)
theorem fl_r5_69 : fl_R 40960 45440 := fl_J fl_r5_68 (fl_L 45376 fl_b709)
theorem fl_r5_70 : fl_R 40960 45504 := fl_J fl_r5_69 (fl_L 45440 fl_b710)
theorem fl_r5_71 : fl_R 40960 45568 := fl_J fl_r5_70 (fl_L 45504 fl_b711)
theorem fl_r5_72 : fl_R 40960 45632 := fl_J fl_r5_71 (fl_L 45568 fl_b712)
theorem fl_r5_73 : fl_R 40960 45696 := fl_J fl_r5_72 (fl_L 45632 fl_b713)
theorem fl_r5_74 : fl_R 40960 45760 := fl_J fl_r5_73 (fl_L 45696 fl_b714)
theorem fl_r5_75 : fl_R 40960 45824 := fl_J fl_r5_74 (fl_L 45760 fl_b715)
theorem fl_r5_76 : fl_R 40960 45888 := fl_J fl_r5_75 (fl_L 45824 fl_b716)
theorem fl_r5_77 : fl_R 40960 45952 := fl_J fl_r5_76 (fl_L 45888 fl_b717)
theorem fl_r5_78 : fl_R 40960 46016 := fl_J fl_r5_77 (fl_L 45952 fl_b718)
theorem fl_r5_79 : fl_R 40960 46080 := fl_J fl_r5_78 (fl_L 46016 fl_b719)
theorem fl_r5_80 : fl_R 40960 46144 := fl_J fl_r5_79 (fl_L 46080 fl_b720)
theorem fl_r5_81 : fl_R 40960 46208 := fl_J fl_r5_80 (fl_L 46144 fl_b721)
theorem fl_r5_82 : fl_R 40960 46272 := fl_J fl_r5_81 (fl_L 46208 fl_b722)
theorem fl_r5_83 : fl_R 40960 46336 := fl_J fl_r5_82 (fl_L 46272 fl_b723)
theorem fl_r5_84 : fl_R 40960 46400 := fl_J fl_r5_83 (fl_L 46336 fl_b724)
theorem fl_r5_85 : fl_R 40960 46464 := fl_J fl_r5_84 (fl_L 46400 fl_b725)
theorem fl_r5_86 : fl_R 40960 46528 := fl_J fl_r5_85 (fl_L 46464 fl_b726)
theorem fl_r5_87 : fl_R 40960 46592 := fl_J fl_r5_86 (fl_L 46528 fl_b727)
theorem fl_r5_88 : fl_R 40960 46656 := fl_J fl_r5_87 (fl_L 46592 fl_b728)
theorem fl_r5_89 : fl_R 40960 46720 := fl_J fl_r5_88 (fl_L 46656 fl_b729)
theorem fl_r5_90 : fl_R 40960 46784 := fl_J fl_r5_89 (fl_L 46720 fl_b730)
theorem fl_r5_91 : fl_R 40960 46848 := fl_J fl_r5_90 (fl_L 46784 fl_b731)
theorem fl_r5_92 : fl_R 40960 46912 := fl_J fl_r5_91 (fl_L 46848 fl_b732)
theorem fl_r5_93 : fl_R 40960 46976 := fl_J fl_r5_92 (fl_L 46912 fl_b733)
theorem fl_r5_94 : fl_R 40960 47040 := fl_J fl_r5_93 (fl_L 46976 fl_b734)
theorem fl_r5_95 : fl_R 40960 47104 := fl_J fl_r5_94 (fl_L 47040 fl_b735)
theorem fl_r5_96 : fl_R 40960 47168 := fl_J fl_r5_95 (fl_L 47104 fl_b736)
theorem fl_r5_97 : fl_R 40960 47232 := fl_J fl_r5_96 (fl_L 47168 fl_b737)
theorem fl_r5_98 : fl_R 40960 47296 := fl_J fl_r5_97 (fl_L 47232 fl_b738)
theorem fl_r5_99 : fl_R 40960 47360 := fl_J fl_r5_98 (fl_L 47296 fl_b739)
theorem fl_r5_100 : fl_R 40960 47424 := fl_J fl_r5_99 (fl_L 47360 fl_b740)
theorem fl_r5_101 : fl_R 40960 47488 := fl_J fl_r5_100 (fl_L 47424 fl_b741)
theorem fl_r5_102 : fl_R 40960 47552 := fl_J fl_r5_101 (fl_L 47488 fl_b742)
theorem fl_r5_103 : fl_R 40960 47616 := fl_J fl_r5_102 (fl_L 47552 fl_b743)
theorem fl_r5_104 : fl_R 40960 47680 := fl_J fl_r5_103 (fl_L 47616 fl_b744)
theorem fl_r5_105 : fl_R 40960 47744 := fl_J fl_r5_104 (fl_L 47680 fl_b745)
theorem fl_r5_106 : fl_R 40960 47808 := fl_J fl_r5_105 (fl_L 47744 fl_b746)
theorem fl_r5_107 : fl_R 40960 47872 := fl_J fl_r5_106 (fl_L 47808 fl_b747)
theorem fl_r5_108 : fl_R 40960 47936 := fl_J fl_r5_107 (fl_L 47872 fl_b748)
theorem fl_r5_109 : fl_R 40960 48000 := fl_J fl_r5_108 (fl_L 47936 fl_b749)
theorem fl_r5_110 : fl_R 40960 48064 := fl_J fl_r5_109 (fl_L 48000 fl_b750)
theorem fl_r5_111 : fl_R 40960 48128 := fl_J fl_r5_110 (fl_L 48064 fl_b751)
theorem fl_r5_112 : fl_R 40960 48192 := fl_J fl_r5_111 (fl_L 48128 fl_b752)
theorem fl_r5_113 : fl_R 40960 48256 := fl_J fl_r5_112 (fl_L 48192 fl_b753)
theorem fl_r5_114 : fl_R 40960 48320 := fl_J fl_r5_113 (fl_L 48256 fl_b754)
theorem fl_r5_115 : fl_R 40960 48384 := fl_J fl_r5_114 (fl_L 48320 fl_b755)
theorem fl_r5_116 : fl_R 40960 48448 := fl_J fl_r5_115 (fl_L 48384 fl_b756)
theorem fl_r5_117 : fl_R 40960 48512 := fl_J fl_r5_116 (fl_L 48448 fl_b757)
theorem fl_r5_118 : fl_R 40960 48576 := fl_J fl_r5_117 (fl_L 48512 fl_b758)
theorem fl_r5_119 : fl_R 40960 48640 := fl_J fl_r5_118 (fl_L 48576 fl_b759)
theorem fl_r5_120 : fl_R 40960 48704 := fl_J fl_r5_119 (fl_L 48640 fl_b760)
theorem fl_r5_121 : fl_R 40960 48768 := fl_J fl_r5_120 (fl_L 48704 fl_b761)
theorem fl_r5_122 : fl_R 40960 48832 := fl_J fl_r5_121 (fl_L 48768 fl_b762)
theorem fl_r5_123 : fl_R 40960 48896 := fl_J fl_r5_122 (fl_L 48832 fl_b763)
theorem fl_r5_124 : fl_R 40960 48960 := fl_J fl_r5_123 (fl_L 48896 fl_b764)
theorem fl_r5_125 : fl_R 40960 49024 := fl_J fl_r5_124 (fl_L 48960 fl_b765)
theorem fl_r5_126 : fl_R 40960 49088 := fl_J fl_r5_125 (fl_L 49024 fl_b766)
theorem fl_r5_127 : fl_R 40960 49152 := fl_J fl_r5_126 (fl_L 49088 fl_b767)
theorem fl_R5 : fl_R 40960 49152 := fl_r5_127

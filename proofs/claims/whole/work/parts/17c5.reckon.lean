/-! The reckoning, counts 32768 on. -/
set_option maxRecDepth 100000 in
theorem fl_b512 : n_all n_ok 6 32768 = true := by decide +kernel
set_option maxRecDepth 100000 in
theorem fl_b513 : n_all n_ok 6 32832 = true := by decide +kernel
set_option maxRecDepth 100000 in
theorem fl_b514 : n_all n_ok 6 32896 = true := by decide +kernel
set_option maxRecDepth 100000 in
theorem fl_b515 : n_all n_ok 6 32960 = true := by decide +kernel
set_option maxRecDepth 100000 in
theorem fl_b516 : n_all n_ok 6 33024 = true := by decide +kernel
set_option maxRecDepth 100000 in
theorem fl_b517 : n_all n_ok 6 33088 = true := by decide +kernel
set_option maxRecDepth 100000 in
theorem fl_b518 : n_all n_ok 6 33152 = true := by decide +kernel
set_option maxRecDepth 100000 in
theorem fl_b519 : n_all n_ok 6 33216 = true := by decide +kernel
set_option maxRecDepth 100000 in
theorem fl_b520 : n_all n_ok 6 33280 = true := by decide +kernel
set_option maxRecDepth 100000 in
theorem fl_b521 : n_all n_ok 6 33344 = true := by decide +kernel
set_option maxRecDepth 100000 in
theorem fl_b522 : n_all n_ok 6 33408 = true := by decide +kernel
set_option maxRecDepth 100000 in
theorem fl_b523 : n_all n_ok 6 33472 = true := by decide +kernel
set_option maxRecDepth 100000 in
theorem fl_b524 : n_all n_ok 6 33536 = true := by decide +kernel
set_option maxRecDepth 100000 in
theorem fl_b525 : n_all n_ok 6 33600 = true := by decide +kernel
set_option maxRecDepth 100000 in
theorem fl_b526 : n_all n_ok 6 33664 = true := by decide +kernel
set_option maxRecDepth 100000 in
theorem fl_b527 : n_all n_ok 6 33728 = true := by decide +kernel
set_option maxRecDepth 100000 in
theorem fl_b528 : n_all n_ok 6 33792 = true := by decide +kernel
set_option maxRecDepth 100000 in
theorem fl_b529 : n_all n_ok 6 33856 = true := by decide +kernel
set_option maxRecDepth 100000 in
theorem fl_b530 : n_all n_ok 6 33920 = true := by decide +kernel
set_option maxRecDepth 100000 in
theorem fl_b531 : n_all n_ok 6 33984 = true := by decide +kernel
set_option maxRecDepth 100000 in
theorem fl_b532 : n_all n_ok 6 34048 = true := by decide +kernel
set_option maxRecDepth 100000 in
theorem fl_b533 : n_all n_ok 6 34112 = true := by decide +kernel
set_option maxRecDepth 100000 in
theorem fl_b534 : n_all n_ok 6 34176 = true := by decide +kernel
set_option maxRecDepth 100000 in
theorem fl_b535 : n_all n_ok 6 34240 = true := by decide +kernel
set_option maxRecDepth 100000 in
theorem fl_b536 : n_all n_ok 6 34304 = true := by decide +kernel
set_option maxRecDepth 100000 in
theorem fl_b537 : n_all n_ok 6 34368 = true := by decide +kernel
set_option maxRecDepth 100000 in
theorem fl_b538 : n_all n_ok 6 34432 = true := by decide +kernel
set_option maxRecDepth 100000 in
theorem fl_b539 : n_all n_ok 6 34496 = true := by decide +kernel
set_option maxRecDepth 100000 in
theorem fl_b540 : n_all n_ok 6 34560 = true := by decide +kernel
set_option maxRecDepth 100000 in
theorem fl_b541 : n_all n_ok 6 34624 = true := by decide +kernel
set_option maxRecDepth 100000 in
theorem fl_b542 : n_all n_ok 6 34688 = true := by decide +kernel
set_option maxRecDepth 100000 in
theorem fl_b543 : n_all n_ok 6 34752 = true := by decide +kernel
set_option maxRecDepth 100000 in
theorem fl_b544 : n_all n_ok 6 34816 = true := by decide +kernel
set_option maxRecDepth 100000 in
theorem fl_b545 : n_all n_ok 6 34880 = true := by decide +kernel
set_option maxRecDepth 100000 in
theorem fl_b546 : n_all n_ok 6 34944 = true := by decide +kernel
set_option maxRecDepth 100000 in
theorem fl_b547 : n_all n_ok 6 35008 = true := by decide +kernel
set_option maxRecDepth 100000 in
theorem fl_b548 : n_all n_ok 6 35072 = true := by decide +kernel
set_option maxRecDepth 100000 in
theorem fl_b549 : n_all n_ok 6 35136 = true := by decide +kernel
set_option maxRecDepth 100000 in
theorem fl_b550 : n_all n_ok 6 35200 = true := by decide +kernel
set_option maxRecDepth 100000 in
theorem fl_b551 : n_all n_ok 6 35264 = true := by decide +kernel
set_option maxRecDepth 100000 in
theorem fl_b552 : n_all n_ok 6 35328 = true := by decide +kernel
set_option maxRecDepth 100000 in
theorem fl_b553 : n_all n_ok 6 35392 = true := by decide +kernel
set_option maxRecDepth 100000 in
theorem fl_b554 : n_all n_ok 6 35456 = true := by decide +kernel
set_option maxRecDepth 100000 in
theorem fl_b555 : n_all n_ok 6 35520 = true := by decide +kernel
set_option maxRecDepth 100000 in
theorem fl_b556 : n_all n_ok 6 35584 = true := by decide +kernel
set_option maxRecDepth 100000 in
theorem fl_b557 : n_all n_ok 6 35648 = true := by decide +kernel
set_option maxRecDepth 100000 in
theorem fl_b558 : n_all n_ok 6 35712 = true := by decide +kernel
set_option maxRecDepth 100000 in
theorem fl_b559 : n_all n_ok 6 35776 = true := by decide +kernel
set_option maxRecDepth 100000 in
theorem fl_b560 : n_all n_ok 6 35840 = true := by decide +kernel
set_option maxRecDepth 100000 in
theorem fl_b561 : n_all n_ok 6 35904 = true := by decide +kernel
set_option maxRecDepth 100000 in
theorem fl_b562 : n_all n_ok 6 35968 = true := by decide +kernel
set_option maxRecDepth 100000 in
theorem fl_b563 : n_all n_ok 6 36032 = true := by decide +kernel
set_option maxRecDepth 100000 in
theorem fl_b564 : n_all n_ok 6 36096 = true := by decide +kernel
set_option maxRecDepth 100000 in
theorem fl_b565 : n_all n_ok 6 36160 = true := by decide +kernel
set_option maxRecDepth 100000 in
theorem fl_b566 : n_all n_ok 6 36224 = true := by decide +kernel
set_option maxRecDepth 100000 in
theorem fl_b567 : n_all n_ok 6 36288 = true := by decide +kernel
set_option maxRecDepth 100000 in
theorem fl_b568 : n_all n_ok 6 36352 = true := by decide +kernel
set_option maxRecDepth 100000 in
theorem fl_b569 : n_all n_ok 6 36416 = true := by decide +kernel
set_option maxRecDepth 100000 in
theorem fl_b570 : n_all n_ok 6 36480 = true := by decide +kernel
set_option maxRecDepth 100000 in
theorem fl_b571 : n_all n_ok 6 36544 = true := by decide +kernel
set_option maxRecDepth 100000 in
theorem fl_b572 : n_all n_ok 6 36608 = true := by decide +kernel
set_option maxRecDepth 100000 in
theorem fl_b573 : n_all n_ok 6 36672 = true := by decide +kernel
set_option maxRecDepth 100000 in
theorem fl_b574 : n_all n_ok 6 36736 = true := by decide +kernel
set_option maxRecDepth 100000 in
theorem fl_b575 : n_all n_ok 6 36800 = true := by decide +kernel
set_option maxRecDepth 100000 in
theorem fl_b576 : n_all n_ok 6 36864 = true := by decide +kernel
set_option maxRecDepth 100000 in
theorem fl_b577 : n_all n_ok 6 36928 = true := by decide +kernel
set_option maxRecDepth 100000 in
theorem fl_b578 : n_all n_ok 6 36992 = true := by decide +kernel
set_option maxRecDepth 100000 in
theorem fl_b579 : n_all n_ok 6 37056 = true := by decide +kernel
set_option maxRecDepth 100000 in
theorem fl_b580 : n_all n_ok 6 37120 = true := by decide +kernel
set_option maxRecDepth 100000 in
theorem fl_b581 : n_all n_ok 6 37184 = true := by decide +kernel
set_option maxRecDepth 100000 in
theorem fl_b582 : n_all n_ok 6 37248 = true := by decide +kernel
set_option maxRecDepth 100000 in
theorem fl_b583 : n_all n_ok 6 37312 = true := by decide +kernel
set_option maxRecDepth 100000 in
theorem fl_b584 : n_all n_ok 6 37376 = true := by decide +kernel
set_option maxRecDepth 100000 in
theorem fl_b585 : n_all n_ok 6 37440 = true := by decide +kernel
set_option maxRecDepth 100000 in
theorem fl_b586 : n_all n_ok 6 37504 = true := by decide +kernel
set_option maxRecDepth 100000 in
theorem fl_b587 : n_all n_ok 6 37568 = true := by decide +kernel
set_option maxRecDepth 100000 in
theorem fl_b588 : n_all n_ok 6 37632 = true := by decide +kernel
set_option maxRecDepth 100000 in
theorem fl_b589 : n_all n_ok 6 37696 = true := by decide +kernel
set_option maxRecDepth 100000 in
theorem fl_b590 : n_all n_ok 6 37760 = true := by decide +kernel
set_option maxRecDepth 100000 in
theorem fl_b591 : n_all n_ok 6 37824 = true := by decide +kernel
set_option maxRecDepth 100000 in
theorem fl_b592 : n_all n_ok 6 37888 = true := by decide +kernel
set_option maxRecDepth 100000 in
theorem fl_b593 : n_all n_ok 6 37952 = true := by decide +kernel
set_option maxRecDepth 100000 in
theorem fl_b594 : n_all n_ok 6 38016 = true := by decide +kernel
set_option maxRecDepth 100000 in
theorem fl_b595 : n_all n_ok 6 38080 = true := by decide +kernel
set_option maxRecDepth 100000 in
theorem fl_b596 : n_all n_ok 6 38144 = true := by decide +kernel
set_option maxRecDepth 100000 in
theorem fl_b597 : n_all n_ok 6 38208 = true := by decide +kernel
set_option maxRecDepth 100000 in
theorem fl_b598 : n_all n_ok 6 38272 = true := by decide +kernel
set_option maxRecDepth 100000 in
theorem fl_b599 : n_all n_ok 6 38336 = true := by decide +kernel
set_option maxRecDepth 100000 in
theorem fl_b600 : n_all n_ok 6 38400 = true := by decide +kernel
set_option maxRecDepth 100000 in
theorem fl_b601 : n_all n_ok 6 38464 = true := by decide +kernel
set_option maxRecDepth 100000 in
theorem fl_b602 : n_all n_ok 6 38528 = true := by decide +kernel
set_option maxRecDepth 100000 in
theorem fl_b603 : n_all n_ok 6 38592 = true := by decide +kernel
set_option maxRecDepth 100000 in
theorem fl_b604 : n_all n_ok 6 38656 = true := by decide +kernel
set_option maxRecDepth 100000 in
theorem fl_b605 : n_all n_ok 6 38720 = true := by decide +kernel
set_option maxRecDepth 100000 in
theorem fl_b606 : n_all n_ok 6 38784 = true := by decide +kernel
set_option maxRecDepth 100000 in
theorem fl_b607 : n_all n_ok 6 38848 = true := by decide +kernel
set_option maxRecDepth 100000 in
theorem fl_b608 : n_all n_ok 6 38912 = true := by decide +kernel
set_option maxRecDepth 100000 in
theorem fl_b609 : n_all n_ok 6 38976 = true := by decide +kernel
set_option maxRecDepth 100000 in
theorem fl_b610 : n_all n_ok 6 39040 = true := by decide +kernel
set_option maxRecDepth 100000 in
theorem fl_b611 : n_all n_ok 6 39104 = true := by decide +kernel
set_option maxRecDepth 100000 in
theorem fl_b612 : n_all n_ok 6 39168 = true := by decide +kernel
set_option maxRecDepth 100000 in
theorem fl_b613 : n_all n_ok 6 39232 = true := by decide +kernel
set_option maxRecDepth 100000 in
theorem fl_b614 : n_all n_ok 6 39296 = true := by decide +kernel
set_option maxRecDepth 100000 in
theorem fl_b615 : n_all n_ok 6 39360 = true := by decide +kernel
set_option maxRecDepth 100000 in
theorem fl_b616 : n_all n_ok 6 39424 = true := by decide +kernel
set_option maxRecDepth 100000 in
theorem fl_b617 : n_all n_ok 6 39488 = true := by decide +kernel
set_option maxRecDepth 100000 in
theorem fl_b618 : n_all n_ok 6 39552 = true := by decide +kernel
set_option maxRecDepth 100000 in
theorem fl_b619 : n_all n_ok 6 39616 = true := by decide +kernel
set_option maxRecDepth 100000 in
theorem fl_b620 : n_all n_ok 6 39680 = true := by decide +kernel
set_option maxRecDepth 100000 in
theorem fl_b621 : n_all n_ok 6 39744 = true := by decide +kernel
set_option maxRecDepth 100000 in
theorem fl_b622 : n_all n_ok 6 39808 = true := by decide +kernel
set_option maxRecDepth 100000 in
theorem fl_b623 : n_all n_ok 6 39872 = true := by decide +kernel
set_option maxRecDepth 100000 in
theorem fl_b624 : n_all n_ok 6 39936 = true := by decide +kernel
set_option maxRecDepth 100000 in
theorem fl_b625 : n_all n_ok 6 40000 = true := by decide +kernel
set_option maxRecDepth 100000 in
theorem fl_b626 : n_all n_ok 6 40064 = true := by decide +kernel
set_option maxRecDepth 100000 in
theorem fl_b627 : n_all n_ok 6 40128 = true := by decide +kernel
set_option maxRecDepth 100000 in
theorem fl_b628 : n_all n_ok 6 40192 = true := by decide +kernel
set_option maxRecDepth 100000 in
theorem fl_b629 : n_all n_ok 6 40256 = true := by decide +kernel
set_option maxRecDepth 100000 in
theorem fl_b630 : n_all n_ok 6 40320 = true := by decide +kernel
set_option maxRecDepth 100000 in
theorem fl_b631 : n_all n_ok 6 40384 = true := by decide +kernel
set_option maxRecDepth 100000 in
theorem fl_b632 : n_all n_ok 6 40448 = true := by decide +kernel
set_option maxRecDepth 100000 in
theorem fl_b633 : n_all n_ok 6 40512 = true := by decide +kernel
set_option maxRecDepth 100000 in
theorem fl_b634 : n_all n_ok 6 40576 = true := by decide +kernel
set_option maxRecDepth 100000 in
theorem fl_b635 : n_all n_ok 6 40640 = true := by decide +kernel
set_option maxRecDepth 100000 in
theorem fl_b636 : n_all n_ok 6 40704 = true := by decide +kernel
set_option maxRecDepth 100000 in
theorem fl_b637 : n_all n_ok 6 40768 = true := by decide +kernel
set_option maxRecDepth 100000 in
theorem fl_b638 : n_all n_ok 6 40832 = true := by decide +kernel
set_option maxRecDepth 100000 in
theorem fl_b639 : n_all n_ok 6 40896 = true := by decide +kernel
theorem fl_r4_0 : fl_R 32768 32832 := fl_L 32768 fl_b512
theorem fl_r4_1 : fl_R 32768 32896 := fl_J fl_r4_0 (fl_L 32832 fl_b513)
theorem fl_r4_2 : fl_R 32768 32960 := fl_J fl_r4_1 (fl_L 32896 fl_b514)
theorem fl_r4_3 : fl_R 32768 33024 := fl_J fl_r4_2 (fl_L 32960 fl_b515)
theorem fl_r4_4 : fl_R 32768 33088 := fl_J fl_r4_3 (fl_L 33024 fl_b516)
theorem fl_r4_5 : fl_R 32768 33152 := fl_J fl_r4_4 (fl_L 33088 fl_b517)
theorem fl_r4_6 : fl_R 32768 33216 := fl_J fl_r4_5 (fl_L 33152 fl_b518)
theorem fl_r4_7 : fl_R 32768 33280 := fl_J fl_r4_6 (fl_L 33216 fl_b519)
theorem fl_r4_8 : fl_R 32768 33344 := fl_J fl_r4_7 (fl_L 33280 fl_b520)
theorem fl_r4_9 : fl_R 32768 33408 := fl_J fl_r4_8 (fl_L 33344 fl_b521)
theorem fl_r4_10 : fl_R 32768 33472 := fl_J fl_r4_9 (fl_L 33408 fl_b522)
theorem fl_r4_11 : fl_R 32768 33536 := fl_J fl_r4_10 (fl_L 33472 fl_b523)
theorem fl_r4_12 : fl_R 32768 33600 := fl_J fl_r4_11 (fl_L 33536 fl_b524)
theorem fl_r4_13 : fl_R 32768 33664 := fl_J fl_r4_12 (fl_L 33600 fl_b525)
theorem fl_r4_14 : fl_R 32768 33728 := fl_J fl_r4_13 (fl_L 33664 fl_b526)
theorem fl_r4_15 : fl_R 32768 33792 := fl_J fl_r4_14 (fl_L 33728 fl_b527)
theorem fl_r4_16 : fl_R 32768 33856 := fl_J fl_r4_15 (fl_L 33792 fl_b528)
theorem fl_r4_17 : fl_R 32768 33920 := fl_J fl_r4_16 (fl_L 33856 fl_b529)
theorem fl_r4_18 : fl_R 32768 33984 := fl_J fl_r4_17 (fl_L 33920 fl_b530)
theorem fl_r4_19 : fl_R 32768 34048 := fl_J fl_r4_18 (fl_L 33984 fl_b531)
theorem fl_r4_20 : fl_R 32768 34112 := fl_J fl_r4_19 (fl_L 34048 fl_b532)
theorem fl_r4_21 : fl_R 32768 34176 := fl_J fl_r4_20 (fl_L 34112 fl_b533)
theorem fl_r4_22 : fl_R 32768 34240 := fl_J fl_r4_21 (fl_L 34176 fl_b534)
theorem fl_r4_23 : fl_R 32768 34304 := fl_J fl_r4_22 (fl_L 34240 fl_b535)
theorem fl_r4_24 : fl_R 32768 34368 := fl_J fl_r4_23 (fl_L 34304 fl_b536)
theorem fl_r4_25 : fl_R 32768 34432 := fl_J fl_r4_24 (fl_L 34368 fl_b537)
theorem fl_r4_26 : fl_R 32768 34496 := fl_J fl_r4_25 (fl_L 34432 fl_b538)
theorem fl_r4_27 : fl_R 32768 34560 := fl_J fl_r4_26 (fl_L 34496 fl_b539)
theorem fl_r4_28 : fl_R 32768 34624 := fl_J fl_r4_27 (fl_L 34560 fl_b540)
theorem fl_r4_29 : fl_R 32768 34688 := fl_J fl_r4_28 (fl_L 34624 fl_b541)
theorem fl_r4_30 : fl_R 32768 34752 := fl_J fl_r4_29 (fl_L 34688 fl_b542)
theorem fl_r4_31 : fl_R 32768 34816 := fl_J fl_r4_30 (fl_L 34752 fl_b543)
theorem fl_r4_32 : fl_R 32768 34880 := fl_J fl_r4_31 (fl_L 34816 fl_b544)
theorem fl_r4_33 : fl_R 32768 34944 := fl_J fl_r4_32 (fl_L 34880 fl_b545)
theorem fl_r4_34 : fl_R 32768 35008 := fl_J fl_r4_33 (fl_L 34944 fl_b546)
theorem fl_r4_35 : fl_R 32768 35072 := fl_J fl_r4_34 (fl_L 35008 fl_b547)
theorem fl_r4_36 : fl_R 32768 35136 := fl_J fl_r4_35 (fl_L 35072 fl_b548)
theorem fl_r4_37 : fl_R 32768 35200 := fl_J fl_r4_36 (fl_L 35136 fl_b549)
theorem fl_r4_38 : fl_R 32768 35264 := fl_J fl_r4_37 (fl_L 35200 fl_b550)
theorem fl_r4_39 : fl_R 32768 35328 := fl_J fl_r4_38 (fl_L 35264 fl_b551)
theorem fl_r4_40 : fl_R 32768 35392 := fl_J fl_r4_39 (fl_L 35328 fl_b552)
theorem fl_r4_41 : fl_R 32768 35456 := fl_J fl_r4_40 (fl_L 35392 fl_b553)
theorem fl_r4_42 : fl_R 32768 35520 := fl_J fl_r4_41 (fl_L 35456 fl_b554)
theorem fl_r4_43 : fl_R 32768 35584 := fl_J fl_r4_42 (fl_L 35520 fl_b555)
theorem fl_r4_44 : fl_R 32768 35648 := fl_J fl_r4_43 (fl_L 35584 fl_b556)
theorem fl_r4_45 : fl_R 32768 35712 := fl_J fl_r4_44 (fl_L 35648 fl_b557)
theorem fl_r4_46 : fl_R 32768 35776 := fl_J fl_r4_45 (fl_L 35712 fl_b558)
theorem fl_r4_47 : fl_R 32768 35840 := fl_J fl_r4_46 (fl_L 35776 fl_b559)
theorem fl_r4_48 : fl_R 32768 35904 := fl_J fl_r4_47 (fl_L 35840 fl_b560)
theorem fl_r4_49 : fl_R 32768 35968 := fl_J fl_r4_48 (fl_L 35904 fl_b561)
theorem fl_r4_50 : fl_R 32768 36032 := fl_J fl_r4_49 (fl_L 35968 fl_b562)
theorem fl_r4_51 : fl_R 32768 36096 := fl_J fl_r4_50 (fl_L 36032 fl_b563)
theorem fl_r4_52 : fl_R 32768 36160 := fl_J fl_r4_51 (fl_L 36096 fl_b564)
theorem fl_r4_53 : fl_R 32768 36224 := fl_J fl_r4_52 (fl_L 36160 fl_b565)
theorem fl_r4_54 : fl_R 32768 36288 := fl_J fl_r4_53 (fl_L 36224 fl_b566)
theorem fl_r4_55 : fl_R 32768 36352 := fl_J fl_r4_54 (fl_L 36288 fl_b567)
theorem fl_r4_56 : fl_R 32768 36416 := fl_J fl_r4_55 (fl_L 36352 fl_b568)
theorem fl_r4_57 : fl_R 32768 36480 := fl_J fl_r4_56 (fl_L 36416 fl_b569)
theorem fl_r4_58 : fl_R 32768 36544 := fl_J fl_r4_57 (fl_L 36480 fl_b570)
theorem fl_r4_59 : fl_R 32768 36608 := fl_J fl_r4_58 (fl_L 36544 fl_b571)
theorem fl_r4_60 : fl_R 32768 36672 := fl_J fl_r4_59 (fl_L 36608 fl_b572)
theorem fl_r4_61 : fl_R 32768 36736 := fl_J fl_r4_60 (fl_L 36672 fl_b573)
theorem fl_r4_62 : fl_R 32768 36800 := fl_J fl_r4_61 (fl_L 36736 fl_b574)
theorem fl_r4_63 : fl_R 32768 36864 := fl_J fl_r4_62 (fl_L 36800 fl_b575)
theorem fl_r4_64 : fl_R 32768 36928 := fl_J fl_r4_63 (fl_L 36864 fl_b576)
theorem fl_r4_65 : fl_R 32768 36992 := fl_J fl_r4_64 (fl_L 36928 fl_b577)
theorem fl_r4_66 : fl_R 32768 37056 := fl_J fl_r4_65 (fl_L 36992 fl_b578)
theorem fl_r4_67 : fl_R 32768 37120 := fl_J fl_r4_66 (fl_L 37056 fl_b579)
theorem fl_r4_68 : fl_R 32768 37184 := fl_J fl_r4_67 (fl_L 37120 fl_b580)
theorem fl_r4_69 : fl_R 32768 37248 := fl_J fl_r4_68 (fl_L 37184 fl_b581)
theorem fl_r4_70 : fl_R 32768 37312 := fl_J fl_r4_69 (fl_L 37248 fl_b582)
theorem fl_r4_71 : fl_R 32768 37376 := fl_J fl_r4_70 (fl_L 37312 fl_b583)
theorem fl_r4_72 : fl_R 32768 37440 := fl_J fl_r4_71 (fl_L 37376 fl_b584)
theorem fl_r4_73 : fl_R 32768 37504 := fl_J fl_r4_72 (fl_L 37440 fl_b585)
theorem fl_r4_74 : fl_R 32768 37568 := fl_J fl_r4_73 (fl_L 37504 fl_b586)
theorem fl_r4_75 : fl_R 32768 37632 := fl_J fl_r4_74 (fl_L 37568 fl_b587)
theorem fl_r4_76 : fl_R 32768 37696 := fl_J fl_r4_75 (fl_L 37632 fl_b588)
theorem fl_r4_77 : fl_R 32768 37760 := fl_J fl_r4_76 (fl_L 37696 fl_b589)
theorem fl_r4_78 : fl_R 32768 37824 := fl_J fl_r4_77 (fl_L 37760 fl_b590)
theorem fl_r4_79 : fl_R 32768 37888 := fl_J fl_r4_78 (fl_L 37824 fl_b591)
theorem fl_r4_80 : fl_R 32768 37952 := fl_J fl_r4_79 (fl_L 37888 fl_b592)
theorem fl_r4_81 : fl_R 32768 38016 := fl_J fl_r4_80 (fl_L 37952 fl_b593)
theorem fl_r4_82 : fl_R 32768 38080 := fl_J fl_r4_81 (fl_L 38016 fl_b594)
theorem fl_r4_83 : fl_R 32768 38144 := fl_J fl_r4_82 (fl_L 38080 fl_b595)
theorem fl_r4_84 : fl_R 32768 38208 := fl_J fl_r4_83 (fl_L 38144 fl_b596)
theorem fl_r4_85 : fl_R 32768 38272 := fl_J fl_r4_84 (fl_L 38208 fl_b597)
theorem fl_r4_86 : fl_R 32768 38336 := fl_J fl_r4_85 (fl_L 38272 fl_b598)
theorem fl_r4_87 : fl_R 32768 38400 := fl_J fl_r4_86 (fl_L 38336 fl_b599)
theorem fl_r4_88 : fl_R 32768 38464 := fl_J fl_r4_87 (fl_L 38400 fl_b600)
theorem fl_r4_89 : fl_R 32768 38528 := fl_J fl_r4_88 (fl_L 38464 fl_b601)
theorem fl_r4_90 : fl_R 32768 38592 := fl_J fl_r4_89 (fl_L 38528 fl_b602)
theorem fl_r4_91 : fl_R 32768 38656 := fl_J fl_r4_90 (fl_L 38592 fl_b603)
theorem fl_r4_92 : fl_R 32768 38720 := fl_J fl_r4_91 (fl_L 38656 fl_b604)
theorem fl_r4_93 : fl_R 32768 38784 := fl_J fl_r4_92 (fl_L 38720 fl_b605)
theorem fl_r4_94 : fl_R 32768 38848 := fl_J fl_r4_93 (fl_L 38784 fl_b606)
theorem fl_r4_95 : fl_R 32768 38912 := fl_J fl_r4_94 (fl_L 38848 fl_b607)
theorem fl_r4_96 : fl_R 32768 38976 := fl_J fl_r4_95 (fl_L 38912 fl_b608)
theorem fl_r4_97 : fl_R 32768 39040 := fl_J fl_r4_96 (fl_L 38976 fl_b609)
theorem fl_r4_98 : fl_R 32768 39104 := fl_J fl_r4_97 (fl_L 39040 fl_b610)
theorem fl_r4_99 : fl_R 32768 39168 := fl_J fl_r4_98 (fl_L 39104 fl_b611)
theorem fl_r4_100 : fl_R 32768 39232 := fl_J fl_r4_99 (fl_L 39168 fl_b612)
theorem fl_r4_101 : fl_R 32768 39296 := fl_J fl_r4_100 (fl_L 39232 fl_b613)
theorem fl_r4_102 : fl_R 32768 39360 := fl_J fl_r4_101 (fl_L 39296 fl_b614)
theorem fl_r4_103 : fl_R 32768 39424 := fl_J fl_r4_102 (fl_L 39360 fl_b615)
theorem fl_r4_104 : fl_R 32768 39488 := fl_J fl_r4_103 (fl_L 39424 fl_b616)
theorem fl_r4_105 : fl_R 32768 39552 := fl_J fl_r4_104 (fl_L 39488 fl_b617)
theorem fl_r4_106 : fl_R 32768 39616 := fl_J fl_r4_105 (fl_L 39552 fl_b618)
theorem fl_r4_107 : fl_R 32768 39680 := fl_J fl_r4_106 (fl_L 39616 fl_b619)
theorem fl_r4_108 : fl_R 32768 39744 := fl_J fl_r4_107 (fl_L 39680 fl_b620)
theorem fl_r4_109 : fl_R 32768 39808 := fl_J fl_r4_108 (fl_L 39744 fl_b621)
theorem fl_r4_110 : fl_R 32768 39872 := fl_J fl_r4_109 (fl_L 39808 fl_b622)
theorem fl_r4_111 : fl_R 32768 39936 := fl_J fl_r4_110 (fl_L 39872 fl_b623)
theorem fl_r4_112 : fl_R 32768 40000 := fl_J fl_r4_111 (fl_L 39936 fl_b624)
theorem fl_r4_113 : fl_R 32768 40064 := fl_J fl_r4_112 (fl_L 40000 fl_b625)
theorem fl_r4_114 : fl_R 32768 40128 := fl_J fl_r4_113 (fl_L 40064 fl_b626)
theorem fl_r4_115 : fl_R 32768 40192 := fl_J fl_r4_114 (fl_L 40128 fl_b627)
theorem fl_r4_116 : fl_R 32768 40256 := fl_J fl_r4_115 (fl_L 40192 fl_b628)
theorem fl_r4_117 : fl_R 32768 40320 := fl_J fl_r4_116 (fl_L 40256 fl_b629)
theorem fl_r4_118 : fl_R 32768 40384 := fl_J fl_r4_117 (fl_L 40320 fl_b630)
theorem fl_r4_119 : fl_R 32768 40448 := fl_J fl_r4_118 (fl_L 40384 fl_b631)
theorem fl_r4_120 : fl_R 32768 40512 := fl_J fl_r4_119 (fl_L 40448 fl_b632)
theorem fl_r4_121 : fl_R 32768 40576 := fl_J fl_r4_120 (fl_L 40512 fl_b633)
theorem fl_r4_122 : fl_R 32768 40640 := fl_J fl_r4_121 (fl_L 40576 fl_b634)
theorem fl_r4_123 : fl_R 32768 40704 := fl_J fl_r4_122 (fl_L 40640 fl_b635)
theorem fl_r4_124 : fl_R 32768 40768 := fl_J fl_r4_123 (fl_L 40704 fl_b636)
theorem fl_r4_125 : fl_R 32768 40832 := fl_J fl_r4_124 (fl_L 40768 fl_b637)
theorem fl_r4_126 : fl_R 32768 40896 := fl_J fl_r4_125 (fl_L 40832 fl_b638)
theorem fl_r4_127 : fl_R 32768 40960 := fl_J fl_r4_126 (fl_L 40896 fl_b639)
theorem fl_R4 : fl_R 32768 40960 := fl_r4_127

/-! The reckoning, counts 24576 on. -/
set_option maxRecDepth 100000 in
theorem fl_b384 : n_all n_ok 6 24576 = true := by decide +kernel
set_option maxRecDepth 100000 in
theorem fl_b385 : n_all n_ok 6 24640 = true := by decide +kernel
set_option maxRecDepth 100000 in
theorem fl_b386 : n_all n_ok 6 24704 = true := by decide +kernel
set_option maxRecDepth 100000 in
theorem fl_b387 : n_all n_ok 6 24768 = true := by decide +kernel
set_option maxRecDepth 100000 in
theorem fl_b388 : n_all n_ok 6 24832 = true := by decide +kernel
set_option maxRecDepth 100000 in
theorem fl_b389 : n_all n_ok 6 24896 = true := by decide +kernel
set_option maxRecDepth 100000 in
theorem fl_b390 : n_all n_ok 6 24960 = true := by decide +kernel
set_option maxRecDepth 100000 in
theorem fl_b391 : n_all n_ok 6 25024 = true := by decide +kernel
set_option maxRecDepth 100000 in
theorem fl_b392 : n_all n_ok 6 25088 = true := by decide +kernel
set_option maxRecDepth 100000 in
theorem fl_b393 : n_all n_ok 6 25152 = true := by decide +kernel
set_option maxRecDepth 100000 in
theorem fl_b394 : n_all n_ok 6 25216 = true := by decide +kernel
set_option maxRecDepth 100000 in
theorem fl_b395 : n_all n_ok 6 25280 = true := by decide +kernel
set_option maxRecDepth 100000 in
theorem fl_b396 : n_all n_ok 6 25344 = true := by decide +kernel
set_option maxRecDepth 100000 in
theorem fl_b397 : n_all n_ok 6 25408 = true := by decide +kernel
set_option maxRecDepth 100000 in
theorem fl_b398 : n_all n_ok 6 25472 = true := by decide +kernel
set_option maxRecDepth 100000 in
theorem fl_b399 : n_all n_ok 6 25536 = true := by decide +kernel
set_option maxRecDepth 100000 in
theorem fl_b400 : n_all n_ok 6 25600 = true := by decide +kernel
set_option maxRecDepth 100000 in
theorem fl_b401 : n_all n_ok 6 25664 = true := by decide +kernel
set_option maxRecDepth 100000 in
theorem fl_b402 : n_all n_ok 6 25728 = true := by decide +kernel
set_option maxRecDepth 100000 in
theorem fl_b403 : n_all n_ok 6 25792 = true := by decide +kernel
set_option maxRecDepth 100000 in
theorem fl_b404 : n_all n_ok 6 25856 = true := by decide +kernel
set_option maxRecDepth 100000 in
theorem fl_b405 : n_all n_ok 6 25920 = true := by decide +kernel
set_option maxRecDepth 100000 in
theorem fl_b406 : n_all n_ok 6 25984 = true := by decide +kernel
set_option maxRecDepth 100000 in
theorem fl_b407 : n_all n_ok 6 26048 = true := by decide +kernel
set_option maxRecDepth 100000 in
theorem fl_b408 : n_all n_ok 6 26112 = true := by decide +kernel
set_option maxRecDepth 100000 in
theorem fl_b409 : n_all n_ok 6 26176 = true := by decide +kernel
set_option maxRecDepth 100000 in
theorem fl_b410 : n_all n_ok 6 26240 = true := by decide +kernel
set_option maxRecDepth 100000 in
theorem fl_b411 : n_all n_ok 6 26304 = true := by decide +kernel
set_option maxRecDepth 100000 in
theorem fl_b412 : n_all n_ok 6 26368 = true := by decide +kernel
set_option maxRecDepth 100000 in
theorem fl_b413 : n_all n_ok 6 26432 = true := by decide +kernel
set_option maxRecDepth 100000 in
theorem fl_b414 : n_all n_ok 6 26496 = true := by decide +kernel
set_option maxRecDepth 100000 in
theorem fl_b415 : n_all n_ok 6 26560 = true := by decide +kernel
set_option maxRecDepth 100000 in
theorem fl_b416 : n_all n_ok 6 26624 = true := by decide +kernel
set_option maxRecDepth 100000 in
theorem fl_b417 : n_all n_ok 6 26688 = true := by decide +kernel
set_option maxRecDepth 100000 in
theorem fl_b418 : n_all n_ok 6 26752 = true := by decide +kernel
set_option maxRecDepth 100000 in
theorem fl_b419 : n_all n_ok 6 26816 = true := by decide +kernel
set_option maxRecDepth 100000 in
theorem fl_b420 : n_all n_ok 6 26880 = true := by decide +kernel
set_option maxRecDepth 100000 in
theorem fl_b421 : n_all n_ok 6 26944 = true := by decide +kernel
set_option maxRecDepth 100000 in
theorem fl_b422 : n_all n_ok 6 27008 = true := by decide +kernel
set_option maxRecDepth 100000 in
theorem fl_b423 : n_all n_ok 6 27072 = true := by decide +kernel
set_option maxRecDepth 100000 in
theorem fl_b424 : n_all n_ok 6 27136 = true := by decide +kernel
set_option maxRecDepth 100000 in
theorem fl_b425 : n_all n_ok 6 27200 = true := by decide +kernel
set_option maxRecDepth 100000 in
theorem fl_b426 : n_all n_ok 6 27264 = true := by decide +kernel
set_option maxRecDepth 100000 in
theorem fl_b427 : n_all n_ok 6 27328 = true := by decide +kernel
set_option maxRecDepth 100000 in
theorem fl_b428 : n_all n_ok 6 27392 = true := by decide +kernel
set_option maxRecDepth 100000 in
theorem fl_b429 : n_all n_ok 6 27456 = true := by decide +kernel
set_option maxRecDepth 100000 in
theorem fl_b430 : n_all n_ok 6 27520 = true := by decide +kernel
set_option maxRecDepth 100000 in
theorem fl_b431 : n_all n_ok 6 27584 = true := by decide +kernel
set_option maxRecDepth 100000 in
theorem fl_b432 : n_all n_ok 6 27648 = true := by decide +kernel
set_option maxRecDepth 100000 in
theorem fl_b433 : n_all n_ok 6 27712 = true := by decide +kernel
set_option maxRecDepth 100000 in
theorem fl_b434 : n_all n_ok 6 27776 = true := by decide +kernel
set_option maxRecDepth 100000 in
theorem fl_b435 : n_all n_ok 6 27840 = true := by decide +kernel
set_option maxRecDepth 100000 in
theorem fl_b436 : n_all n_ok 6 27904 = true := by decide +kernel
set_option maxRecDepth 100000 in
theorem fl_b437 : n_all n_ok 6 27968 = true := by decide +kernel
set_option maxRecDepth 100000 in
theorem fl_b438 : n_all n_ok 6 28032 = true := by decide +kernel
set_option maxRecDepth 100000 in
theorem fl_b439 : n_all n_ok 6 28096 = true := by decide +kernel
set_option maxRecDepth 100000 in
theorem fl_b440 : n_all n_ok 6 28160 = true := by decide +kernel
set_option maxRecDepth 100000 in
theorem fl_b441 : n_all n_ok 6 28224 = true := by decide +kernel
set_option maxRecDepth 100000 in
theorem fl_b442 : n_all n_ok 6 28288 = true := by decide +kernel
set_option maxRecDepth 100000 in
theorem fl_b443 : n_all n_ok 6 28352 = true := by decide +kernel
set_option maxRecDepth 100000 in
theorem fl_b444 : n_all n_ok 6 28416 = true := by decide +kernel
set_option maxRecDepth 100000 in
theorem fl_b445 : n_all n_ok 6 28480 = true := by decide +kernel
set_option maxRecDepth 100000 in
theorem fl_b446 : n_all n_ok 6 28544 = true := by decide +kernel
set_option maxRecDepth 100000 in
theorem fl_b447 : n_all n_ok 6 28608 = true := by decide +kernel
set_option maxRecDepth 100000 in
theorem fl_b448 : n_all n_ok 6 28672 = true := by decide +kernel
set_option maxRecDepth 100000 in
theorem fl_b449 : n_all n_ok 6 28736 = true := by decide +kernel
set_option maxRecDepth 100000 in
theorem fl_b450 : n_all n_ok 6 28800 = true := by decide +kernel
set_option maxRecDepth 100000 in
theorem fl_b451 : n_all n_ok 6 28864 = true := by decide +kernel
set_option maxRecDepth 100000 in
theorem fl_b452 : n_all n_ok 6 28928 = true := by decide +kernel
set_option maxRecDepth 100000 in
theorem fl_b453 : n_all n_ok 6 28992 = true := by decide +kernel
set_option maxRecDepth 100000 in
theorem fl_b454 : n_all n_ok 6 29056 = true := by decide +kernel
set_option maxRecDepth 100000 in
theorem fl_b455 : n_all n_ok 6 29120 = true := by decide +kernel
set_option maxRecDepth 100000 in
theorem fl_b456 : n_all n_ok 6 29184 = true := by decide +kernel
set_option maxRecDepth 100000 in
theorem fl_b457 : n_all n_ok 6 29248 = true := by decide +kernel
set_option maxRecDepth 100000 in
theorem fl_b458 : n_all n_ok 6 29312 = true := by decide +kernel
set_option maxRecDepth 100000 in
theorem fl_b459 : n_all n_ok 6 29376 = true := by decide +kernel
set_option maxRecDepth 100000 in
theorem fl_b460 : n_all n_ok 6 29440 = true := by decide +kernel
set_option maxRecDepth 100000 in
theorem fl_b461 : n_all n_ok 6 29504 = true := by decide +kernel
set_option maxRecDepth 100000 in
theorem fl_b462 : n_all n_ok 6 29568 = true := by decide +kernel
set_option maxRecDepth 100000 in
theorem fl_b463 : n_all n_ok 6 29632 = true := by decide +kernel
set_option maxRecDepth 100000 in
theorem fl_b464 : n_all n_ok 6 29696 = true := by decide +kernel
set_option maxRecDepth 100000 in
theorem fl_b465 : n_all n_ok 6 29760 = true := by decide +kernel
set_option maxRecDepth 100000 in
theorem fl_b466 : n_all n_ok 6 29824 = true := by decide +kernel
set_option maxRecDepth 100000 in
theorem fl_b467 : n_all n_ok 6 29888 = true := by decide +kernel
set_option maxRecDepth 100000 in
theorem fl_b468 : n_all n_ok 6 29952 = true := by decide +kernel
set_option maxRecDepth 100000 in
theorem fl_b469 : n_all n_ok 6 30016 = true := by decide +kernel
set_option maxRecDepth 100000 in
theorem fl_b470 : n_all n_ok 6 30080 = true := by decide +kernel
set_option maxRecDepth 100000 in
theorem fl_b471 : n_all n_ok 6 30144 = true := by decide +kernel
set_option maxRecDepth 100000 in
theorem fl_b472 : n_all n_ok 6 30208 = true := by decide +kernel
set_option maxRecDepth 100000 in
theorem fl_b473 : n_all n_ok 6 30272 = true := by decide +kernel
set_option maxRecDepth 100000 in
theorem fl_b474 : n_all n_ok 6 30336 = true := by decide +kernel
set_option maxRecDepth 100000 in
theorem fl_b475 : n_all n_ok 6 30400 = true := by decide +kernel
set_option maxRecDepth 100000 in
theorem fl_b476 : n_all n_ok 6 30464 = true := by decide +kernel
set_option maxRecDepth 100000 in
theorem fl_b477 : n_all n_ok 6 30528 = true := by decide +kernel
set_option maxRecDepth 100000 in
theorem fl_b478 : n_all n_ok 6 30592 = true := by decide +kernel
set_option maxRecDepth 100000 in
theorem fl_b479 : n_all n_ok 6 30656 = true := by decide +kernel
set_option maxRecDepth 100000 in
theorem fl_b480 : n_all n_ok 6 30720 = true := by decide +kernel
set_option maxRecDepth 100000 in
theorem fl_b481 : n_all n_ok 6 30784 = true := by decide +kernel
set_option maxRecDepth 100000 in
theorem fl_b482 : n_all n_ok 6 30848 = true := by decide +kernel
set_option maxRecDepth 100000 in
theorem fl_b483 : n_all n_ok 6 30912 = true := by decide +kernel
set_option maxRecDepth 100000 in
theorem fl_b484 : n_all n_ok 6 30976 = true := by decide +kernel
set_option maxRecDepth 100000 in
theorem fl_b485 : n_all n_ok 6 31040 = true := by decide +kernel
set_option maxRecDepth 100000 in
theorem fl_b486 : n_all n_ok 6 31104 = true := by decide +kernel
set_option maxRecDepth 100000 in
theorem fl_b487 : n_all n_ok 6 31168 = true := by decide +kernel
set_option maxRecDepth 100000 in
theorem fl_b488 : n_all n_ok 6 31232 = true := by decide +kernel
set_option maxRecDepth 100000 in
theorem fl_b489 : n_all n_ok 6 31296 = true := by decide +kernel
set_option maxRecDepth 100000 in
theorem fl_b490 : n_all n_ok 6 31360 = true := by decide +kernel
set_option maxRecDepth 100000 in
theorem fl_b491 : n_all n_ok 6 31424 = true := by decide +kernel
set_option maxRecDepth 100000 in
theorem fl_b492 : n_all n_ok 6 31488 = true := by decide +kernel
set_option maxRecDepth 100000 in
theorem fl_b493 : n_all n_ok 6 31552 = true := by decide +kernel
set_option maxRecDepth 100000 in
theorem fl_b494 : n_all n_ok 6 31616 = true := by decide +kernel
set_option maxRecDepth 100000 in
theorem fl_b495 : n_all n_ok 6 31680 = true := by decide +kernel
set_option maxRecDepth 100000 in
theorem fl_b496 : n_all n_ok 6 31744 = true := by decide +kernel
set_option maxRecDepth 100000 in
theorem fl_b497 : n_all n_ok 6 31808 = true := by decide +kernel
set_option maxRecDepth 100000 in
theorem fl_b498 : n_all n_ok 6 31872 = true := by decide +kernel
set_option maxRecDepth 100000 in
theorem fl_b499 : n_all n_ok 6 31936 = true := by decide +kernel
set_option maxRecDepth 100000 in
theorem fl_b500 : n_all n_ok 6 32000 = true := by decide +kernel
set_option maxRecDepth 100000 in
theorem fl_b501 : n_all n_ok 6 32064 = true := by decide +kernel
set_option maxRecDepth 100000 in
theorem fl_b502 : n_all n_ok 6 32128 = true := by decide +kernel
set_option maxRecDepth 100000 in
theorem fl_b503 : n_all n_ok 6 32192 = true := by decide +kernel
set_option maxRecDepth 100000 in
theorem fl_b504 : n_all n_ok 6 32256 = true := by decide +kernel
set_option maxRecDepth 100000 in
theorem fl_b505 : n_all n_ok 6 32320 = true := by decide +kernel
set_option maxRecDepth 100000 in
theorem fl_b506 : n_all n_ok 6 32384 = true := by decide +kernel
set_option maxRecDepth 100000 in
theorem fl_b507 : n_all n_ok 6 32448 = true := by decide +kernel
set_option maxRecDepth 100000 in
theorem fl_b508 : n_all n_ok 6 32512 = true := by decide +kernel
set_option maxRecDepth 100000 in
theorem fl_b509 : n_all n_ok 6 32576 = true := by decide +kernel
set_option maxRecDepth 100000 in
theorem fl_b510 : n_all n_ok 6 32640 = true := by decide +kernel
set_option maxRecDepth 100000 in
theorem fl_b511 : n_all n_ok 6 32704 = true := by decide +kernel
theorem fl_r3_0 : fl_R 24576 24640 := fl_L 24576 fl_b384
theorem fl_r3_1 : fl_R 24576 24704 := fl_J fl_r3_0 (fl_L 24640 fl_b385)
theorem fl_r3_2 : fl_R 24576 24768 := fl_J fl_r3_1 (fl_L 24704 fl_b386)
theorem fl_r3_3 : fl_R 24576 24832 := fl_J fl_r3_2 (fl_L 24768 fl_b387)
theorem fl_r3_4 : fl_R 24576 24896 := fl_J fl_r3_3 (fl_L 24832 fl_b388)
theorem fl_r3_5 : fl_R 24576 24960 := fl_J fl_r3_4 (fl_L 24896 fl_b389)
theorem fl_r3_6 : fl_R 24576 25024 := fl_J fl_r3_5 (fl_L 24960 fl_b390)
theorem fl_r3_7 : fl_R 24576 25088 := fl_J fl_r3_6 (fl_L 25024 fl_b391)
theorem fl_r3_8 : fl_R 24576 25152 := fl_J fl_r3_7 (fl_L 25088 fl_b392)
theorem fl_r3_9 : fl_R 24576 25216 := fl_J fl_r3_8 (fl_L 25152 fl_b393)
theorem fl_r3_10 : fl_R 24576 25280 := fl_J fl_r3_9 (fl_L 25216 fl_b394)
theorem fl_r3_11 : fl_R 24576 25344 := fl_J fl_r3_10 (fl_L 25280 fl_b395)
theorem fl_r3_12 : fl_R 24576 25408 := fl_J fl_r3_11 (fl_L 25344 fl_b396)
theorem fl_r3_13 : fl_R 24576 25472 := fl_J fl_r3_12 (fl_L 25408 fl_b397)
theorem fl_r3_14 : fl_R 24576 25536 := fl_J fl_r3_13 (fl_L 25472 fl_b398)
theorem fl_r3_15 : fl_R 24576 25600 := fl_J fl_r3_14 (fl_L 25536 fl_b399)
theorem fl_r3_16 : fl_R 24576 25664 := fl_J fl_r3_15 (fl_L 25600 fl_b400)
theorem fl_r3_17 : fl_R 24576 25728 := fl_J fl_r3_16 (fl_L 25664 fl_b401)
theorem fl_r3_18 : fl_R 24576 25792 := fl_J fl_r3_17 (fl_L 25728 fl_b402)
theorem fl_r3_19 : fl_R 24576 25856 := fl_J fl_r3_18 (fl_L 25792 fl_b403)
theorem fl_r3_20 : fl_R 24576 25920 := fl_J fl_r3_19 (fl_L 25856 fl_b404)
theorem fl_r3_21 : fl_R 24576 25984 := fl_J fl_r3_20 (fl_L 25920 fl_b405)
theorem fl_r3_22 : fl_R 24576 26048 := fl_J fl_r3_21 (fl_L 25984 fl_b406)
theorem fl_r3_23 : fl_R 24576 26112 := fl_J fl_r3_22 (fl_L 26048 fl_b407)
theorem fl_r3_24 : fl_R 24576 26176 := fl_J fl_r3_23 (fl_L 26112 fl_b408)
theorem fl_r3_25 : fl_R 24576 26240 := fl_J fl_r3_24 (fl_L 26176 fl_b409)
theorem fl_r3_26 : fl_R 24576 26304 := fl_J fl_r3_25 (fl_L 26240 fl_b410)
theorem fl_r3_27 : fl_R 24576 26368 := fl_J fl_r3_26 (fl_L 26304 fl_b411)
theorem fl_r3_28 : fl_R 24576 26432 := fl_J fl_r3_27 (fl_L 26368 fl_b412)
theorem fl_r3_29 : fl_R 24576 26496 := fl_J fl_r3_28 (fl_L 26432 fl_b413)
theorem fl_r3_30 : fl_R 24576 26560 := fl_J fl_r3_29 (fl_L 26496 fl_b414)
theorem fl_r3_31 : fl_R 24576 26624 := fl_J fl_r3_30 (fl_L 26560 fl_b415)
theorem fl_r3_32 : fl_R 24576 26688 := fl_J fl_r3_31 (fl_L 26624 fl_b416)
theorem fl_r3_33 : fl_R 24576 26752 := fl_J fl_r3_32 (fl_L 26688 fl_b417)
theorem fl_r3_34 : fl_R 24576 26816 := fl_J fl_r3_33 (fl_L 26752 fl_b418)
theorem fl_r3_35 : fl_R 24576 26880 := fl_J fl_r3_34 (fl_L 26816 fl_b419)
theorem fl_r3_36 : fl_R 24576 26944 := fl_J fl_r3_35 (fl_L 26880 fl_b420)
theorem fl_r3_37 : fl_R 24576 27008 := fl_J fl_r3_36 (fl_L 26944 fl_b421)
theorem fl_r3_38 : fl_R 24576 27072 := fl_J fl_r3_37 (fl_L 27008 fl_b422)
theorem fl_r3_39 : fl_R 24576 27136 := fl_J fl_r3_38 (fl_L 27072 fl_b423)
theorem fl_r3_40 : fl_R 24576 27200 := fl_J fl_r3_39 (fl_L 27136 fl_b424)
theorem fl_r3_41 : fl_R 24576 27264 := fl_J fl_r3_40 (fl_L 27200 fl_b425)
theorem fl_r3_42 : fl_R 24576 27328 := fl_J fl_r3_41 (fl_L 27264 fl_b426)
theorem fl_r3_43 : fl_R 24576 27392 := fl_J fl_r3_42 (fl_L 27328 fl_b427)
theorem fl_r3_44 : fl_R 24576 27456 := fl_J fl_r3_43 (fl_L 27392 fl_b428)
theorem fl_r3_45 : fl_R 24576 27520 := fl_J fl_r3_44 (fl_L 27456 fl_b429)
theorem fl_r3_46 : fl_R 24576 27584 := fl_J fl_r3_45 (fl_L 27520 fl_b430)
theorem fl_r3_47 : fl_R 24576 27648 := fl_J fl_r3_46 (fl_L 27584 fl_b431)
theorem fl_r3_48 : fl_R 24576 27712 := fl_J fl_r3_47 (fl_L 27648 fl_b432)
theorem fl_r3_49 : fl_R 24576 27776 := fl_J fl_r3_48 (fl_L 27712 fl_b433)
theorem fl_r3_50 : fl_R 24576 27840 := fl_J fl_r3_49 (fl_L 27776 fl_b434)
theorem fl_r3_51 : fl_R 24576 27904 := fl_J fl_r3_50 (fl_L 27840 fl_b435)
theorem fl_r3_52 : fl_R 24576 27968 := fl_J fl_r3_51 (fl_L 27904 fl_b436)
theorem fl_r3_53 : fl_R 24576 28032 := fl_J fl_r3_52 (fl_L 27968 fl_b437)
theorem fl_r3_54 : fl_R 24576 28096 := fl_J fl_r3_53 (fl_L 28032 fl_b438)
theorem fl_r3_55 : fl_R 24576 28160 := fl_J fl_r3_54 (fl_L 28096 fl_b439)
theorem fl_r3_56 : fl_R 24576 28224 := fl_J fl_r3_55 (fl_L 28160 fl_b440)
theorem fl_r3_57 : fl_R 24576 28288 := fl_J fl_r3_56 (fl_L 28224 fl_b441)
theorem fl_r3_58 : fl_R 24576 28352 := fl_J fl_r3_57 (fl_L 28288 fl_b442)
theorem fl_r3_59 : fl_R 24576 28416 := fl_J fl_r3_58 (fl_L 28352 fl_b443)
theorem fl_r3_60 : fl_R 24576 28480 := fl_J fl_r3_59 (fl_L 28416 fl_b444)
theorem fl_r3_61 : fl_R 24576 28544 := fl_J fl_r3_60 (fl_L 28480 fl_b445)
theorem fl_r3_62 : fl_R 24576 28608 := fl_J fl_r3_61 (fl_L 28544 fl_b446)
theorem fl_r3_63 : fl_R 24576 28672 := fl_J fl_r3_62 (fl_L 28608 fl_b447)
theorem fl_r3_64 : fl_R 24576 28736 := fl_J fl_r3_63 (fl_L 28672 fl_b448)
theorem fl_r3_65 : fl_R 24576 28800 := fl_J fl_r3_64 (fl_L 28736 fl_b449)
theorem fl_r3_66 : fl_R 24576 28864 := fl_J fl_r3_65 (fl_L 28800 fl_b450)
theorem fl_r3_67 : fl_R 24576 28928 := fl_J fl_r3_66 (fl_L 28864 fl_b451)
theorem fl_r3_68 : fl_R 24576 28992 := fl_J fl_r3_67 (fl_L 28928 fl_b452)
theorem fl_r3_69 : fl_R 24576 29056 := fl_J fl_r3_68 (fl_L 28992 fl_b453)
theorem fl_r3_70 : fl_R 24576 29120 := fl_J fl_r3_69 (fl_L 29056 fl_b454)
theorem fl_r3_71 : fl_R 24576 29184 := fl_J fl_r3_70 (fl_L 29120 fl_b455)
theorem fl_r3_72 : fl_R 24576 29248 := fl_J fl_r3_71 (fl_L 29184 fl_b456)
theorem fl_r3_73 : fl_R 24576 29312 := fl_J fl_r3_72 (fl_L 29248 fl_b457)
theorem fl_r3_74 : fl_R 24576 29376 := fl_J fl_r3_73 (fl_L 29312 fl_b458)
theorem fl_r3_75 : fl_R 24576 29440 := fl_J fl_r3_74 (fl_L 29376 fl_b459)
theorem fl_r3_76 : fl_R 24576 29504 := fl_J fl_r3_75 (fl_L 29440 fl_b460)
theorem fl_r3_77 : fl_R 24576 29568 := fl_J fl_r3_76 (fl_L 29504 fl_b461)
theorem fl_r3_78 : fl_R 24576 29632 := fl_J fl_r3_77 (fl_L 29568 fl_b462)
theorem fl_r3_79 : fl_R 24576 29696 := fl_J fl_r3_78 (fl_L 29632 fl_b463)
theorem fl_r3_80 : fl_R 24576 29760 := fl_J fl_r3_79 (fl_L 29696 fl_b464)
theorem fl_r3_81 : fl_R 24576 29824 := fl_J fl_r3_80 (fl_L 29760 fl_b465)
theorem fl_r3_82 : fl_R 24576 29888 := fl_J fl_r3_81 (fl_L 29824 fl_b466)
theorem fl_r3_83 : fl_R 24576 29952 := fl_J fl_r3_82 (fl_L 29888 fl_b467)
theorem fl_r3_84 : fl_R 24576 30016 := fl_J fl_r3_83 (fl_L 29952 fl_b468)
theorem fl_r3_85 : fl_R 24576 30080 := fl_J fl_r3_84 (fl_L 30016 fl_b469)
theorem fl_r3_86 : fl_R 24576 30144 := fl_J fl_r3_85 (fl_L 30080 fl_b470)
theorem fl_r3_87 : fl_R 24576 30208 := fl_J fl_r3_86 (fl_L 30144 fl_b471)
theorem fl_r3_88 : fl_R 24576 30272 := fl_J fl_r3_87 (fl_L 30208 fl_b472)
theorem fl_r3_89 : fl_R 24576 30336 := fl_J fl_r3_88 (fl_L 30272 fl_b473)
theorem fl_r3_90 : fl_R 24576 30400 := fl_J fl_r3_89 (fl_L 30336 fl_b474)
theorem fl_r3_91 : fl_R 24576 30464 := fl_J fl_r3_90 (fl_L 30400 fl_b475)
theorem fl_r3_92 : fl_R 24576 30528 := fl_J fl_r3_91 (fl_L 30464 fl_b476)
theorem fl_r3_93 : fl_R 24576 30592 := fl_J fl_r3_92 (fl_L 30528 fl_b477)
theorem fl_r3_94 : fl_R 24576 30656 := fl_J fl_r3_93 (fl_L 30592 fl_b478)
theorem fl_r3_95 : fl_R 24576 30720 := fl_J fl_r3_94 (fl_L 30656 fl_b479)
theorem fl_r3_96 : fl_R 24576 30784 := fl_J fl_r3_95 (fl_L 30720 fl_b480)
theorem fl_r3_97 : fl_R 24576 30848 := fl_J fl_r3_96 (fl_L 30784 fl_b481)
theorem fl_r3_98 : fl_R 24576 30912 := fl_J fl_r3_97 (fl_L 30848 fl_b482)
theorem fl_r3_99 : fl_R 24576 30976 := fl_J fl_r3_98 (fl_L 30912 fl_b483)
theorem fl_r3_100 : fl_R 24576 31040 := fl_J fl_r3_99 (fl_L 30976 fl_b484)
theorem fl_r3_101 : fl_R 24576 31104 := fl_J fl_r3_100 (fl_L 31040 fl_b485)
theorem fl_r3_102 : fl_R 24576 31168 := fl_J fl_r3_101 (fl_L 31104 fl_b486)
theorem fl_r3_103 : fl_R 24576 31232 := fl_J fl_r3_102 (fl_L 31168 fl_b487)
theorem fl_r3_104 : fl_R 24576 31296 := fl_J fl_r3_103 (fl_L 31232 fl_b488)
theorem fl_r3_105 : fl_R 24576 31360 := fl_J fl_r3_104 (fl_L 31296 fl_b489)
theorem fl_r3_106 : fl_R 24576 31424 := fl_J fl_r3_105 (fl_L 31360 fl_b490)
theorem fl_r3_107 : fl_R 24576 31488 := fl_J fl_r3_106 (fl_L 31424 fl_b491)
theorem fl_r3_108 : fl_R 24576 31552 := fl_J fl_r3_107 (fl_L 31488 fl_b492)
theorem fl_r3_109 : fl_R 24576 31616 := fl_J fl_r3_108 (fl_L 31552 fl_b493)
theorem fl_r3_110 : fl_R 24576 31680 := fl_J fl_r3_109 (fl_L 31616 fl_b494)
theorem fl_r3_111 : fl_R 24576 31744 := fl_J fl_r3_110 (fl_L 31680 fl_b495)
theorem fl_r3_112 : fl_R 24576 31808 := fl_J fl_r3_111 (fl_L 31744 fl_b496)
theorem fl_r3_113 : fl_R 24576 31872 := fl_J fl_r3_112 (fl_L 31808 fl_b497)
theorem fl_r3_114 : fl_R 24576 31936 := fl_J fl_r3_113 (fl_L 31872 fl_b498)
theorem fl_r3_115 : fl_R 24576 32000 := fl_J fl_r3_114 (fl_L 31936 fl_b499)
theorem fl_r3_116 : fl_R 24576 32064 := fl_J fl_r3_115 (fl_L 32000 fl_b500)
theorem fl_r3_117 : fl_R 24576 32128 := fl_J fl_r3_116 (fl_L 32064 fl_b501)
theorem fl_r3_118 : fl_R 24576 32192 := fl_J fl_r3_117 (fl_L 32128 fl_b502)
theorem fl_r3_119 : fl_R 24576 32256 := fl_J fl_r3_118 (fl_L 32192 fl_b503)
theorem fl_r3_120 : fl_R 24576 32320 := fl_J fl_r3_119 (fl_L 32256 fl_b504)
theorem fl_r3_121 : fl_R 24576 32384 := fl_J fl_r3_120 (fl_L 32320 fl_b505)
theorem fl_r3_122 : fl_R 24576 32448 := fl_J fl_r3_121 (fl_L 32384 fl_b506)
theorem fl_r3_123 : fl_R 24576 32512 := fl_J fl_r3_122 (fl_L 32448 fl_b507)
theorem fl_r3_124 : fl_R 24576 32576 := fl_J fl_r3_123 (fl_L 32512 fl_b508)
theorem fl_r3_125 : fl_R 24576 32640 := fl_J fl_r3_124 (fl_L 32576 fl_b509)
theorem fl_r3_126 : fl_R 24576 32704 := fl_J fl_r3_125 (fl_L 32640 fl_b510)
theorem fl_r3_127 : fl_R 24576 32768 := fl_J fl_r3_126 (fl_L 32704 fl_b511)
theorem fl_R3 : fl_R 24576 32768 := fl_r3_127

/-! The reckoning, counts 0 on. -/
set_option maxRecDepth 100000 in
theorem fl_b0 : n_all n_ok 6 0 = true := by decide +kernel
set_option maxRecDepth 100000 in
theorem fl_b1 : n_all n_ok 6 64 = true := by decide +kernel
set_option maxRecDepth 100000 in
theorem fl_b2 : n_all n_ok 6 128 = true := by decide +kernel
set_option maxRecDepth 100000 in
theorem fl_b3 : n_all n_ok 6 192 = true := by decide +kernel
set_option maxRecDepth 100000 in
theorem fl_b4 : n_all n_ok 6 256 = true := by decide +kernel
set_option maxRecDepth 100000 in
theorem fl_b5 : n_all n_ok 6 320 = true := by decide +kernel
set_option maxRecDepth 100000 in
theorem fl_b6 : n_all n_ok 6 384 = true := by decide +kernel
set_option maxRecDepth 100000 in
theorem fl_b7 : n_all n_ok 6 448 = true := by decide +kernel
set_option maxRecDepth 100000 in
theorem fl_b8 : n_all n_ok 6 512 = true := by decide +kernel
set_option maxRecDepth 100000 in
theorem fl_b9 : n_all n_ok 6 576 = true := by decide +kernel
set_option maxRecDepth 100000 in
theorem fl_b10 : n_all n_ok 6 640 = true := by decide +kernel
set_option maxRecDepth 100000 in
theorem fl_b11 : n_all n_ok 6 704 = true := by decide +kernel
set_option maxRecDepth 100000 in
theorem fl_b12 : n_all n_ok 6 768 = true := by decide +kernel
set_option maxRecDepth 100000 in
theorem fl_b13 : n_all n_ok 6 832 = true := by decide +kernel
set_option maxRecDepth 100000 in
theorem fl_b14 : n_all n_ok 6 896 = true := by decide +kernel
set_option maxRecDepth 100000 in
theorem fl_b15 : n_all n_ok 6 960 = true := by decide +kernel
set_option maxRecDepth 100000 in
theorem fl_b16 : n_all n_ok 6 1024 = true := by decide +kernel
set_option maxRecDepth 100000 in
theorem fl_b17 : n_all n_ok 6 1088 = true := by decide +kernel
set_option maxRecDepth 100000 in
theorem fl_b18 : n_all n_ok 6 1152 = true := by decide +kernel
set_option maxRecDepth 100000 in
theorem fl_b19 : n_all n_ok 6 1216 = true := by decide +kernel
set_option maxRecDepth 100000 in
theorem fl_b20 : n_all n_ok 6 1280 = true := by decide +kernel
set_option maxRecDepth 100000 in
theorem fl_b21 : n_all n_ok 6 1344 = true := by decide +kernel
set_option maxRecDepth 100000 in
theorem fl_b22 : n_all n_ok 6 1408 = true := by decide +kernel
set_option maxRecDepth 100000 in
theorem fl_b23 : n_all n_ok 6 1472 = true := by decide +kernel
set_option maxRecDepth 100000 in
theorem fl_b24 : n_all n_ok 6 1536 = true := by decide +kernel
set_option maxRecDepth 100000 in
theorem fl_b25 : n_all n_ok 6 1600 = true := by decide +kernel
set_option maxRecDepth 100000 in
theorem fl_b26 : n_all n_ok 6 1664 = true := by decide +kernel
set_option maxRecDepth 100000 in
theorem fl_b27 : n_all n_ok 6 1728 = true := by decide +kernel
set_option maxRecDepth 100000 in
theorem fl_b28 : n_all n_ok 6 1792 = true := by decide +kernel
set_option maxRecDepth 100000 in
theorem fl_b29 : n_all n_ok 6 1856 = true := by decide +kernel
set_option maxRecDepth 100000 in
theorem fl_b30 : n_all n_ok 6 1920 = true := by decide +kernel
set_option maxRecDepth 100000 in
theorem fl_b31 : n_all n_ok 6 1984 = true := by decide +kernel
set_option maxRecDepth 100000 in
theorem fl_b32 : n_all n_ok 6 2048 = true := by decide +kernel
set_option maxRecDepth 100000 in
theorem fl_b33 : n_all n_ok 6 2112 = true := by decide +kernel
set_option maxRecDepth 100000 in
theorem fl_b34 : n_all n_ok 6 2176 = true := by decide +kernel
set_option maxRecDepth 100000 in
theorem fl_b35 : n_all n_ok 6 2240 = true := by decide +kernel
set_option maxRecDepth 100000 in
theorem fl_b36 : n_all n_ok 6 2304 = true := by decide +kernel
set_option maxRecDepth 100000 in
theorem fl_b37 : n_all n_ok 6 2368 = true := by decide +kernel
set_option maxRecDepth 100000 in
theorem fl_b38 : n_all n_ok 6 2432 = true := by decide +kernel
set_option maxRecDepth 100000 in
theorem fl_b39 : n_all n_ok 6 2496 = true := by decide +kernel
set_option maxRecDepth 100000 in
theorem fl_b40 : n_all n_ok 6 2560 = true := by decide +kernel
set_option maxRecDepth 100000 in
theorem fl_b41 : n_all n_ok 6 2624 = true := by decide +kernel
set_option maxRecDepth 100000 in
theorem fl_b42 : n_all n_ok 6 2688 = true := by decide +kernel
set_option maxRecDepth 100000 in
theorem fl_b43 : n_all n_ok 6 2752 = true := by decide +kernel
set_option maxRecDepth 100000 in
theorem fl_b44 : n_all n_ok 6 2816 = true := by decide +kernel
set_option maxRecDepth 100000 in
theorem fl_b45 : n_all n_ok 6 2880 = true := by decide +kernel
set_option maxRecDepth 100000 in
theorem fl_b46 : n_all n_ok 6 2944 = true := by decide +kernel
set_option maxRecDepth 100000 in
theorem fl_b47 : n_all n_ok 6 3008 = true := by decide +kernel
set_option maxRecDepth 100000 in
theorem fl_b48 : n_all n_ok 6 3072 = true := by decide +kernel
set_option maxRecDepth 100000 in
theorem fl_b49 : n_all n_ok 6 3136 = true := by decide +kernel
set_option maxRecDepth 100000 in
theorem fl_b50 : n_all n_ok 6 3200 = true := by decide +kernel
set_option maxRecDepth 100000 in
theorem fl_b51 : n_all n_ok 6 3264 = true := by decide +kernel
set_option maxRecDepth 100000 in
theorem fl_b52 : n_all n_ok 6 3328 = true := by decide +kernel
set_option maxRecDepth 100000 in
theorem fl_b53 : n_all n_ok 6 3392 = true := by decide +kernel
set_option maxRecDepth 100000 in
theorem fl_b54 : n_all n_ok 6 3456 = true := by decide +kernel
set_option maxRecDepth 100000 in
theorem fl_b55 : n_all n_ok 6 3520 = true := by decide +kernel
set_option maxRecDepth 100000 in
theorem fl_b56 : n_all n_ok 6 3584 = true := by decide +kernel
set_option maxRecDepth 100000 in
theorem fl_b57 : n_all n_ok 6 3648 = true := by decide +kernel
set_option maxRecDepth 100000 in
theorem fl_b58 : n_all n_ok 6 3712 = true := by decide +kernel
set_option maxRecDepth 100000 in
theorem fl_b59 : n_all n_ok 6 3776 = true := by decide +kernel
set_option maxRecDepth 100000 in
theorem fl_b60 : n_all n_ok 6 3840 = true := by decide +kernel
set_option maxRecDepth 100000 in
theorem fl_b61 : n_all n_ok 6 3904 = true := by decide +kernel
set_option maxRecDepth 100000 in
theorem fl_b62 : n_all n_ok 6 3968 = true := by decide +kernel
set_option maxRecDepth 100000 in
theorem fl_b63 : n_all n_ok 6 4032 = true := by decide +kernel
set_option maxRecDepth 100000 in
theorem fl_b64 : n_all n_ok 6 4096 = true := by decide +kernel
set_option maxRecDepth 100000 in
theorem fl_b65 : n_all n_ok 6 4160 = true := by decide +kernel
set_option maxRecDepth 100000 in
theorem fl_b66 : n_all n_ok 6 4224 = true := by decide +kernel
set_option maxRecDepth 100000 in
theorem fl_b67 : n_all n_ok 6 4288 = true := by decide +kernel
set_option maxRecDepth 100000 in
theorem fl_b68 : n_all n_ok 6 4352 = true := by decide +kernel
set_option maxRecDepth 100000 in
theorem fl_b69 : n_all n_ok 6 4416 = true := by decide +kernel
set_option maxRecDepth 100000 in
theorem fl_b70 : n_all n_ok 6 4480 = true := by decide +kernel
set_option maxRecDepth 100000 in
theorem fl_b71 : n_all n_ok 6 4544 = true := by decide +kernel
set_option maxRecDepth 100000 in
theorem fl_b72 : n_all n_ok 6 4608 = true := by decide +kernel
set_option maxRecDepth 100000 in
theorem fl_b73 : n_all n_ok 6 4672 = true := by decide +kernel
set_option maxRecDepth 100000 in
theorem fl_b74 : n_all n_ok 6 4736 = true := by decide +kernel
set_option maxRecDepth 100000 in
theorem fl_b75 : n_all n_ok 6 4800 = true := by decide +kernel
set_option maxRecDepth 100000 in
theorem fl_b76 : n_all n_ok 6 4864 = true := by decide +kernel
set_option maxRecDepth 100000 in
theorem fl_b77 : n_all n_ok 6 4928 = true := by decide +kernel
set_option maxRecDepth 100000 in
theorem fl_b78 : n_all n_ok 6 4992 = true := by decide +kernel
set_option maxRecDepth 100000 in
theorem fl_b79 : n_all n_ok 6 5056 = true := by decide +kernel
set_option maxRecDepth 100000 in
theorem fl_b80 : n_all n_ok 6 5120 = true := by decide +kernel
set_option maxRecDepth 100000 in
theorem fl_b81 : n_all n_ok 6 5184 = true := by decide +kernel
set_option maxRecDepth 100000 in
theorem fl_b82 : n_all n_ok 6 5248 = true := by decide +kernel
set_option maxRecDepth 100000 in
theorem fl_b83 : n_all n_ok 6 5312 = true := by decide +kernel
set_option maxRecDepth 100000 in
theorem fl_b84 : n_all n_ok 6 5376 = true := by decide +kernel
set_option maxRecDepth 100000 in
theorem fl_b85 : n_all n_ok 6 5440 = true := by decide +kernel
set_option maxRecDepth 100000 in
theorem fl_b86 : n_all n_ok 6 5504 = true := by decide +kernel
set_option maxRecDepth 100000 in
theorem fl_b87 : n_all n_ok 6 5568 = true := by decide +kernel
set_option maxRecDepth 100000 in
theorem fl_b88 : n_all n_ok 6 5632 = true := by decide +kernel
set_option maxRecDepth 100000 in
theorem fl_b89 : n_all n_ok 6 5696 = true := by decide +kernel
set_option maxRecDepth 100000 in
theorem fl_b90 : n_all n_ok 6 5760 = true := by decide +kernel
set_option maxRecDepth 100000 in
theorem fl_b91 : n_all n_ok 6 5824 = true := by decide +kernel
set_option maxRecDepth 100000 in
theorem fl_b92 : n_all n_ok 6 5888 = true := by decide +kernel
set_option maxRecDepth 100000 in
theorem fl_b93 : n_all n_ok 6 5952 = true := by decide +kernel
set_option maxRecDepth 100000 in
theorem fl_b94 : n_all n_ok 6 6016 = true := by decide +kernel
set_option maxRecDepth 100000 in
theorem fl_b95 : n_all n_ok 6 6080 = true := by decide +kernel
set_option maxRecDepth 100000 in
theorem fl_b96 : n_all n_ok 6 6144 = true := by decide +kernel
set_option maxRecDepth 100000 in
theorem fl_b97 : n_all n_ok 6 6208 = true := by decide +kernel
set_option maxRecDepth 100000 in
theorem fl_b98 : n_all n_ok 6 6272 = true := by decide +kernel
set_option maxRecDepth 100000 in
theorem fl_b99 : n_all n_ok 6 6336 = true := by decide +kernel
set_option maxRecDepth 100000 in
theorem fl_b100 : n_all n_ok 6 6400 = true := by decide +kernel
set_option maxRecDepth 100000 in
theorem fl_b101 : n_all n_ok 6 6464 = true := by decide +kernel
set_option maxRecDepth 100000 in
theorem fl_b102 : n_all n_ok 6 6528 = true := by decide +kernel
set_option maxRecDepth 100000 in
theorem fl_b103 : n_all n_ok 6 6592 = true := by decide +kernel
set_option maxRecDepth 100000 in
theorem fl_b104 : n_all n_ok 6 6656 = true := by decide +kernel
set_option maxRecDepth 100000 in
theorem fl_b105 : n_all n_ok 6 6720 = true := by decide +kernel
set_option maxRecDepth 100000 in
theorem fl_b106 : n_all n_ok 6 6784 = true := by decide +kernel
set_option maxRecDepth 100000 in
theorem fl_b107 : n_all n_ok 6 6848 = true := by decide +kernel
set_option maxRecDepth 100000 in
theorem fl_b108 : n_all n_ok 6 6912 = true := by decide +kernel
set_option maxRecDepth 100000 in
theorem fl_b109 : n_all n_ok 6 6976 = true := by decide +kernel
set_option maxRecDepth 100000 in
theorem fl_b110 : n_all n_ok 6 7040 = true := by decide +kernel
set_option maxRecDepth 100000 in
theorem fl_b111 : n_all n_ok 6 7104 = true := by decide +kernel
set_option maxRecDepth 100000 in
theorem fl_b112 : n_all n_ok 6 7168 = true := by decide +kernel
set_option maxRecDepth 100000 in
theorem fl_b113 : n_all n_ok 6 7232 = true := by decide +kernel
set_option maxRecDepth 100000 in
theorem fl_b114 : n_all n_ok 6 7296 = true := by decide +kernel
set_option maxRecDepth 100000 in
theorem fl_b115 : n_all n_ok 6 7360 = true := by decide +kernel
set_option maxRecDepth 100000 in
theorem fl_b116 : n_all n_ok 6 7424 = true := by decide +kernel
set_option maxRecDepth 100000 in
theorem fl_b117 : n_all n_ok 6 7488 = true := by decide +kernel
set_option maxRecDepth 100000 in
theorem fl_b118 : n_all n_ok 6 7552 = true := by decide +kernel
set_option maxRecDepth 100000 in
theorem fl_b119 : n_all n_ok 6 7616 = true := by decide +kernel
set_option maxRecDepth 100000 in
theorem fl_b120 : n_all n_ok 6 7680 = true := by decide +kernel
set_option maxRecDepth 100000 in
theorem fl_b121 : n_all n_ok 6 7744 = true := by decide +kernel
set_option maxRecDepth 100000 in
theorem fl_b122 : n_all n_ok 6 7808 = true := by decide +kernel
set_option maxRecDepth 100000 in
theorem fl_b123 : n_all n_ok 6 7872 = true := by decide +kernel
set_option maxRecDepth 100000 in
theorem fl_b124 : n_all n_ok 6 7936 = true := by decide +kernel
set_option maxRecDepth 100000 in
theorem fl_b125 : n_all n_ok 6 8000 = true := by decide +kernel
set_option maxRecDepth 100000 in
theorem fl_b126 : n_all n_ok 6 8064 = true := by decide +kernel
set_option maxRecDepth 100000 in
theorem fl_b127 : n_all n_ok 6 8128 = true := by decide +kernel
theorem fl_r0_0 : fl_R 0 64 := fl_L 0 fl_b0
theorem fl_r0_1 : fl_R 0 128 := fl_J fl_r0_0 (fl_L 64 fl_b1)
theorem fl_r0_2 : fl_R 0 192 := fl_J fl_r0_1 (fl_L 128 fl_b2)
theorem fl_r0_3 : fl_R 0 256 := fl_J fl_r0_2 (fl_L 192 fl_b3)
theorem fl_r0_4 : fl_R 0 320 := fl_J fl_r0_3 (fl_L 256 fl_b4)
theorem fl_r0_5 : fl_R 0 384 := fl_J fl_r0_4 (fl_L 320 fl_b5)
theorem fl_r0_6 : fl_R 0 448 := fl_J fl_r0_5 (fl_L 384 fl_b6)
theorem fl_r0_7 : fl_R 0 512 := fl_J fl_r0_6 (fl_L 448 fl_b7)
theorem fl_r0_8 : fl_R 0 576 := fl_J fl_r0_7 (fl_L 512 fl_b8)
theorem fl_r0_9 : fl_R 0 640 := fl_J fl_r0_8 (fl_L 576 fl_b9)
theorem fl_r0_10 : fl_R 0 704 := fl_J fl_r0_9 (fl_L 640 fl_b10)
theorem fl_r0_11 : fl_R 0 768 := fl_J fl_r0_10 (fl_L 704 fl_b11)
theorem fl_r0_12 : fl_R 0 832 := fl_J fl_r0_11 (fl_L 768 fl_b12)
theorem fl_r0_13 : fl_R 0 896 := fl_J fl_r0_12 (fl_L 832 fl_b13)
theorem fl_r0_14 : fl_R 0 960 := fl_J fl_r0_13 (fl_L 896 fl_b14)
theorem fl_r0_15 : fl_R 0 1024 := fl_J fl_r0_14 (fl_L 960 fl_b15)
theorem fl_r0_16 : fl_R 0 1088 := fl_J fl_r0_15 (fl_L 1024 fl_b16)
theorem fl_r0_17 : fl_R 0 1152 := fl_J fl_r0_16 (fl_L 1088 fl_b17)
theorem fl_r0_18 : fl_R 0 1216 := fl_J fl_r0_17 (fl_L 1152 fl_b18)
theorem fl_r0_19 : fl_R 0 1280 := fl_J fl_r0_18 (fl_L 1216 fl_b19)
theorem fl_r0_20 : fl_R 0 1344 := fl_J fl_r0_19 (fl_L 1280 fl_b20)
theorem fl_r0_21 : fl_R 0 1408 := fl_J fl_r0_20 (fl_L 1344 fl_b21)
theorem fl_r0_22 : fl_R 0 1472 := fl_J fl_r0_21 (fl_L 1408 fl_b22)
theorem fl_r0_23 : fl_R 0 1536 := fl_J fl_r0_22 (fl_L 1472 fl_b23)
theorem fl_r0_24 : fl_R 0 1600 := fl_J fl_r0_23 (fl_L 1536 fl_b24)
theorem fl_r0_25 : fl_R 0 1664 := fl_J fl_r0_24 (fl_L 1600 fl_b25)
theorem fl_r0_26 : fl_R 0 1728 := fl_J fl_r0_25 (fl_L 1664 fl_b26)
theorem fl_r0_27 : fl_R 0 1792 := fl_J fl_r0_26 (fl_L 1728 fl_b27)
theorem fl_r0_28 : fl_R 0 1856 := fl_J fl_r0_27 (fl_L 1792 fl_b28)
theorem fl_r0_29 : fl_R 0 1920 := fl_J fl_r0_28 (fl_L 1856 fl_b29)
theorem fl_r0_30 : fl_R 0 1984 := fl_J fl_r0_29 (fl_L 1920 fl_b30)
theorem fl_r0_31 : fl_R 0 2048 := fl_J fl_r0_30 (fl_L 1984 fl_b31)
theorem fl_r0_32 : fl_R 0 2112 := fl_J fl_r0_31 (fl_L 2048 fl_b32)
theorem fl_r0_33 : fl_R 0 2176 := fl_J fl_r0_32 (fl_L 2112 fl_b33)
theorem fl_r0_34 : fl_R 0 2240 := fl_J fl_r0_33 (fl_L 2176 fl_b34)
theorem fl_r0_35 : fl_R 0 2304 := fl_J fl_r0_34 (fl_L 2240 fl_b35)
theorem fl_r0_36 : fl_R 0 2368 := fl_J fl_r0_35 (fl_L 2304 fl_b36)
theorem fl_r0_37 : fl_R 0 2432 := fl_J fl_r0_36 (fl_L 2368 fl_b37)
theorem fl_r0_38 : fl_R 0 2496 := fl_J fl_r0_37 (fl_L 2432 fl_b38)
theorem fl_r0_39 : fl_R 0 2560 := fl_J fl_r0_38 (fl_L 2496 fl_b39)
theorem fl_r0_40 : fl_R 0 2624 := fl_J fl_r0_39 (fl_L 2560 fl_b40)
theorem fl_r0_41 : fl_R 0 2688 := fl_J fl_r0_40 (fl_L 2624 fl_b41)
theorem fl_r0_42 : fl_R 0 2752 := fl_J fl_r0_41 (fl_L 2688 fl_b42)
theorem fl_r0_43 : fl_R 0 2816 := fl_J fl_r0_42 (fl_L 2752 fl_b43)
theorem fl_r0_44 : fl_R 0 2880 := fl_J fl_r0_43 (fl_L 2816 fl_b44)
theorem fl_r0_45 : fl_R 0 2944 := fl_J fl_r0_44 (fl_L 2880 fl_b45)
theorem fl_r0_46 : fl_R 0 3008 := fl_J fl_r0_45 (fl_L 2944 fl_b46)
theorem fl_r0_47 : fl_R 0 3072 := fl_J fl_r0_46 (fl_L 3008 fl_b47)
theorem fl_r0_48 : fl_R 0 3136 := fl_J fl_r0_47 (fl_L 3072 fl_b48)
theorem fl_r0_49 : fl_R 0 3200 := fl_J fl_r0_48 (fl_L 3136 fl_b49)
theorem fl_r0_50 : fl_R 0 3264 := fl_J fl_r0_49 (fl_L 3200 fl_b50)
theorem fl_r0_51 : fl_R 0 3328 := fl_J fl_r0_50 (fl_L 3264 fl_b51)
theorem fl_r0_52 : fl_R 0 3392 := fl_J fl_r0_51 (fl_L 3328 fl_b52)
theorem fl_r0_53 : fl_R 0 3456 := fl_J fl_r0_52 (fl_L 3392 fl_b53)
theorem fl_r0_54 : fl_R 0 3520 := fl_J fl_r0_53 (fl_L 3456 fl_b54)
theorem fl_r0_55 : fl_R 0 3584 := fl_J fl_r0_54 (fl_L 3520 fl_b55)
theorem fl_r0_56 : fl_R 0 3648 := fl_J fl_r0_55 (fl_L 3584 fl_b56)
theorem fl_r0_57 : fl_R 0 3712 := fl_J fl_r0_56 (fl_L 3648 fl_b57)
theorem fl_r0_58 : fl_R 0 3776 := fl_J fl_r0_57 (fl_L 3712 fl_b58)
theorem fl_r0_59 : fl_R 0 3840 := fl_J fl_r0_58 (fl_L 3776 fl_b59)
theorem fl_r0_60 : fl_R 0 3904 := fl_J fl_r0_59 (fl_L 3840 fl_b60)
theorem fl_r0_61 : fl_R 0 3968 := fl_J fl_r0_60 (fl_L 3904 fl_b61)
theorem fl_r0_62 : fl_R 0 4032 := fl_J fl_r0_61 (fl_L 3968 fl_b62)
theorem fl_r0_63 : fl_R 0 4096 := fl_J fl_r0_62 (fl_L 4032 fl_b63)
theorem fl_r0_64 : fl_R 0 4160 := fl_J fl_r0_63 (fl_L 4096 fl_b64)
theorem fl_r0_65 : fl_R 0 4224 := fl_J fl_r0_64 (fl_L 4160 fl_b65)
theorem fl_r0_66 : fl_R 0 4288 := fl_J fl_r0_65 (fl_L 4224 fl_b66)
theorem fl_r0_67 : fl_R 0 4352 := fl_J fl_r0_66 (fl_L 4288 fl_b67)
theorem fl_r0_68 : fl_R 0 4416 := fl_J fl_r0_67 (fl_L 4352 fl_b68)
theorem fl_r0_69 : fl_R 0 4480 := fl_J fl_r0_68 (fl_L 4416 fl_b69)
theorem fl_r0_70 : fl_R 0 4544 := fl_J fl_r0_69 (fl_L 4480 fl_b70)
theorem fl_r0_71 : fl_R 0 4608 := fl_J fl_r0_70 (fl_L 4544 fl_b71)
theorem fl_r0_72 : fl_R 0 4672 := fl_J fl_r0_71 (fl_L 4608 fl_b72)
theorem fl_r0_73 : fl_R 0 4736 := fl_J fl_r0_72 (fl_L 4672 fl_b73)
theorem fl_r0_74 : fl_R 0 4800 := fl_J fl_r0_73 (fl_L 4736 fl_b74)
theorem fl_r0_75 : fl_R 0 4864 := fl_J fl_r0_74 (fl_L 4800 fl_b75)
theorem fl_r0_76 : fl_R 0 4928 := fl_J fl_r0_75 (fl_L 4864 fl_b76)
theorem fl_r0_77 : fl_R 0 4992 := fl_J fl_r0_76 (fl_L 4928 fl_b77)
theorem fl_r0_78 : fl_R 0 5056 := fl_J fl_r0_77 (fl_L 4992 fl_b78)
theorem fl_r0_79 : fl_R 0 5120 := fl_J fl_r0_78 (fl_L 5056 fl_b79)
theorem fl_r0_80 : fl_R 0 5184 := fl_J fl_r0_79 (fl_L 5120 fl_b80)
theorem fl_r0_81 : fl_R 0 5248 := fl_J fl_r0_80 (fl_L 5184 fl_b81)
theorem fl_r0_82 : fl_R 0 5312 := fl_J fl_r0_81 (fl_L 5248 fl_b82)
theorem fl_r0_83 : fl_R 0 5376 := fl_J fl_r0_82 (fl_L 5312 fl_b83)
theorem fl_r0_84 : fl_R 0 5440 := fl_J fl_r0_83 (fl_L 5376 fl_b84)
theorem fl_r0_85 : fl_R 0 5504 := fl_J fl_r0_84 (fl_L 5440 fl_b85)
theorem fl_r0_86 : fl_R 0 5568 := fl_J fl_r0_85 (fl_L 5504 fl_b86)
theorem fl_r0_87 : fl_R 0 5632 := fl_J fl_r0_86 (fl_L 5568 fl_b87)
theorem fl_r0_88 : fl_R 0 5696 := fl_J fl_r0_87 (fl_L 5632 fl_b88)
theorem fl_r0_89 : fl_R 0 5760 := fl_J fl_r0_88 (fl_L 5696 fl_b89)
theorem fl_r0_90 : fl_R 0 5824 := fl_J fl_r0_89 (fl_L 5760 fl_b90)
theorem fl_r0_91 : fl_R 0 5888 := fl_J fl_r0_90 (fl_L 5824 fl_b91)
theorem fl_r0_92 : fl_R 0 5952 := fl_J fl_r0_91 (fl_L 5888 fl_b92)
theorem fl_r0_93 : fl_R 0 6016 := fl_J fl_r0_92 (fl_L 5952 fl_b93)
theorem fl_r0_94 : fl_R 0 6080 := fl_J fl_r0_93 (fl_L 6016 fl_b94)
theorem fl_r0_95 : fl_R 0 6144 := fl_J fl_r0_94 (fl_L 6080 fl_b95)
theorem fl_r0_96 : fl_R 0 6208 := fl_J fl_r0_95 (fl_L 6144 fl_b96)
theorem fl_r0_97 : fl_R 0 6272 := fl_J fl_r0_96 (fl_L 6208 fl_b97)
theorem fl_r0_98 : fl_R 0 6336 := fl_J fl_r0_97 (fl_L 6272 fl_b98)
theorem fl_r0_99 : fl_R 0 6400 := fl_J fl_r0_98 (fl_L 6336 fl_b99)
theorem fl_r0_100 : fl_R 0 6464 := fl_J fl_r0_99 (fl_L 6400 fl_b100)
theorem fl_r0_101 : fl_R 0 6528 := fl_J fl_r0_100 (fl_L 6464 fl_b101)
theorem fl_r0_102 : fl_R 0 6592 := fl_J fl_r0_101 (fl_L 6528 fl_b102)
theorem fl_r0_103 : fl_R 0 6656 := fl_J fl_r0_102 (fl_L 6592 fl_b103)
theorem fl_r0_104 : fl_R 0 6720 := fl_J fl_r0_103 (fl_L 6656 fl_b104)
theorem fl_r0_105 : fl_R 0 6784 := fl_J fl_r0_104 (fl_L 6720 fl_b105)
theorem fl_r0_106 : fl_R 0 6848 := fl_J fl_r0_105 (fl_L 6784 fl_b106)
theorem fl_r0_107 : fl_R 0 6912 := fl_J fl_r0_106 (fl_L 6848 fl_b107)
theorem fl_r0_108 : fl_R 0 6976 := fl_J fl_r0_107 (fl_L 6912 fl_b108)
theorem fl_r0_109 : fl_R 0 7040 := fl_J fl_r0_108 (fl_L 6976 fl_b109)
theorem fl_r0_110 : fl_R 0 7104 := fl_J fl_r0_109 (fl_L 7040 fl_b110)
theorem fl_r0_111 : fl_R 0 7168 := fl_J fl_r0_110 (fl_L 7104 fl_b111)
theorem fl_r0_112 : fl_R 0 7232 := fl_J fl_r0_111 (fl_L 7168 fl_b112)
theorem fl_r0_113 : fl_R 0 7296 := fl_J fl_r0_112 (fl_L 7232 fl_b113)
theorem fl_r0_114 : fl_R 0 7360 := fl_J fl_r0_113 (fl_L 7296 fl_b114)
theorem fl_r0_115 : fl_R 0 7424 := fl_J fl_r0_114 (fl_L 7360 fl_b115)
theorem fl_r0_116 : fl_R 0 7488 := fl_J fl_r0_115 (fl_L 7424 fl_b116)
theorem fl_r0_117 : fl_R 0 7552 := fl_J fl_r0_116 (fl_L 7488 fl_b117)
theorem fl_r0_118 : fl_R 0 7616 := fl_J fl_r0_117 (fl_L 7552 fl_b118)
theorem fl_r0_119 : fl_R 0 7680 := fl_J fl_r0_118 (fl_L 7616 fl_b119)
theorem fl_r0_120 : fl_R 0 7744 := fl_J fl_r0_119 (fl_L 7680 fl_b120)
theorem fl_r0_121 : fl_R 0 7808 := fl_J fl_r0_120 (fl_L 7744 fl_b121)
theorem fl_r0_122 : fl_R 0 7872 := fl_J fl_r0_121 (fl_L 7808 fl_b122)
theorem fl_r0_123 : fl_R 0 7936 := fl_J fl_r0_122 (fl_L 7872 fl_b123)
theorem fl_r0_124 : fl_R 0 8000 := fl_J fl_r0_123 (fl_L 7936 fl_b124)
theorem fl_r0_125 : fl_R 0 8064 := fl_J fl_r0_124 (fl_L 8000 fl_b125)
theorem fl_r0_126 : fl_R 0 8128 := fl_J fl_r0_125 (fl_L 8064 fl_b126)
theorem fl_r0_127 : fl_R 0 8192 := fl_J fl_r0_126 (fl_L 8128 fl_b127)
theorem fl_R0 : fl_R 0 8192 := fl_r0_127

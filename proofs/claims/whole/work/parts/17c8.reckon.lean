/-! The reckoning, counts 57344 on. -/
set_option maxRecDepth 100000 in
theorem fl_b896 : n_all n_ok 6 57344 = true := by decide +kernel
set_option maxRecDepth 100000 in
theorem fl_b897 : n_all n_ok 6 57408 = true := by decide +kernel
set_option maxRecDepth 100000 in
theorem fl_b898 : n_all n_ok 6 57472 = true := by decide +kernel
set_option maxRecDepth 100000 in
theorem fl_b899 : n_all n_ok 6 57536 = true := by decide +kernel
set_option maxRecDepth 100000 in
theorem fl_b900 : n_all n_ok 6 57600 = true := by decide +kernel
set_option maxRecDepth 100000 in
theorem fl_b901 : n_all n_ok 6 57664 = true := by decide +kernel
set_option maxRecDepth 100000 in
theorem fl_b902 : n_all n_ok 6 57728 = true := by decide +kernel
set_option maxRecDepth 100000 in
theorem fl_b903 : n_all n_ok 6 57792 = true := by decide +kernel
set_option maxRecDepth 100000 in
theorem fl_b904 : n_all n_ok 6 57856 = true := by decide +kernel
set_option maxRecDepth 100000 in
theorem fl_b905 : n_all n_ok 6 57920 = true := by decide +kernel
set_option maxRecDepth 100000 in
theorem fl_b906 : n_all n_ok 6 57984 = true := by decide +kernel
set_option maxRecDepth 100000 in
theorem fl_b907 : n_all n_ok 6 58048 = true := by decide +kernel
set_option maxRecDepth 100000 in
theorem fl_b908 : n_all n_ok 6 58112 = true := by decide +kernel
set_option maxRecDepth 100000 in
theorem fl_b909 : n_all n_ok 6 58176 = true := by decide +kernel
set_option maxRecDepth 100000 in
theorem fl_b910 : n_all n_ok 6 58240 = true := by decide +kernel
set_option maxRecDepth 100000 in
theorem fl_b911 : n_all n_ok 6 58304 = true := by decide +kernel
set_option maxRecDepth 100000 in
theorem fl_b912 : n_all n_ok 6 58368 = true := by decide +kernel
set_option maxRecDepth 100000 in
theorem fl_b913 : n_all n_ok 6 58432 = true := by decide +kernel
set_option maxRecDepth 100000 in
theorem fl_b914 : n_all n_ok 6 58496 = true := by decide +kernel
set_option maxRecDepth 100000 in
theorem fl_b915 : n_all n_ok 6 58560 = true := by decide +kernel
set_option maxRecDepth 100000 in
theorem fl_b916 : n_all n_ok 6 58624 = true := by decide +kernel
set_option maxRecDepth 100000 in
theorem fl_b917 : n_all n_ok 6 58688 = true := by decide +kernel
set_option maxRecDepth 100000 in
theorem fl_b918 : n_all n_ok 6 58752 = true := by decide +kernel
set_option maxRecDepth 100000 in
theorem fl_b919 : n_all n_ok 6 58816 = true := by decide +kernel
set_option maxRecDepth 100000 in
theorem fl_b920 : n_all n_ok 6 58880 = true := by decide +kernel
set_option maxRecDepth 100000 in
theorem fl_b921 : n_all n_ok 6 58944 = true := by decide +kernel
set_option maxRecDepth 100000 in
theorem fl_b922 : n_all n_ok 6 59008 = true := by decide +kernel
set_option maxRecDepth 100000 in
theorem fl_b923 : n_all n_ok 6 59072 = true := by decide +kernel
set_option maxRecDepth 100000 in
theorem fl_b924 : n_all n_ok 6 59136 = true := by decide +kernel
set_option maxRecDepth 100000 in
theorem fl_b925 : n_all n_ok 6 59200 = true := by decide +kernel
set_option maxRecDepth 100000 in
theorem fl_b926 : n_all n_ok 6 59264 = true := by decide +kernel
set_option maxRecDepth 100000 in
theorem fl_b927 : n_all n_ok 6 59328 = true := by decide +kernel
set_option maxRecDepth 100000 in
theorem fl_b928 : n_all n_ok 6 59392 = true := by decide +kernel
set_option maxRecDepth 100000 in
theorem fl_b929 : n_all n_ok 6 59456 = true := by decide +kernel
set_option maxRecDepth 100000 in
theorem fl_b930 : n_all n_ok 6 59520 = true := by decide +kernel
set_option maxRecDepth 100000 in
theorem fl_b931 : n_all n_ok 6 59584 = true := by decide +kernel
set_option maxRecDepth 100000 in
theorem fl_b932 : n_all n_ok 6 59648 = true := by decide +kernel
set_option maxRecDepth 100000 in
theorem fl_b933 : n_all n_ok 6 59712 = true := by decide +kernel
set_option maxRecDepth 100000 in
theorem fl_b934 : n_all n_ok 6 59776 = true := by decide +kernel
set_option maxRecDepth 100000 in
theorem fl_b935 : n_all n_ok 6 59840 = true := by decide +kernel
set_option maxRecDepth 100000 in
theorem fl_b936 : n_all n_ok 6 59904 = true := by decide +kernel
set_option maxRecDepth 100000 in
theorem fl_b937 : n_all n_ok 6 59968 = true := by decide +kernel
set_option maxRecDepth 100000 in
theorem fl_b938 : n_all n_ok 6 60032 = true := by decide +kernel
set_option maxRecDepth 100000 in
theorem fl_b939 : n_all n_ok 6 60096 = true := by decide +kernel
set_option maxRecDepth 100000 in
theorem fl_b940 : n_all n_ok 6 60160 = true := by decide +kernel
set_option maxRecDepth 100000 in
theorem fl_b941 : n_all n_ok 6 60224 = true := by decide +kernel
set_option maxRecDepth 100000 in
theorem fl_b942 : n_all n_ok 6 60288 = true := by decide +kernel
set_option maxRecDepth 100000 in
theorem fl_b943 : n_all n_ok 6 60352 = true := by decide +kernel
set_option maxRecDepth 100000 in
theorem fl_b944 : n_all n_ok 6 60416 = true := by decide +kernel
set_option maxRecDepth 100000 in
theorem fl_b945 : n_all n_ok 6 60480 = true := by decide +kernel
set_option maxRecDepth 100000 in
theorem fl_b946 : n_all n_ok 6 60544 = true := by decide +kernel
set_option maxRecDepth 100000 in
theorem fl_b947 : n_all n_ok 6 60608 = true := by decide +kernel
set_option maxRecDepth 100000 in
theorem fl_b948 : n_all n_ok 6 60672 = true := by decide +kernel
set_option maxRecDepth 100000 in
theorem fl_b949 : n_all n_ok 6 60736 = true := by decide +kernel
set_option maxRecDepth 100000 in
theorem fl_b950 : n_all n_ok 6 60800 = true := by decide +kernel
set_option maxRecDepth 100000 in
theorem fl_b951 : n_all n_ok 6 60864 = true := by decide +kernel
set_option maxRecDepth 100000 in
theorem fl_b952 : n_all n_ok 6 60928 = true := by decide +kernel
set_option maxRecDepth 100000 in
theorem fl_b953 : n_all n_ok 6 60992 = true := by decide +kernel
set_option maxRecDepth 100000 in
theorem fl_b954 : n_all n_ok 6 61056 = true := by decide +kernel
set_option maxRecDepth 100000 in
theorem fl_b955 : n_all n_ok 6 61120 = true := by decide +kernel
set_option maxRecDepth 100000 in
theorem fl_b956 : n_all n_ok 6 61184 = true := by decide +kernel
set_option maxRecDepth 100000 in
theorem fl_b957 : n_all n_ok 6 61248 = true := by decide +kernel
set_option maxRecDepth 100000 in
theorem fl_b958 : n_all n_ok 6 61312 = true := by decide +kernel
set_option maxRecDepth 100000 in
theorem fl_b959 : n_all n_ok 6 61376 = true := by decide +kernel
set_option maxRecDepth 100000 in
theorem fl_b960 : n_all n_ok 6 61440 = true := by decide +kernel
set_option maxRecDepth 100000 in
theorem fl_b961 : n_all n_ok 6 61504 = true := by decide +kernel
set_option maxRecDepth 100000 in
theorem fl_b962 : n_all n_ok 6 61568 = true := by decide +kernel
set_option maxRecDepth 100000 in
theorem fl_b963 : n_all n_ok 6 61632 = true := by decide +kernel
set_option maxRecDepth 100000 in
theorem fl_b964 : n_all n_ok 6 61696 = true := by decide +kernel
set_option maxRecDepth 100000 in
theorem fl_b965 : n_all n_ok 6 61760 = true := by decide +kernel
set_option maxRecDepth 100000 in
theorem fl_b966 : n_all n_ok 6 61824 = true := by decide +kernel
set_option maxRecDepth 100000 in
theorem fl_b967 : n_all n_ok 6 61888 = true := by decide +kernel
set_option maxRecDepth 100000 in
theorem fl_b968 : n_all n_ok 6 61952 = true := by decide +kernel
set_option maxRecDepth 100000 in
theorem fl_b969 : n_all n_ok 6 62016 = true := by decide +kernel
set_option maxRecDepth 100000 in
theorem fl_b970 : n_all n_ok 6 62080 = true := by decide +kernel
set_option maxRecDepth 100000 in
theorem fl_b971 : n_all n_ok 6 62144 = true := by decide +kernel
set_option maxRecDepth 100000 in
theorem fl_b972 : n_all n_ok 6 62208 = true := by decide +kernel
set_option maxRecDepth 100000 in
theorem fl_b973 : n_all n_ok 6 62272 = true := by decide +kernel
set_option maxRecDepth 100000 in
theorem fl_b974 : n_all n_ok 6 62336 = true := by decide +kernel
set_option maxRecDepth 100000 in
theorem fl_b975 : n_all n_ok 6 62400 = true := by decide +kernel
set_option maxRecDepth 100000 in
theorem fl_b976 : n_all n_ok 6 62464 = true := by decide +kernel
set_option maxRecDepth 100000 in
theorem fl_b977 : n_all n_ok 6 62528 = true := by decide +kernel
set_option maxRecDepth 100000 in
theorem fl_b978 : n_all n_ok 6 62592 = true := by decide +kernel
set_option maxRecDepth 100000 in
theorem fl_b979 : n_all n_ok 6 62656 = true := by decide +kernel
set_option maxRecDepth 100000 in
theorem fl_b980 : n_all n_ok 6 62720 = true := by decide +kernel
set_option maxRecDepth 100000 in
theorem fl_b981 : n_all n_ok 6 62784 = true := by decide +kernel
set_option maxRecDepth 100000 in
theorem fl_b982 : n_all n_ok 6 62848 = true := by decide +kernel
set_option maxRecDepth 100000 in
theorem fl_b983 : n_all n_ok 6 62912 = true := by decide +kernel
set_option maxRecDepth 100000 in
theorem fl_b984 : n_all n_ok 6 62976 = true := by decide +kernel
set_option maxRecDepth 100000 in
theorem fl_b985 : n_all n_ok 6 63040 = true := by decide +kernel
set_option maxRecDepth 100000 in
theorem fl_b986 : n_all n_ok 6 63104 = true := by decide +kernel
set_option maxRecDepth 100000 in
theorem fl_b987 : n_all n_ok 6 63168 = true := by decide +kernel
set_option maxRecDepth 100000 in
theorem fl_b988 : n_all n_ok 6 63232 = true := by decide +kernel
set_option maxRecDepth 100000 in
theorem fl_b989 : n_all n_ok 6 63296 = true := by decide +kernel
set_option maxRecDepth 100000 in
theorem fl_b990 : n_all n_ok 6 63360 = true := by decide +kernel
set_option maxRecDepth 100000 in
theorem fl_b991 : n_all n_ok 6 63424 = true := by decide +kernel
set_option maxRecDepth 100000 in
theorem fl_b992 : n_all n_ok 6 63488 = true := by decide +kernel
set_option maxRecDepth 100000 in
theorem fl_b993 : n_all n_ok 6 63552 = true := by decide +kernel
set_option maxRecDepth 100000 in
theorem fl_b994 : n_all n_ok 6 63616 = true := by decide +kernel
set_option maxRecDepth 100000 in
theorem fl_b995 : n_all n_ok 6 63680 = true := by decide +kernel
set_option maxRecDepth 100000 in
theorem fl_b996 : n_all n_ok 6 63744 = true := by decide +kernel
set_option maxRecDepth 100000 in
theorem fl_b997 : n_all n_ok 6 63808 = true := by decide +kernel
set_option maxRecDepth 100000 in
theorem fl_b998 : n_all n_ok 6 63872 = true := by decide +kernel
set_option maxRecDepth 100000 in
theorem fl_b999 : n_all n_ok 6 63936 = true := by decide +kernel
set_option maxRecDepth 100000 in
theorem fl_b1000 : n_all n_ok 6 64000 = true := by decide +kernel
set_option maxRecDepth 100000 in
theorem fl_b1001 : n_all n_ok 6 64064 = true := by decide +kernel
set_option maxRecDepth 100000 in
theorem fl_b1002 : n_all n_ok 6 64128 = true := by decide +kernel
set_option maxRecDepth 100000 in
theorem fl_b1003 : n_all n_ok 6 64192 = true := by decide +kernel
set_option maxRecDepth 100000 in
theorem fl_b1004 : n_all n_ok 6 64256 = true := by decide +kernel
set_option maxRecDepth 100000 in
theorem fl_b1005 : n_all n_ok 6 64320 = true := by decide +kernel
set_option maxRecDepth 100000 in
theorem fl_b1006 : n_all n_ok 6 64384 = true := by decide +kernel
set_option maxRecDepth 100000 in
theorem fl_b1007 : n_all n_ok 6 64448 = true := by decide +kernel
set_option maxRecDepth 100000 in
theorem fl_b1008 : n_all n_ok 6 64512 = true := by decide +kernel
set_option maxRecDepth 100000 in
theorem fl_b1009 : n_all n_ok 6 64576 = true := by decide +kernel
set_option maxRecDepth 100000 in
theorem fl_b1010 : n_all n_ok 6 64640 = true := by decide +kernel
set_option maxRecDepth 100000 in
theorem fl_b1011 : n_all n_ok 6 64704 = true := by decide +kernel
set_option maxRecDepth 100000 in
theorem fl_b1012 : n_all n_ok 6 64768 = true := by decide +kernel
set_option maxRecDepth 100000 in
theorem fl_b1013 : n_all n_ok 6 64832 = true := by decide +kernel
set_option maxRecDepth 100000 in
theorem fl_b1014 : n_all n_ok 6 64896 = true := by decide +kernel
set_option maxRecDepth 100000 in
theorem fl_b1015 : n_all n_ok 6 64960 = true := by decide +kernel
set_option maxRecDepth 100000 in
theorem fl_b1016 : n_all n_ok 6 65024 = true := by decide +kernel
set_option maxRecDepth 100000 in
theorem fl_b1017 : n_all n_ok 6 65088 = true := by decide +kernel
set_option maxRecDepth 100000 in
theorem fl_b1018 : n_all n_ok 6 65152 = true := by decide +kernel
set_option maxRecDepth 100000 in
theorem fl_b1019 : n_all n_ok 6 65216 = true := by decide +kernel
set_option maxRecDepth 100000 in
theorem fl_b1020 : n_all n_ok 6 65280 = true := by decide +kernel
set_option maxRecDepth 100000 in
theorem fl_b1021 : n_all n_ok 6 65344 = true := by decide +kernel
set_option maxRecDepth 100000 in
theorem fl_b1022 : n_all n_ok 6 65408 = true := by decide +kernel
set_option maxRecDepth 100000 in
theorem fl_b1023 : n_all n_ok 6 65472 = true := by decide +kernel
theorem fl_r7_0 : fl_R 57344 57408 := fl_L 57344 fl_b896
theorem fl_r7_1 : fl_R 57344 57472 := fl_J fl_r7_0 (fl_L 57408 fl_b897)
theorem fl_r7_2 : fl_R 57344 57536 := fl_J fl_r7_1 (fl_L 57472 fl_b898)
theorem fl_r7_3 : fl_R 57344 57600 := fl_J fl_r7_2 (fl_L 57536 fl_b899)
theorem fl_r7_4 : fl_R 57344 57664 := fl_J fl_r7_3 (fl_L 57600 fl_b900)
theorem fl_r7_5 : fl_R 57344 57728 := fl_J fl_r7_4 (fl_L 57664 fl_b901)
theorem fl_r7_6 : fl_R 57344 57792 := fl_J fl_r7_5 (fl_L 57728 fl_b902)
theorem fl_r7_7 : fl_R 57344 57856 := fl_J fl_r7_6 (fl_L 57792 fl_b903)
theorem fl_r7_8 : fl_R 57344 57920 := fl_J fl_r7_7 (fl_L 57856 fl_b904)
theorem fl_r7_9 : fl_R 57344 57984 := fl_J fl_r7_8 (fl_L 57920 fl_b905)
theorem fl_r7_10 : fl_R 57344 58048 := fl_J fl_r7_9 (fl_L 57984 fl_b906)
theorem fl_r7_11 : fl_R 57344 58112 := fl_J fl_r7_10 (fl_L 58048 fl_b907)
theorem fl_r7_12 : fl_R 57344 58176 := fl_J fl_r7_11 (fl_L 58112 fl_b908)
theorem fl_r7_13 : fl_R 57344 58240 := fl_J fl_r7_12 (fl_L 58176 fl_b909)
theorem fl_r7_14 : fl_R 57344 58304 := fl_J fl_r7_13 (fl_L 58240 fl_b910)
theorem fl_r7_15 : fl_R 57344 58368 := fl_J fl_r7_14 (fl_L 58304 fl_b911)
theorem fl_r7_16 : fl_R 57344 58432 := fl_J fl_r7_15 (fl_L 58368 fl_b912)
theorem fl_r7_17 : fl_R 57344 58496 := fl_J fl_r7_16 (fl_L 58432 fl_b913)
theorem fl_r7_18 : fl_R 57344 58560 := fl_J fl_r7_17 (fl_L 58496 fl_b914)
theorem fl_r7_19 : fl_R 57344 58624 := fl_J fl_r7_18 (fl_L 58560 fl_b915)
theorem fl_r7_20 : fl_R 57344 58688 := fl_J fl_r7_19 (fl_L 58624 fl_b916)
theorem fl_r7_21 : fl_R 57344 58752 := fl_J fl_r7_20 (fl_L 58688 fl_b917)
theorem fl_r7_22 : fl_R 57344 58816 := fl_J fl_r7_21 (fl_L 58752 fl_b918)
theorem fl_r7_23 : fl_R 57344 58880 := fl_J fl_r7_22 (fl_L 58816 fl_b919)
theorem fl_r7_24 : fl_R 57344 58944 := fl_J fl_r7_23 (fl_L 58880 fl_b920)
theorem fl_r7_25 : fl_R 57344 59008 := fl_J fl_r7_24 (fl_L 58944 fl_b921)
theorem fl_r7_26 : fl_R 57344 59072 := fl_J fl_r7_25 (fl_L 59008 fl_b922)
theorem fl_r7_27 : fl_R 57344 59136 := fl_J fl_r7_26 (fl_L 59072 fl_b923)
theorem fl_r7_28 : fl_R 57344 59200 := fl_J fl_r7_27 (fl_L 59136 fl_b924)
theorem fl_r7_29 : fl_R 57344 59264 := fl_J fl_r7_28 (fl_L 59200 fl_b925)
theorem fl_r7_30 : fl_R 57344 59328 := fl_J fl_r7_29 (fl_L 59264 fl_b926)
theorem fl_r7_31 : fl_R 57344 59392 := fl_J fl_r7_30 (fl_L 59328 fl_b927)
theorem fl_r7_32 : fl_R 57344 59456 := fl_J fl_r7_31 (fl_L 59392 fl_b928)
theorem fl_r7_33 : fl_R 57344 59520 := fl_J fl_r7_32 (fl_L 59456 fl_b929)
theorem fl_r7_34 : fl_R 57344 59584 := fl_J fl_r7_33 (fl_L 59520 fl_b930)
theorem fl_r7_35 : fl_R 57344 59648 := fl_J fl_r7_34 (fl_L 59584 fl_b931)
theorem fl_r7_36 : fl_R 57344 59712 := fl_J fl_r7_35 (fl_L 59648 fl_b932)
theorem fl_r7_37 : fl_R 57344 59776 := fl_J fl_r7_36 (fl_L 59712 fl_b933)
theorem fl_r7_38 : fl_R 57344 59840 := fl_J fl_r7_37 (fl_L 59776 fl_b934)
theorem fl_r7_39 : fl_R 57344 59904 := fl_J fl_r7_38 (fl_L 59840 fl_b935)
theorem fl_r7_40 : fl_R 57344 59968 := fl_J fl_r7_39 (fl_L 59904 fl_b936)
theorem fl_r7_41 : fl_R 57344 60032 := fl_J fl_r7_40 (fl_L 59968 fl_b937)
theorem fl_r7_42 : fl_R 57344 60096 := fl_J fl_r7_41 (fl_L 60032 fl_b938)
theorem fl_r7_43 : fl_R 57344 60160 := fl_J fl_r7_42 (fl_L 60096 fl_b939)
theorem fl_r7_44 : fl_R 57344 60224 := fl_J fl_r7_43 (fl_L 60160 fl_b940)
theorem fl_r7_45 : fl_R 57344 60288 := fl_J fl_r7_44 (fl_L 60224 fl_b941)
theorem fl_r7_46 : fl_R 57344 60352 := fl_J fl_r7_45 (fl_L 60288 fl_b942)
theorem fl_r7_47 : fl_R 57344 60416 := fl_J fl_r7_46 (fl_L 60352 fl_b943)
theorem fl_r7_48 : fl_R 57344 60480 := fl_J fl_r7_47 (fl_L 60416 fl_b944)
theorem fl_r7_49 : fl_R 57344 60544 := fl_J fl_r7_48 (fl_L 60480 fl_b945)
theorem fl_r7_50 : fl_R 57344 60608 := fl_J fl_r7_49 (fl_L 60544 fl_b946)
theorem fl_r7_51 : fl_R 57344 60672 := fl_J fl_r7_50 (fl_L 60608 fl_b947)
theorem fl_r7_52 : fl_R 57344 60736 := fl_J fl_r7_51 (fl_L 60672 fl_b948)
theorem fl_r7_53 : fl_R 57344 60800 := fl_J fl_r7_52 (fl_L 60736 fl_b949)
theorem fl_r7_54 : fl_R 57344 60864 := fl_J fl_r7_53 (fl_L 60800 fl_b950)
theorem fl_r7_55 : fl_R 57344 60928 := fl_J fl_r7_54 (fl_L 60864 fl_b951)
theorem fl_r7_56 : fl_R 57344 60992 := fl_J fl_r7_55 (fl_L 60928 fl_b952)
theorem fl_r7_57 : fl_R 57344 61056 := fl_J fl_r7_56 (fl_L 60992 fl_b953)
theorem fl_r7_58 : fl_R 57344 61120 := fl_J fl_r7_57 (fl_L 61056 fl_b954)
theorem fl_r7_59 : fl_R 57344 61184 := fl_J fl_r7_58 (fl_L 61120 fl_b955)
theorem fl_r7_60 : fl_R 57344 61248 := fl_J fl_r7_59 (fl_L 61184 fl_b956)
theorem fl_r7_61 : fl_R 57344 61312 := fl_J fl_r7_60 (fl_L 61248 fl_b957)
theorem fl_r7_62 : fl_R 57344 61376 := fl_J fl_r7_61 (fl_L 61312 fl_b958)
theorem fl_r7_63 : fl_R 57344 61440 := fl_J fl_r7_62 (fl_L 61376 fl_b959)
theorem fl_r7_64 : fl_R 57344 61504 := fl_J fl_r7_63 (fl_L 61440 fl_b960)
theorem fl_r7_65 : fl_R 57344 61568 := fl_J fl_r7_64 (fl_L 61504 fl_b961)
theorem fl_r7_66 : fl_R 57344 61632 := fl_J fl_r7_65 (fl_L 61568 fl_b962)
theorem fl_r7_67 : fl_R 57344 61696 := fl_J fl_r7_66 (fl_L 61632 fl_b963)
theorem fl_r7_68 : fl_R 57344 61760 := fl_J fl_r7_67 (fl_L 61696 fl_b964)
theorem fl_r7_69 : fl_R 57344 61824 := fl_J fl_r7_68 (fl_L 61760 fl_b965)
theorem fl_r7_70 : fl_R 57344 61888 := fl_J fl_r7_69 (fl_L 61824 fl_b966)
theorem fl_r7_71 : fl_R 57344 61952 := fl_J fl_r7_70 (fl_L 61888 fl_b967)
theorem fl_r7_72 : fl_R 57344 62016 := fl_J fl_r7_71 (fl_L 61952 fl_b968)
theorem fl_r7_73 : fl_R 57344 62080 := fl_J fl_r7_72 (fl_L 62016 fl_b969)
theorem fl_r7_74 : fl_R 57344 62144 := fl_J fl_r7_73 (fl_L 62080 fl_b970)
theorem fl_r7_75 : fl_R 57344 62208 := fl_J fl_r7_74 (fl_L 62144 fl_b971)
theorem fl_r7_76 : fl_R 57344 62272 := fl_J fl_r7_75 (fl_L 62208 fl_b972)
theorem fl_r7_77 : fl_R 57344 62336 := fl_J fl_r7_76 (fl_L 62272 fl_b973)
theorem fl_r7_78 : fl_R 57344 62400 := fl_J fl_r7_77 (fl_L 62336 fl_b974)
theorem fl_r7_79 : fl_R 57344 62464 := fl_J fl_r7_78 (fl_L 62400 fl_b975)
theorem fl_r7_80 : fl_R 57344 62528 := fl_J fl_r7_79 (fl_L 62464 fl_b976)
theorem fl_r7_81 : fl_R 57344 62592 := fl_J fl_r7_80 (fl_L 62528 fl_b977)
theorem fl_r7_82 : fl_R 57344 62656 := fl_J fl_r7_81 (fl_L 62592 fl_b978)
theorem fl_r7_83 : fl_R 57344 62720 := fl_J fl_r7_82 (fl_L 62656 fl_b979)
theorem fl_r7_84 : fl_R 57344 62784 := fl_J fl_r7_83 (fl_L 62720 fl_b980)
theorem fl_r7_85 : fl_R 57344 62848 := fl_J fl_r7_84 (fl_L 62784 fl_b981)
theorem fl_r7_86 : fl_R 57344 62912 := fl_J fl_r7_85 (fl_L 62848 fl_b982)
theorem fl_r7_87 : fl_R 57344 62976 := fl_J fl_r7_86 (fl_L 62912 fl_b983)
theorem fl_r7_88 : fl_R 57344 63040 := fl_J fl_r7_87 (fl_L 62976 fl_b984)
theorem fl_r7_89 : fl_R 57344 63104 := fl_J fl_r7_88 (fl_L 63040 fl_b985)
theorem fl_r7_90 : fl_R 57344 63168 := fl_J fl_r7_89 (fl_L 63104 fl_b986)
theorem fl_r7_91 : fl_R 57344 63232 := fl_J fl_r7_90 (fl_L 63168 fl_b987)
theorem fl_r7_92 : fl_R 57344 63296 := fl_J fl_r7_91 (fl_L 63232 fl_b988)
theorem fl_r7_93 : fl_R 57344 63360 := fl_J fl_r7_92 (fl_L 63296 fl_b989)
theorem fl_r7_94 : fl_R 57344 63424 := fl_J fl_r7_93 (fl_L 63360 fl_b990)
theorem fl_r7_95 : fl_R 57344 63488 := fl_J fl_r7_94 (fl_L 63424 fl_b991)
theorem fl_r7_96 : fl_R 57344 63552 := fl_J fl_r7_95 (fl_L 63488 fl_b992)
theorem fl_r7_97 : fl_R 57344 63616 := fl_J fl_r7_96 (fl_L 63552 fl_b993)
theorem fl_r7_98 : fl_R 57344 63680 := fl_J fl_r7_97 (fl_L 63616 fl_b994)
theorem fl_r7_99 : fl_R 57344 63744 := fl_J fl_r7_98 (fl_L 63680 fl_b995)
theorem fl_r7_100 : fl_R 57344 63808 := fl_J fl_r7_99 (fl_L 63744 fl_b996)
theorem fl_r7_101 : fl_R 57344 63872 := fl_J fl_r7_100 (fl_L 63808 fl_b997)
theorem fl_r7_102 : fl_R 57344 63936 := fl_J fl_r7_101 (fl_L 63872 fl_b998)
theorem fl_r7_103 : fl_R 57344 64000 := fl_J fl_r7_102 (fl_L 63936 fl_b999)
theorem fl_r7_104 : fl_R 57344 64064 := fl_J fl_r7_103 (fl_L 64000 fl_b1000)
theorem fl_r7_105 : fl_R 57344 64128 := fl_J fl_r7_104 (fl_L 64064 fl_b1001)
theorem fl_r7_106 : fl_R 57344 64192 := fl_J fl_r7_105 (fl_L 64128 fl_b1002)
theorem fl_r7_107 : fl_R 57344 64256 := fl_J fl_r7_106 (fl_L 64192 fl_b1003)
theorem fl_r7_108 : fl_R 57344 64320 := fl_J fl_r7_107 (fl_L 64256 fl_b1004)
theorem fl_r7_109 : fl_R 57344 64384 := fl_J fl_r7_108 (fl_L 64320 fl_b1005)
theorem fl_r7_110 : fl_R 57344 64448 := fl_J fl_r7_109 (fl_L 64384 fl_b1006)
theorem fl_r7_111 : fl_R 57344 64512 := fl_J fl_r7_110 (fl_L 64448 fl_b1007)
theorem fl_r7_112 : fl_R 57344 64576 := fl_J fl_r7_111 (fl_L 64512 fl_b1008)
theorem fl_r7_113 : fl_R 57344 64640 := fl_J fl_r7_112 (fl_L 64576 fl_b1009)
theorem fl_r7_114 : fl_R 57344 64704 := fl_J fl_r7_113 (fl_L 64640 fl_b1010)
theorem fl_r7_115 : fl_R 57344 64768 := fl_J fl_r7_114 (fl_L 64704 fl_b1011)
theorem fl_r7_116 : fl_R 57344 64832 := fl_J fl_r7_115 (fl_L 64768 fl_b1012)
theorem fl_r7_117 : fl_R 57344 64896 := fl_J fl_r7_116 (fl_L 64832 fl_b1013)
theorem fl_r7_118 : fl_R 57344 64960 := fl_J fl_r7_117 (fl_L 64896 fl_b1014)
theorem fl_r7_119 : fl_R 57344 65024 := fl_J fl_r7_118 (fl_L 64960 fl_b1015)
theorem fl_r7_120 : fl_R 57344 65088 := fl_J fl_r7_119 (fl_L 65024 fl_b1016)
theorem fl_r7_121 : fl_R 57344 65152 := fl_J fl_r7_120 (fl_L 65088 fl_b1017)
theorem fl_r7_122 : fl_R 57344 65216 := fl_J fl_r7_121 (fl_L 65152 fl_b1018)
theorem fl_r7_123 : fl_R 57344 65280 := fl_J fl_r7_122 (fl_L 65216 fl_b1019)
theorem fl_r7_124 : fl_R 57344 65344 := fl_J fl_r7_123 (fl_L 65280 fl_b1020)
theorem fl_r7_125 : fl_R 57344 65408 := fl_J fl_r7_124 (fl_L 65344 fl_b1021)
theorem fl_r7_126 : fl_R 57344 65472 := fl_J fl_r7_125 (fl_L 65408 fl_b1022)
theorem fl_r7_127 : fl_R 57344 65536 := fl_J fl_r7_126 (fl_L 65472 fl_b1023)
theorem fl_R7 : fl_R 57344 65536 := fl_r7_127

theorem dX0_ofNumber_0 : decode cX0_ofNumber 0 = .ok (.dload_n 0, 1) := by decide +kernel
theorem dX0_ofNumber_1 : decode cX0_ofNumber 1 = .ok (.dstore_n 2, 1) := by decide +kernel
theorem dX0_ofNumber_2 : decode cX0_ofNumber 2 = .ok (.iconst 0, 1) := by decide +kernel
theorem dX0_ofNumber_3 : decode cX0_ofNumber 3 = .ok (.istore 4, 2) := by decide +kernel
theorem dX0_ofNumber_5 : decode cX0_ofNumber 5 = .ok (.iload 4, 2) := by decide +kernel
theorem dX0_ofNumber_7 : decode cX0_ofNumber 7 = .ok (.sipush 1023, 3) := by decide +kernel
theorem dX0_ofNumber_10 : decode cX0_ofNumber 10 = .ok (.if_icmp .ge 23, 3) := by decide +kernel
theorem dX0_ofNumber_13 : decode cX0_ofNumber 13 = .ok (.dload_n 2, 1) := by decide +kernel
theorem dX0_ofNumber_14 : decode cX0_ofNumber 14 = .ok (.ldc2_w 9, 3) := by decide +kernel
theorem dX0_ofNumber_17 : decode cX0_ofNumber 17 = .ok (.dcmp .l, 1) := by decide +kernel
theorem dX0_ofNumber_18 : decode cX0_ofNumber 18 = .ok (.ifCond .lt 15, 3) := by decide +kernel
theorem dX0_ofNumber_21 : decode cX0_ofNumber 21 = .ok (.dload_n 2, 1) := by decide +kernel
theorem dX0_ofNumber_22 : decode cX0_ofNumber 22 = .ok (.ldc2_w 9, 3) := by decide +kernel
theorem dX0_ofNumber_25 : decode cX0_ofNumber 25 = .ok (.ddiv, 1) := by decide +kernel
theorem dX0_ofNumber_26 : decode cX0_ofNumber 26 = .ok (.dstore_n 2, 1) := by decide +kernel
theorem dX0_ofNumber_27 : decode cX0_ofNumber 27 = .ok (.iinc 4 1, 3) := by decide +kernel
theorem dX0_ofNumber_30 : decode cX0_ofNumber 30 = .ok (.goto (-25), 3) := by decide +kernel
theorem dX0_ofNumber_33 : decode cX0_ofNumber 33 = .ok (.iload 4, 2) := by decide +kernel
theorem dX0_ofNumber_35 : decode cX0_ofNumber 35 = .ok (.sipush (-1023), 3) := by decide +kernel
theorem dX0_ofNumber_38 : decode cX0_ofNumber 38 = .ok (.if_icmp .le 21, 3) := by decide +kernel
theorem dX0_ofNumber_41 : decode cX0_ofNumber 41 = .ok (.dload_n 2, 1) := by decide +kernel
theorem dX0_ofNumber_42 : decode cX0_ofNumber 42 = .ok (.dconst 1, 1) := by decide +kernel
theorem dX0_ofNumber_43 : decode cX0_ofNumber 43 = .ok (.dcmp .g, 1) := by decide +kernel
theorem dX0_ofNumber_44 : decode cX0_ofNumber 44 = .ok (.ifCond .ge 15, 3) := by decide +kernel
theorem dX0_ofNumber_47 : decode cX0_ofNumber 47 = .ok (.dload_n 2, 1) := by decide +kernel
theorem dX0_ofNumber_48 : decode cX0_ofNumber 48 = .ok (.ldc2_w 9, 3) := by decide +kernel
theorem dX0_ofNumber_51 : decode cX0_ofNumber 51 = .ok (.dmul, 1) := by decide +kernel
theorem dX0_ofNumber_52 : decode cX0_ofNumber 52 = .ok (.dstore_n 2, 1) := by decide +kernel
theorem dX0_ofNumber_53 : decode cX0_ofNumber 53 = .ok (.iinc 4 (-1), 3) := by decide +kernel
theorem dX0_ofNumber_56 : decode cX0_ofNumber 56 = .ok (.goto (-23), 3) := by decide +kernel
theorem dX0_ofNumber_59 : decode cX0_ofNumber 59 = .ok (.dload_n 2, 1) := by decide +kernel
theorem dX0_ofNumber_60 : decode cX0_ofNumber 60 = .ok (.ldc2_w 11, 3) := by decide +kernel
theorem dX0_ofNumber_63 : decode cX0_ofNumber 63 = .ok (.dmul, 1) := by decide +kernel
theorem dX0_ofNumber_64 : decode cX0_ofNumber 64 = .ok (.d2l, 1) := by decide +kernel
theorem dX0_ofNumber_65 : decode cX0_ofNumber 65 = .ok (.lstore 5, 2) := by decide +kernel
theorem dX0_ofNumber_67 : decode cX0_ofNumber 67 = .ok (.iload 4, 2) := by decide +kernel
theorem dX0_ofNumber_69 : decode cX0_ofNumber 69 = .ok (.sipush 1023, 3) := by decide +kernel
theorem dX0_ofNumber_72 : decode cX0_ofNumber 72 = .ok (.iadd, 1) := by decide +kernel
theorem dX0_ofNumber_73 : decode cX0_ofNumber 73 = .ok (.i2l, 1) := by decide +kernel
theorem dX0_ofNumber_74 : decode cX0_ofNumber 74 = .ok (.bipush 52, 2) := by decide +kernel
theorem dX0_ofNumber_76 : decode cX0_ofNumber 76 = .ok (.lshl, 1) := by decide +kernel
theorem dX0_ofNumber_77 : decode cX0_ofNumber 77 = .ok (.lload 5, 2) := by decide +kernel
theorem dX0_ofNumber_79 : decode cX0_ofNumber 79 = .ok (.ldc2_w 13, 3) := by decide +kernel
theorem dX0_ofNumber_82 : decode cX0_ofNumber 82 = .ok (.lsub, 1) := by decide +kernel
theorem dX0_ofNumber_83 : decode cX0_ofNumber 83 = .ok (.ladd, 1) := by decide +kernel
theorem dX0_ofNumber_84 : decode cX0_ofNumber 84 = .ok (.lreturn, 1) := by decide +kernel
theorem dX0_toNumber_0 : decode cX0_toNumber 0 = .ok (.lload_n 0, 1) := by decide +kernel
theorem dX0_toNumber_1 : decode cX0_toNumber 1 = .ok (.invokestatic 15, 3) := by decide +kernel
theorem dX0_toNumber_4 : decode cX0_toNumber 4 = .ok (.l2d, 1) := by decide +kernel
theorem dX0_toNumber_5 : decode cX0_toNumber 5 = .ok (.lconst 1, 1) := by decide +kernel
theorem dX0_toNumber_6 : decode cX0_toNumber 6 = .ok (.lload_n 0, 1) := by decide +kernel
theorem dX0_toNumber_7 : decode cX0_toNumber 7 = .ok (.invokestatic 19, 3) := by decide +kernel
theorem dX0_toNumber_10 : decode cX0_toNumber 10 = .ok (.ineg, 1) := by decide +kernel
theorem dX0_toNumber_11 : decode cX0_toNumber 11 = .ok (.lshl, 1) := by decide +kernel
theorem dX0_toNumber_12 : decode cX0_toNumber 12 = .ok (.l2d, 1) := by decide +kernel
theorem dX0_toNumber_13 : decode cX0_toNumber 13 = .ok (.ddiv, 1) := by decide +kernel
theorem dX0_toNumber_14 : decode cX0_toNumber 14 = .ok (.dreturn, 1) := by decide +kernel
theorem dX0_mantissaOf_0 : decode cX0_mantissaOf 0 = .ok (.lload_n 0, 1) := by decide +kernel
theorem dX0_mantissaOf_1 : decode cX0_mantissaOf 1 = .ok (.ldc2_w 23, 3) := by decide +kernel
theorem dX0_mantissaOf_4 : decode cX0_mantissaOf 4 = .ok (.land, 1) := by decide +kernel
theorem dX0_mantissaOf_5 : decode cX0_mantissaOf 5 = .ok (.ldc2_w 13, 3) := by decide +kernel
theorem dX0_mantissaOf_8 : decode cX0_mantissaOf 8 = .ok (.lor, 1) := by decide +kernel
theorem dX0_mantissaOf_9 : decode cX0_mantissaOf 9 = .ok (.lreturn, 1) := by decide +kernel
theorem dX0_scaleOf_0 : decode cX0_scaleOf 0 = .ok (.lload_n 0, 1) := by decide +kernel
theorem dX0_scaleOf_1 : decode cX0_scaleOf 1 = .ok (.bipush 52, 2) := by decide +kernel
theorem dX0_scaleOf_3 : decode cX0_scaleOf 3 = .ok (.lushr, 1) := by decide +kernel
theorem dX0_scaleOf_4 : decode cX0_scaleOf 4 = .ok (.ldc2_w 25, 3) := by decide +kernel
theorem dX0_scaleOf_7 : decode cX0_scaleOf 7 = .ok (.land, 1) := by decide +kernel
theorem dX0_scaleOf_8 : decode cX0_scaleOf 8 = .ok (.l2i, 1) := by decide +kernel
theorem dX0_scaleOf_9 : decode cX0_scaleOf 9 = .ok (.sipush 1023, 3) := by decide +kernel
theorem dX0_scaleOf_12 : decode cX0_scaleOf 12 = .ok (.isub, 1) := by decide +kernel
theorem dX0_scaleOf_13 : decode cX0_scaleOf 13 = .ok (.bipush 52, 2) := by decide +kernel
theorem dX0_scaleOf_15 : decode cX0_scaleOf 15 = .ok (.isub, 1) := by decide +kernel
theorem dX0_scaleOf_16 : decode cX0_scaleOf 16 = .ok (.ireturn, 1) := by decide +kernel
theorem dX1_ofEighths_0 : decode cX1_ofEighths 0 = .ok (.iload_n 0, 1) := by decide +kernel
theorem dX1_ofEighths_1 : decode cX1_ofEighths 1 = .ok (.i2d, 1) := by decide +kernel
theorem dX1_ofEighths_2 : decode cX1_ofEighths 2 = .ok (.ldc2_w 7, 3) := by decide +kernel
theorem dX1_ofEighths_5 : decode cX1_ofEighths 5 = .ok (.ddiv, 1) := by decide +kernel
theorem dX1_ofEighths_6 : decode cX1_ofEighths 6 = .ok (.dstore_n 1, 1) := by decide +kernel
theorem dX1_ofEighths_7 : decode cX1_ofEighths 7 = .ok (.dload_n 1, 1) := by decide +kernel
theorem dX1_ofEighths_8 : decode cX1_ofEighths 8 = .ok (.invokestatic 9, 3) := by decide +kernel
theorem dX1_ofEighths_11 : decode cX1_ofEighths 11 = .ok (.bipush 32, 2) := by decide +kernel
theorem dX1_ofEighths_13 : decode cX1_ofEighths 13 = .ok (.lushr, 1) := by decide +kernel
theorem dX1_ofEighths_14 : decode cX1_ofEighths 14 = .ok (.lstore_n 3, 1) := by decide +kernel
theorem dX1_ofEighths_15 : decode cX1_ofEighths 15 = .ok (.lload_n 3, 1) := by decide +kernel
theorem dX1_ofEighths_16 : decode cX1_ofEighths 16 = .ok (.ldc2_w 15, 3) := by decide +kernel
theorem dX1_ofEighths_19 : decode cX1_ofEighths 19 = .ok (.ldiv, 1) := by decide +kernel
theorem dX1_ofEighths_20 : decode cX1_ofEighths 20 = .ok (.ldc2_w 19, 3) := by decide +kernel
theorem dX1_ofEighths_23 : decode cX1_ofEighths 23 = .ok (.ladd, 1) := by decide +kernel
theorem dX1_ofEighths_24 : decode cX1_ofEighths 24 = .ok (.bipush 32, 2) := by decide +kernel
theorem dX1_ofEighths_26 : decode cX1_ofEighths 26 = .ok (.lshl, 1) := by decide +kernel
theorem dX1_ofEighths_27 : decode cX1_ofEighths 27 = .ok (.invokestatic 21, 3) := by decide +kernel
theorem dX1_ofEighths_30 : decode cX1_ofEighths 30 = .ok (.dstore 5, 2) := by decide +kernel
theorem dX1_ofEighths_32 : decode cX1_ofEighths 32 = .ok (.dload 5, 2) := by decide +kernel
theorem dX1_ofEighths_34 : decode cX1_ofEighths 34 = .ok (.dload 5, 2) := by decide +kernel
theorem dX1_ofEighths_36 : decode cX1_ofEighths 36 = .ok (.dmul, 1) := by decide +kernel
theorem dX1_ofEighths_37 : decode cX1_ofEighths 37 = .ok (.dload_n 1, 1) := by decide +kernel
theorem dX1_ofEighths_38 : decode cX1_ofEighths 38 = .ok (.ddiv, 1) := by decide +kernel
theorem dX1_ofEighths_39 : decode cX1_ofEighths 39 = .ok (.dstore 7, 2) := by decide +kernel
theorem dX1_ofEighths_41 : decode cX1_ofEighths 41 = .ok (.ldc2_w 25, 3) := by decide +kernel
theorem dX1_ofEighths_44 : decode cX1_ofEighths 44 = .ok (.dload 7, 2) := by decide +kernel
theorem dX1_ofEighths_46 : decode cX1_ofEighths 46 = .ok (.dload 5, 2) := by decide +kernel
theorem dX1_ofEighths_48 : decode cX1_ofEighths 48 = .ok (.dmul, 1) := by decide +kernel
theorem dX1_ofEighths_49 : decode cX1_ofEighths 49 = .ok (.dadd, 1) := by decide +kernel
theorem dX1_ofEighths_50 : decode cX1_ofEighths 50 = .ok (.dstore 9, 2) := by decide +kernel
theorem dX1_ofEighths_52 : decode cX1_ofEighths 52 = .ok (.dload 5, 2) := by decide +kernel
theorem dX1_ofEighths_54 : decode cX1_ofEighths 54 = .ok (.ldc2_w 27, 3) := by decide +kernel
theorem dX1_ofEighths_57 : decode cX1_ofEighths 57 = .ok (.ldc2_w 29, 3) := by decide +kernel
theorem dX1_ofEighths_60 : decode cX1_ofEighths 60 = .ok (.dload 9, 2) := by decide +kernel
theorem dX1_ofEighths_62 : decode cX1_ofEighths 62 = .ok (.ldc2_w 31, 3) := by decide +kernel
theorem dX1_ofEighths_65 : decode cX1_ofEighths 65 = .ok (.dadd, 1) := by decide +kernel
theorem dX1_ofEighths_66 : decode cX1_ofEighths 66 = .ok (.ldc2_w 33, 3) := by decide +kernel
theorem dX1_ofEighths_69 : decode cX1_ofEighths 69 = .ok (.dload 9, 2) := by decide +kernel
theorem dX1_ofEighths_71 : decode cX1_ofEighths 71 = .ok (.ddiv, 1) := by decide +kernel
theorem dX1_ofEighths_72 : decode cX1_ofEighths 72 = .ok (.dsub, 1) := by decide +kernel
theorem dX1_ofEighths_73 : decode cX1_ofEighths 73 = .ok (.ddiv, 1) := by decide +kernel
theorem dX1_ofEighths_74 : decode cX1_ofEighths 74 = .ok (.dadd, 1) := by decide +kernel
theorem dX1_ofEighths_75 : decode cX1_ofEighths 75 = .ok (.dmul, 1) := by decide +kernel
theorem dX1_ofEighths_76 : decode cX1_ofEighths 76 = .ok (.dstore 5, 2) := by decide +kernel
theorem dX1_ofEighths_78 : decode cX1_ofEighths 78 = .ok (.dload 5, 2) := by decide +kernel
theorem dX1_ofEighths_80 : decode cX1_ofEighths 80 = .ok (.invokestatic 9, 3) := by decide +kernel
theorem dX1_ofEighths_83 : decode cX1_ofEighths 83 = .ok (.bipush 32, 2) := by decide +kernel
theorem dX1_ofEighths_85 : decode cX1_ofEighths 85 = .ok (.lushr, 1) := by decide +kernel
theorem dX1_ofEighths_86 : decode cX1_ofEighths 86 = .ok (.lstore_n 3, 1) := by decide +kernel
theorem dX1_ofEighths_87 : decode cX1_ofEighths 87 = .ok (.lload_n 3, 1) := by decide +kernel
theorem dX1_ofEighths_88 : decode cX1_ofEighths 88 = .ok (.lconst 1, 1) := by decide +kernel
theorem dX1_ofEighths_89 : decode cX1_ofEighths 89 = .ok (.ladd, 1) := by decide +kernel
theorem dX1_ofEighths_90 : decode cX1_ofEighths 90 = .ok (.bipush 32, 2) := by decide +kernel
theorem dX1_ofEighths_92 : decode cX1_ofEighths 92 = .ok (.lshl, 1) := by decide +kernel
theorem dX1_ofEighths_93 : decode cX1_ofEighths 93 = .ok (.invokestatic 21, 3) := by decide +kernel
theorem dX1_ofEighths_96 : decode cX1_ofEighths 96 = .ok (.dstore 5, 2) := by decide +kernel
theorem dX1_ofEighths_98 : decode cX1_ofEighths 98 = .ok (.dload 5, 2) := by decide +kernel
theorem dX1_ofEighths_100 : decode cX1_ofEighths 100 = .ok (.dload 5, 2) := by decide +kernel
theorem dX1_ofEighths_102 : decode cX1_ofEighths 102 = .ok (.dmul, 1) := by decide +kernel
theorem dX1_ofEighths_103 : decode cX1_ofEighths 103 = .ok (.dstore 9, 2) := by decide +kernel
theorem dX1_ofEighths_105 : decode cX1_ofEighths 105 = .ok (.dload_n 1, 1) := by decide +kernel
theorem dX1_ofEighths_106 : decode cX1_ofEighths 106 = .ok (.dload 9, 2) := by decide +kernel
theorem dX1_ofEighths_108 : decode cX1_ofEighths 108 = .ok (.ddiv, 1) := by decide +kernel
theorem dX1_ofEighths_109 : decode cX1_ofEighths 109 = .ok (.dstore 7, 2) := by decide +kernel
theorem dX1_ofEighths_111 : decode cX1_ofEighths 111 = .ok (.dload 7, 2) := by decide +kernel
theorem dX1_ofEighths_113 : decode cX1_ofEighths 113 = .ok (.dload 5, 2) := by decide +kernel
theorem dX1_ofEighths_115 : decode cX1_ofEighths 115 = .ok (.dsub, 1) := by decide +kernel
theorem dX1_ofEighths_116 : decode cX1_ofEighths 116 = .ok (.dload 5, 2) := by decide +kernel
theorem dX1_ofEighths_118 : decode cX1_ofEighths 118 = .ok (.dload 5, 2) := by decide +kernel
theorem dX1_ofEighths_120 : decode cX1_ofEighths 120 = .ok (.dadd, 1) := by decide +kernel
theorem dX1_ofEighths_121 : decode cX1_ofEighths 121 = .ok (.dload 7, 2) := by decide +kernel
theorem dX1_ofEighths_123 : decode cX1_ofEighths 123 = .ok (.dadd, 1) := by decide +kernel
theorem dX1_ofEighths_124 : decode cX1_ofEighths 124 = .ok (.ddiv, 1) := by decide +kernel
theorem dX1_ofEighths_125 : decode cX1_ofEighths 125 = .ok (.dstore 7, 2) := by decide +kernel
theorem dX1_ofEighths_127 : decode cX1_ofEighths 127 = .ok (.dload 5, 2) := by decide +kernel
theorem dX1_ofEighths_129 : decode cX1_ofEighths 129 = .ok (.dload 5, 2) := by decide +kernel
theorem dX1_ofEighths_131 : decode cX1_ofEighths 131 = .ok (.dload 7, 2) := by decide +kernel
theorem dX1_ofEighths_133 : decode cX1_ofEighths 133 = .ok (.dmul, 1) := by decide +kernel
theorem dX1_ofEighths_134 : decode cX1_ofEighths 134 = .ok (.dadd, 1) := by decide +kernel
theorem dX1_ofEighths_135 : decode cX1_ofEighths 135 = .ok (.invokestatic 9, 3) := by decide +kernel
theorem dX1_ofEighths_138 : decode cX1_ofEighths 138 = .ok (.lreturn, 1) := by decide +kernel
theorem dX2_ofVolume_0 : decode cX2_ofVolume 0 = .ok (.iload_n 0, 1) := by decide +kernel
theorem dX2_ofVolume_1 : decode cX2_ofVolume 1 = .ok (.invokestatic 7, 3) := by decide +kernel
theorem dX2_ofVolume_4 : decode cX2_ofVolume 4 = .ok (.istore_n 1, 1) := by decide +kernel
theorem dX2_ofVolume_5 : decode cX2_ofVolume 5 = .ok (.iload_n 1, 1) := by decide +kernel
theorem dX2_ofVolume_6 : decode cX2_ofVolume 6 = .ok (.ifCond .le 10, 3) := by decide +kernel
theorem dX2_ofVolume_9 : decode cX2_ofVolume 9 = .ok (.iload_n 1, 1) := by decide +kernel
theorem dX2_ofVolume_10 : decode cX2_ofVolume 10 = .ok (.invokestatic 13, 3) := by decide +kernel
theorem dX2_ofVolume_13 : decode cX2_ofVolume 13 = .ok (.goto 4, 3) := by decide +kernel
theorem dX2_ofVolume_16 : decode cX2_ofVolume 16 = .ok (.lconst 0, 1) := by decide +kernel
theorem dX2_ofVolume_17 : decode cX2_ofVolume 17 = .ok (.lstore_n 2, 1) := by decide +kernel
theorem dX2_ofVolume_18 : decode cX2_ofVolume 18 = .ok (.iload_n 0, 1) := by decide +kernel
theorem dX2_ofVolume_19 : decode cX2_ofVolume 19 = .ok (.invokestatic 19, 3) := by decide +kernel
theorem dX2_ofVolume_22 : decode cX2_ofVolume 22 = .ok (.ifCond .eq 11, 3) := by decide +kernel
theorem dX2_ofVolume_25 : decode cX2_ofVolume 25 = .ok (.lload_n 2, 1) := by decide +kernel
theorem dX2_ofVolume_26 : decode cX2_ofVolume 26 = .ok (.ldc2_w 25, 3) := by decide +kernel
theorem dX2_ofVolume_29 : decode cX2_ofVolume 29 = .ok (.lor, 1) := by decide +kernel
theorem dX2_ofVolume_30 : decode cX2_ofVolume 30 = .ok (.goto 4, 3) := by decide +kernel
theorem dX2_ofVolume_33 : decode cX2_ofVolume 33 = .ok (.lload_n 2, 1) := by decide +kernel
theorem dX2_ofVolume_34 : decode cX2_ofVolume 34 = .ok (.lreturn, 1) := by decide +kernel
theorem dX2_isZero_0 : decode cX2_isZero 0 = .ok (.lload_n 0, 1) := by decide +kernel
theorem dX2_isZero_1 : decode cX2_isZero 1 = .ok (.invokestatic 27, 3) := by decide +kernel
theorem dX2_isZero_4 : decode cX2_isZero 4 = .ok (.lconst 0, 1) := by decide +kernel
theorem dX2_isZero_5 : decode cX2_isZero 5 = .ok (.lcmp, 1) := by decide +kernel
theorem dX2_isZero_6 : decode cX2_isZero 6 = .ok (.ifCond .ne 7, 3) := by decide +kernel
theorem dX2_isZero_9 : decode cX2_isZero 9 = .ok (.iconst 1, 1) := by decide +kernel
theorem dX2_isZero_10 : decode cX2_isZero 10 = .ok (.goto 4, 3) := by decide +kernel
theorem dX2_isZero_13 : decode cX2_isZero 13 = .ok (.iconst 0, 1) := by decide +kernel
theorem dX2_isZero_14 : decode cX2_isZero 14 = .ok (.ireturn, 1) := by decide +kernel
theorem dX2_withoutSign_0 : decode cX2_withoutSign 0 = .ok (.lload_n 0, 1) := by decide +kernel
theorem dX2_withoutSign_1 : decode cX2_withoutSign 1 = .ok (.ldc2_w 31, 3) := by decide +kernel
theorem dX2_withoutSign_4 : decode cX2_withoutSign 4 = .ok (.land, 1) := by decide +kernel
theorem dX2_withoutSign_5 : decode cX2_withoutSign 5 = .ok (.lreturn, 1) := by decide +kernel
theorem dX2_isLess_0 : decode cX2_isLess 0 = .ok (.lload_n 0, 1) := by decide +kernel
theorem dX2_isLess_1 : decode cX2_isLess 1 = .ok (.invokestatic 33, 3) := by decide +kernel
theorem dX2_isLess_4 : decode cX2_isLess 4 = .ok (.lload_n 2, 1) := by decide +kernel
theorem dX2_isLess_5 : decode cX2_isLess 5 = .ok (.invokestatic 33, 3) := by decide +kernel
theorem dX2_isLess_8 : decode cX2_isLess 8 = .ok (.lcmp, 1) := by decide +kernel
theorem dX2_isLess_9 : decode cX2_isLess 9 = .ok (.ifCond .ge 7, 3) := by decide +kernel
theorem dX2_isLess_12 : decode cX2_isLess 12 = .ok (.iconst 1, 1) := by decide +kernel
theorem dX2_isLess_13 : decode cX2_isLess 13 = .ok (.goto 4, 3) := by decide +kernel
theorem dX2_isLess_16 : decode cX2_isLess 16 = .ok (.iconst 0, 1) := by decide +kernel
theorem dX2_isLess_17 : decode cX2_isLess 17 = .ok (.ireturn, 1) := by decide +kernel
theorem dX2_rankOf_0 : decode cX2_rankOf 0 = .ok (.lload_n 0, 1) := by decide +kernel
theorem dX2_rankOf_1 : decode cX2_rankOf 1 = .ok (.lconst 0, 1) := by decide +kernel
theorem dX2_rankOf_2 : decode cX2_rankOf 2 = .ok (.lcmp, 1) := by decide +kernel
theorem dX2_rankOf_3 : decode cX2_rankOf 3 = .ok (.ifCond .ge 11, 3) := by decide +kernel
theorem dX2_rankOf_6 : decode cX2_rankOf 6 = .ok (.lload_n 0, 1) := by decide +kernel
theorem dX2_rankOf_7 : decode cX2_rankOf 7 = .ok (.invokestatic 27, 3) := by decide +kernel
theorem dX2_rankOf_10 : decode cX2_rankOf 10 = .ok (.lneg, 1) := by decide +kernel
theorem dX2_rankOf_11 : decode cX2_rankOf 11 = .ok (.goto 4, 3) := by decide +kernel
theorem dX2_rankOf_14 : decode cX2_rankOf 14 = .ok (.lload_n 0, 1) := by decide +kernel
theorem dX2_rankOf_15 : decode cX2_rankOf 15 = .ok (.lreturn, 1) := by decide +kernel
theorem dX2_fineOf_0 : decode cX2_fineOf 0 = .ok (.lload_n 0, 1) := by decide +kernel
theorem dX2_fineOf_1 : decode cX2_fineOf 1 = .ok (.invokestatic 36, 3) := by decide +kernel
theorem dX2_fineOf_4 : decode cX2_fineOf 4 = .ok (.ifCond .eq 5, 3) := by decide +kernel
theorem dX2_fineOf_7 : decode cX2_fineOf 7 = .ok (.iconst 0, 1) := by decide +kernel
theorem dX2_fineOf_8 : decode cX2_fineOf 8 = .ok (.ireturn, 1) := by decide +kernel
theorem dX2_fineOf_9 : decode cX2_fineOf 9 = .ok (.lload_n 0, 1) := by decide +kernel
theorem dX2_fineOf_10 : decode cX2_fineOf 10 = .ok (.invokestatic 40, 3) := by decide +kernel
theorem dX2_fineOf_13 : decode cX2_fineOf 13 = .ok (.lload_n 0, 1) := by decide +kernel
theorem dX2_fineOf_14 : decode cX2_fineOf 14 = .ok (.invokestatic 45, 3) := by decide +kernel
theorem dX2_fineOf_17 : decode cX2_fineOf 17 = .ok (.bipush 10, 2) := by decide +kernel
theorem dX2_fineOf_19 : decode cX2_fineOf 19 = .ok (.iadd, 1) := by decide +kernel
theorem dX2_fineOf_20 : decode cX2_fineOf 20 = .ok (.ineg, 1) := by decide +kernel
theorem dX2_fineOf_21 : decode cX2_fineOf 21 = .ok (.lshr, 1) := by decide +kernel
theorem dX2_fineOf_22 : decode cX2_fineOf 22 = .ok (.l2i, 1) := by decide +kernel
theorem dX2_fineOf_23 : decode cX2_fineOf 23 = .ok (.istore_n 2, 1) := by decide +kernel
theorem dX2_fineOf_24 : decode cX2_fineOf 24 = .ok (.lload_n 0, 1) := by decide +kernel
theorem dX2_fineOf_25 : decode cX2_fineOf 25 = .ok (.lconst 0, 1) := by decide +kernel
theorem dX2_fineOf_26 : decode cX2_fineOf 26 = .ok (.lcmp, 1) := by decide +kernel
theorem dX2_fineOf_27 : decode cX2_fineOf 27 = .ok (.ifCond .ge 8, 3) := by decide +kernel
theorem dX2_fineOf_30 : decode cX2_fineOf 30 = .ok (.iload_n 2, 1) := by decide +kernel
theorem dX2_fineOf_31 : decode cX2_fineOf 31 = .ok (.ineg, 1) := by decide +kernel
theorem dX2_fineOf_32 : decode cX2_fineOf 32 = .ok (.goto 4, 3) := by decide +kernel
theorem dX2_fineOf_35 : decode cX2_fineOf 35 = .ok (.iload_n 2, 1) := by decide +kernel
theorem dX2_fineOf_36 : decode cX2_fineOf 36 = .ok (.ireturn, 1) := by decide +kernel
theorem dX2_wholeOf_0 : decode cX2_wholeOf 0 = .ok (.lload_n 0, 1) := by decide +kernel
theorem dX2_wholeOf_1 : decode cX2_wholeOf 1 = .ok (.invokestatic 49, 3) := by decide +kernel
theorem dX2_wholeOf_4 : decode cX2_wholeOf 4 = .ok (.sipush 1024, 3) := by decide +kernel
theorem dX2_wholeOf_7 : decode cX2_wholeOf 7 = .ok (.idiv, 1) := by decide +kernel
theorem dX2_wholeOf_8 : decode cX2_wholeOf 8 = .ok (.ireturn, 1) := by decide +kernel
theorem dX2_isHalves_0 : decode cX2_isHalves 0 = .ok (.lconst 1, 1) := by decide +kernel
theorem dX2_isHalves_1 : decode cX2_isHalves 1 = .ok (.lload_n 0, 1) := by decide +kernel
theorem dX2_isHalves_2 : decode cX2_isHalves 2 = .ok (.invokestatic 45, 3) := by decide +kernel
theorem dX2_isHalves_5 : decode cX2_isHalves 5 = .ok (.iconst 1, 1) := by decide +kernel
theorem dX2_isHalves_6 : decode cX2_isHalves 6 = .ok (.iadd, 1) := by decide +kernel
theorem dX2_isHalves_7 : decode cX2_isHalves 7 = .ok (.ineg, 1) := by decide +kernel
theorem dX2_isHalves_8 : decode cX2_isHalves 8 = .ok (.lshl, 1) := by decide +kernel
theorem dX2_isHalves_9 : decode cX2_isHalves 9 = .ok (.lconst 1, 1) := by decide +kernel
theorem dX2_isHalves_10 : decode cX2_isHalves 10 = .ok (.lsub, 1) := by decide +kernel
theorem dX2_isHalves_11 : decode cX2_isHalves 11 = .ok (.lstore_n 2, 1) := by decide +kernel
theorem dX2_isHalves_12 : decode cX2_isHalves 12 = .ok (.lload_n 0, 1) := by decide +kernel
theorem dX2_isHalves_13 : decode cX2_isHalves 13 = .ok (.invokestatic 36, 3) := by decide +kernel
theorem dX2_isHalves_16 : decode cX2_isHalves 16 = .ok (.ifCond .ne 14, 3) := by decide +kernel
theorem dX2_isHalves_19 : decode cX2_isHalves 19 = .ok (.lload_n 0, 1) := by decide +kernel
theorem dX2_isHalves_20 : decode cX2_isHalves 20 = .ok (.invokestatic 40, 3) := by decide +kernel
theorem dX2_isHalves_23 : decode cX2_isHalves 23 = .ok (.lload_n 2, 1) := by decide +kernel
theorem dX2_isHalves_24 : decode cX2_isHalves 24 = .ok (.land, 1) := by decide +kernel
theorem dX2_isHalves_25 : decode cX2_isHalves 25 = .ok (.lconst 0, 1) := by decide +kernel
theorem dX2_isHalves_26 : decode cX2_isHalves 26 = .ok (.lcmp, 1) := by decide +kernel
theorem dX2_isHalves_27 : decode cX2_isHalves 27 = .ok (.ifCond .ne 7, 3) := by decide +kernel
theorem dX2_isHalves_30 : decode cX2_isHalves 30 = .ok (.iconst 1, 1) := by decide +kernel
theorem dX2_isHalves_31 : decode cX2_isHalves 31 = .ok (.goto 4, 3) := by decide +kernel
theorem dX2_isHalves_34 : decode cX2_isHalves 34 = .ok (.iconst 0, 1) := by decide +kernel
theorem dX2_isHalves_35 : decode cX2_isHalves 35 = .ok (.ireturn, 1) := by decide +kernel
theorem dX2_twice_0 : decode cX2_twice 0 = .ok (.lload_n 0, 1) := by decide +kernel
theorem dX2_twice_1 : decode cX2_twice 1 = .ok (.invokestatic 36, 3) := by decide +kernel
theorem dX2_twice_4 : decode cX2_twice 4 = .ok (.ifCond .eq 7, 3) := by decide +kernel
theorem dX2_twice_7 : decode cX2_twice 7 = .ok (.lload_n 0, 1) := by decide +kernel
theorem dX2_twice_8 : decode cX2_twice 8 = .ok (.goto 8, 3) := by decide +kernel
theorem dX2_twice_11 : decode cX2_twice 11 = .ok (.lload_n 0, 1) := by decide +kernel
theorem dX2_twice_12 : decode cX2_twice 12 = .ok (.ldc2_w 52, 3) := by decide +kernel
theorem dX2_twice_15 : decode cX2_twice 15 = .ok (.ladd, 1) := by decide +kernel
theorem dX2_twice_16 : decode cX2_twice 16 = .ok (.lreturn, 1) := by decide +kernel
theorem dX3_init_0 : decode cX3_init 0 = .ok (.aload_n 0, 1) := by decide +kernel
theorem dX3_init_1 : decode cX3_init 1 = .ok (.invokespecial 1, 3) := by decide +kernel
theorem dX3_init_4 : decode cX3_init 4 = .ok (.aload_n 0, 1) := by decide +kernel
theorem dX3_init_5 : decode cX3_init 5 = .ok (.new 7, 3) := by decide +kernel
theorem dX3_init_8 : decode cX3_init 8 = .ok (.dup, 1) := by decide +kernel
theorem dX3_init_9 : decode cX3_init 9 = .ok (.invokespecial 9, 3) := by decide +kernel
theorem dX3_init_12 : decode cX3_init 12 = .ok (.putfield 10, 3) := by decide +kernel
theorem dX3_init_15 : decode cX3_init 15 = .ok (.aload_n 0, 1) := by decide +kernel
theorem dX3_init_16 : decode cX3_init 16 = .ok (.new 7, 3) := by decide +kernel
theorem dX3_init_19 : decode cX3_init 19 = .ok (.dup, 1) := by decide +kernel
theorem dX3_init_20 : decode cX3_init 20 = .ok (.invokespecial 9, 3) := by decide +kernel
theorem dX3_init_23 : decode cX3_init 23 = .ok (.putfield 16, 3) := by decide +kernel
theorem dX3_init_26 : decode cX3_init 26 = .ok (.aload_n 0, 1) := by decide +kernel
theorem dX3_init_27 : decode cX3_init 27 = .ok (.new 7, 3) := by decide +kernel
theorem dX3_init_30 : decode cX3_init 30 = .ok (.dup, 1) := by decide +kernel
theorem dX3_init_31 : decode cX3_init 31 = .ok (.invokespecial 9, 3) := by decide +kernel
theorem dX3_init_34 : decode cX3_init 34 = .ok (.putfield 19, 3) := by decide +kernel
theorem dX3_init_37 : decode cX3_init 37 = .ok (.return_, 1) := by decide +kernel
theorem dX3_holdsOf_0 : decode cX3_holdsOf 0 = .ok (.lload_n 2, 1) := by decide +kernel
theorem dX3_holdsOf_1 : decode cX3_holdsOf 1 = .ok (.iload_n 1, 1) := by decide +kernel
theorem dX3_holdsOf_2 : decode cX3_holdsOf 2 = .ok (.invokestatic 22, 3) := by decide +kernel
theorem dX3_holdsOf_5 : decode cX3_holdsOf 5 = .ok (.invokestatic 28, 3) := by decide +kernel
theorem dX3_holdsOf_8 : decode cX3_holdsOf 8 = .ok (.invokestatic 34, 3) := by decide +kernel
theorem dX3_holdsOf_11 : decode cX3_holdsOf 11 = .ok (.ifCond .ne 5, 3) := by decide +kernel
theorem dX3_holdsOf_14 : decode cX3_holdsOf 14 = .ok (.iconst 0, 1) := by decide +kernel
theorem dX3_holdsOf_15 : decode cX3_holdsOf 15 = .ok (.ireturn, 1) := by decide +kernel
theorem dX3_holdsOf_16 : decode cX3_holdsOf 16 = .ok (.iload_n 1, 1) := by decide +kernel
theorem dX3_holdsOf_17 : decode cX3_holdsOf 17 = .ok (.invokestatic 38, 3) := by decide +kernel
theorem dX3_holdsOf_20 : decode cX3_holdsOf 20 = .ok (.istore 4, 2) := by decide +kernel
theorem dX3_holdsOf_22 : decode cX3_holdsOf 22 = .ok (.iload 4, 2) := by decide +kernel
theorem dX3_holdsOf_24 : decode cX3_holdsOf 24 = .ok (.iconst (-1), 1) := by decide +kernel
theorem dX3_holdsOf_25 : decode cX3_holdsOf 25 = .ok (.if_icmp .eq 17, 3) := by decide +kernel
theorem dX3_holdsOf_28 : decode cX3_holdsOf 28 = .ok (.lload_n 2, 1) := by decide +kernel
theorem dX3_holdsOf_29 : decode cX3_holdsOf 29 = .ok (.iload 4, 2) := by decide +kernel
theorem dX3_holdsOf_31 : decode cX3_holdsOf 31 = .ok (.invokestatic 28, 3) := by decide +kernel
theorem dX3_holdsOf_34 : decode cX3_holdsOf 34 = .ok (.invokestatic 41, 3) := by decide +kernel
theorem dX3_holdsOf_37 : decode cX3_holdsOf 37 = .ok (.ifCond .ne 5, 3) := by decide +kernel
theorem dX3_holdsOf_40 : decode cX3_holdsOf 40 = .ok (.iconst 0, 1) := by decide +kernel
theorem dX3_holdsOf_41 : decode cX3_holdsOf 41 = .ok (.ireturn, 1) := by decide +kernel
theorem dX3_holdsOf_42 : decode cX3_holdsOf 42 = .ok (.iload_n 1, 1) := by decide +kernel
theorem dX3_holdsOf_43 : decode cX3_holdsOf 43 = .ok (.invokestatic 44, 3) := by decide +kernel
theorem dX3_holdsOf_46 : decode cX3_holdsOf 46 = .ok (.istore 5, 2) := by decide +kernel
theorem dX3_holdsOf_48 : decode cX3_holdsOf 48 = .ok (.iload 5, 2) := by decide +kernel
theorem dX3_holdsOf_50 : decode cX3_holdsOf 50 = .ok (.ifCond .le 15, 3) := by decide +kernel
theorem dX3_holdsOf_53 : decode cX3_holdsOf 53 = .ok (.aload_n 0, 1) := by decide +kernel
theorem dX3_holdsOf_54 : decode cX3_holdsOf 54 = .ok (.iload 5, 2) := by decide +kernel
theorem dX3_holdsOf_56 : decode cX3_holdsOf 56 = .ok (.lload_n 2, 1) := by decide +kernel
theorem dX3_holdsOf_57 : decode cX3_holdsOf 57 = .ok (.invokevirtual 47, 3) := by decide +kernel
theorem dX3_holdsOf_60 : decode cX3_holdsOf 60 = .ok (.ifCond .ne 5, 3) := by decide +kernel
theorem dX3_holdsOf_63 : decode cX3_holdsOf 63 = .ok (.iconst 0, 1) := by decide +kernel
theorem dX3_holdsOf_64 : decode cX3_holdsOf 64 = .ok (.ireturn, 1) := by decide +kernel
theorem dX3_holdsOf_65 : decode cX3_holdsOf 65 = .ok (.lload_n 2, 1) := by decide +kernel
theorem dX3_holdsOf_66 : decode cX3_holdsOf 66 = .ok (.invokestatic 51, 3) := by decide +kernel
theorem dX3_holdsOf_69 : decode cX3_holdsOf 69 = .ok (.invokestatic 55, 3) := by decide +kernel
theorem dX3_holdsOf_72 : decode cX3_holdsOf 72 = .ok (.ifCond .eq 19, 3) := by decide +kernel
theorem dX3_holdsOf_75 : decode cX3_holdsOf 75 = .ok (.iload 5, 2) := by decide +kernel
theorem dX3_holdsOf_77 : decode cX3_holdsOf 77 = .ok (.lload_n 2, 1) := by decide +kernel
theorem dX3_holdsOf_78 : decode cX3_holdsOf 78 = .ok (.invokestatic 59, 3) := by decide +kernel
theorem dX3_holdsOf_81 : decode cX3_holdsOf 81 = .ok (.invokestatic 63, 3) := by decide +kernel
theorem dX3_holdsOf_84 : decode cX3_holdsOf 84 = .ok (.ifCond .eq 7, 3) := by decide +kernel
theorem dX3_holdsOf_87 : decode cX3_holdsOf 87 = .ok (.iconst 1, 1) := by decide +kernel
theorem dX3_holdsOf_88 : decode cX3_holdsOf 88 = .ok (.goto 4, 3) := by decide +kernel
theorem dX3_holdsOf_91 : decode cX3_holdsOf 91 = .ok (.iconst 0, 1) := by decide +kernel
theorem dX3_holdsOf_92 : decode cX3_holdsOf 92 = .ok (.ireturn, 1) := by decide +kernel
theorem dX3_holdsOfTwo_0 : decode cX3_holdsOfTwo 0 = .ok (.iload_n 1, 1) := by decide +kernel
theorem dX3_holdsOfTwo_1 : decode cX3_holdsOfTwo 1 = .ok (.lload_n 2, 1) := by decide +kernel
theorem dX3_holdsOfTwo_2 : decode cX3_holdsOfTwo 2 = .ok (.iload 4, 2) := by decide +kernel
theorem dX3_holdsOfTwo_4 : decode cX3_holdsOfTwo 4 = .ok (.lload 5, 2) := by decide +kernel
theorem dX3_holdsOfTwo_6 : decode cX3_holdsOfTwo 6 = .ok (.invokestatic 66, 3) := by decide +kernel
theorem dX3_holdsOfTwo_9 : decode cX3_holdsOfTwo 9 = .ok (.ifCond .eq 15, 3) := by decide +kernel
theorem dX3_holdsOfTwo_12 : decode cX3_holdsOfTwo 12 = .ok (.iload 4, 2) := by decide +kernel
theorem dX3_holdsOfTwo_14 : decode cX3_holdsOfTwo 14 = .ok (.lload 5, 2) := by decide +kernel
theorem dX3_holdsOfTwo_16 : decode cX3_holdsOfTwo 16 = .ok (.iload_n 1, 1) := by decide +kernel
theorem dX3_holdsOfTwo_17 : decode cX3_holdsOfTwo 17 = .ok (.lload_n 2, 1) := by decide +kernel
theorem dX3_holdsOfTwo_18 : decode cX3_holdsOfTwo 18 = .ok (.invokestatic 66, 3) := by decide +kernel
theorem dX3_holdsOfTwo_21 : decode cX3_holdsOfTwo 21 = .ok (.ifCond .ne 5, 3) := by decide +kernel
theorem dX3_holdsOfTwo_24 : decode cX3_holdsOfTwo 24 = .ok (.iconst 0, 1) := by decide +kernel
theorem dX3_holdsOfTwo_25 : decode cX3_holdsOfTwo 25 = .ok (.ireturn, 1) := by decide +kernel
theorem dX3_holdsOfTwo_26 : decode cX3_holdsOfTwo 26 = .ok (.iload_n 1, 1) := by decide +kernel
theorem dX3_holdsOfTwo_27 : decode cX3_holdsOfTwo 27 = .ok (.iload 4, 2) := by decide +kernel
theorem dX3_holdsOfTwo_29 : decode cX3_holdsOfTwo 29 = .ok (.invokestatic 70, 3) := by decide +kernel
theorem dX3_holdsOfTwo_32 : decode cX3_holdsOfTwo 32 = .ok (.istore 7, 2) := by decide +kernel
theorem dX3_holdsOfTwo_34 : decode cX3_holdsOfTwo 34 = .ok (.iload 7, 2) := by decide +kernel
theorem dX3_holdsOfTwo_36 : decode cX3_holdsOfTwo 36 = .ok (.iconst (-1), 1) := by decide +kernel
theorem dX3_holdsOfTwo_37 : decode cX3_holdsOfTwo 37 = .ok (.if_icmp .eq 20, 3) := by decide +kernel
theorem dX3_holdsOfTwo_40 : decode cX3_holdsOfTwo 40 = .ok (.aload_n 0, 1) := by decide +kernel
theorem dX3_holdsOfTwo_41 : decode cX3_holdsOfTwo 41 = .ok (.lload_n 2, 1) := by decide +kernel
theorem dX3_holdsOfTwo_42 : decode cX3_holdsOfTwo 42 = .ok (.lload 5, 2) := by decide +kernel
theorem dX3_holdsOfTwo_44 : decode cX3_holdsOfTwo 44 = .ok (.iload 7, 2) := by decide +kernel
theorem dX3_holdsOfTwo_46 : decode cX3_holdsOfTwo 46 = .ok (.invokestatic 28, 3) := by decide +kernel
theorem dX3_holdsOfTwo_49 : decode cX3_holdsOfTwo 49 = .ok (.invokevirtual 74, 3) := by decide +kernel
theorem dX3_holdsOfTwo_52 : decode cX3_holdsOfTwo 52 = .ok (.ifCond .ne 5, 3) := by decide +kernel
theorem dX3_holdsOfTwo_55 : decode cX3_holdsOfTwo 55 = .ok (.iconst 0, 1) := by decide +kernel
theorem dX3_holdsOfTwo_56 : decode cX3_holdsOfTwo 56 = .ok (.ireturn, 1) := by decide +kernel
theorem dX3_holdsOfTwo_57 : decode cX3_holdsOfTwo 57 = .ok (.iload_n 1, 1) := by decide +kernel
theorem dX3_holdsOfTwo_58 : decode cX3_holdsOfTwo 58 = .ok (.invokestatic 78, 3) := by decide +kernel
theorem dX3_holdsOfTwo_61 : decode cX3_holdsOfTwo 61 = .ok (.ifCond .eq 11, 3) := by decide +kernel
theorem dX3_holdsOfTwo_64 : decode cX3_holdsOfTwo 64 = .ok (.iload 4, 2) := by decide +kernel
theorem dX3_holdsOfTwo_66 : decode cX3_holdsOfTwo 66 = .ok (.invokestatic 78, 3) := by decide +kernel
theorem dX3_holdsOfTwo_69 : decode cX3_holdsOfTwo 69 = .ok (.ifCond .ne 5, 3) := by decide +kernel
theorem dX3_holdsOfTwo_72 : decode cX3_holdsOfTwo 72 = .ok (.iconst 1, 1) := by decide +kernel
theorem dX3_holdsOfTwo_73 : decode cX3_holdsOfTwo 73 = .ok (.ireturn, 1) := by decide +kernel
theorem dX3_holdsOfTwo_74 : decode cX3_holdsOfTwo 74 = .ok (.iload_n 1, 1) := by decide +kernel
theorem dX3_holdsOfTwo_75 : decode cX3_holdsOfTwo 75 = .ok (.iload 4, 2) := by decide +kernel
theorem dX3_holdsOfTwo_77 : decode cX3_holdsOfTwo 77 = .ok (.invokestatic 81, 3) := by decide +kernel
theorem dX3_holdsOfTwo_80 : decode cX3_holdsOfTwo 80 = .ok (.istore 8, 2) := by decide +kernel
theorem dX3_holdsOfTwo_82 : decode cX3_holdsOfTwo 82 = .ok (.iload 8, 2) := by decide +kernel
theorem dX3_holdsOfTwo_84 : decode cX3_holdsOfTwo 84 = .ok (.iconst (-1), 1) := by decide +kernel
theorem dX3_holdsOfTwo_85 : decode cX3_holdsOfTwo 85 = .ok (.if_icmp .eq 17, 3) := by decide +kernel
theorem dX3_holdsOfTwo_88 : decode cX3_holdsOfTwo 88 = .ok (.iload 8, 2) := by decide +kernel
theorem dX3_holdsOfTwo_90 : decode cX3_holdsOfTwo 90 = .ok (.invokestatic 28, 3) := by decide +kernel
theorem dX3_holdsOfTwo_93 : decode cX3_holdsOfTwo 93 = .ok (.lload_n 2, 1) := by decide +kernel
theorem dX3_holdsOfTwo_94 : decode cX3_holdsOfTwo 94 = .ok (.lload 5, 2) := by decide +kernel
theorem dX3_holdsOfTwo_96 : decode cX3_holdsOfTwo 96 = .ok (.invokestatic 84, 3) := by decide +kernel
theorem dX3_holdsOfTwo_99 : decode cX3_holdsOfTwo 99 = .ok (.ifCond .eq 7, 3) := by decide +kernel
theorem dX3_holdsOfTwo_102 : decode cX3_holdsOfTwo 102 = .ok (.iconst 1, 1) := by decide +kernel
theorem dX3_holdsOfTwo_103 : decode cX3_holdsOfTwo 103 = .ok (.goto 4, 3) := by decide +kernel
theorem dX3_holdsOfTwo_106 : decode cX3_holdsOfTwo 106 = .ok (.iconst 0, 1) := by decide +kernel
theorem dX3_holdsOfTwo_107 : decode cX3_holdsOfTwo 107 = .ok (.ireturn, 1) := by decide +kernel
theorem dX3_isOpposite_0 : decode cX3_isOpposite 0 = .ok (.lload_n 2, 1) := by decide +kernel
theorem dX3_isOpposite_1 : decode cX3_isOpposite 1 = .ok (.lload_n 0, 1) := by decide +kernel
theorem dX3_isOpposite_2 : decode cX3_isOpposite 2 = .ok (.ldc2_w 87, 3) := by decide +kernel
theorem dX3_isOpposite_5 : decode cX3_isOpposite 5 = .ok (.lxor, 1) := by decide +kernel
theorem dX3_isOpposite_6 : decode cX3_isOpposite 6 = .ok (.lcmp, 1) := by decide +kernel
theorem dX3_isOpposite_7 : decode cX3_isOpposite 7 = .ok (.ifCond .ne 7, 3) := by decide +kernel
theorem dX3_isOpposite_10 : decode cX3_isOpposite 10 = .ok (.iconst 1, 1) := by decide +kernel
theorem dX3_isOpposite_11 : decode cX3_isOpposite 11 = .ok (.goto 4, 3) := by decide +kernel
theorem dX3_isOpposite_14 : decode cX3_isOpposite 14 = .ok (.iconst 0, 1) := by decide +kernel
theorem dX3_isOpposite_15 : decode cX3_isOpposite 15 = .ok (.ireturn, 1) := by decide +kernel
theorem dX3_isTwice_0 : decode cX3_isTwice 0 = .ok (.lload_n 2, 1) := by decide +kernel
theorem dX3_isTwice_1 : decode cX3_isTwice 1 = .ok (.lload_n 0, 1) := by decide +kernel
theorem dX3_isTwice_2 : decode cX3_isTwice 2 = .ok (.invokestatic 89, 3) := by decide +kernel
theorem dX3_isTwice_5 : decode cX3_isTwice 5 = .ok (.lcmp, 1) := by decide +kernel
theorem dX3_isTwice_6 : decode cX3_isTwice 6 = .ok (.ifCond .ne 7, 3) := by decide +kernel
theorem dX3_isTwice_9 : decode cX3_isTwice 9 = .ok (.iconst 1, 1) := by decide +kernel
theorem dX3_isTwice_10 : decode cX3_isTwice 10 = .ok (.goto 4, 3) := by decide +kernel
theorem dX3_isTwice_13 : decode cX3_isTwice 13 = .ok (.iconst 0, 1) := by decide +kernel
theorem dX3_isTwice_14 : decode cX3_isTwice 14 = .ok (.ireturn, 1) := by decide +kernel
theorem dX3_isBetweenCubes_0 : decode cX3_isBetweenCubes 0 = .ok (.lload_n 2, 1) := by decide +kernel
theorem dX3_isBetweenCubes_1 : decode cX3_isBetweenCubes 1 = .ok (.invokestatic 92, 3) := by decide +kernel
theorem dX3_isBetweenCubes_4 : decode cX3_isBetweenCubes 4 = .ok (.ifCond .eq 5, 3) := by decide +kernel
theorem dX3_isBetweenCubes_7 : decode cX3_isBetweenCubes 7 = .ok (.iconst 0, 1) := by decide +kernel
theorem dX3_isBetweenCubes_8 : decode cX3_isBetweenCubes 8 = .ok (.ireturn, 1) := by decide +kernel
theorem dX3_isBetweenCubes_9 : decode cX3_isBetweenCubes 9 = .ok (.lconst 1, 1) := by decide +kernel
theorem dX3_isBetweenCubes_10 : decode cX3_isBetweenCubes 10 = .ok (.lload_n 2, 1) := by decide +kernel
theorem dX3_isBetweenCubes_11 : decode cX3_isBetweenCubes 11 = .ok (.invokestatic 96, 3) := by decide +kernel
theorem dX3_isBetweenCubes_14 : decode cX3_isBetweenCubes 14 = .ok (.iconst 1, 1) := by decide +kernel
theorem dX3_isBetweenCubes_15 : decode cX3_isBetweenCubes 15 = .ok (.iadd, 1) := by decide +kernel
theorem dX3_isBetweenCubes_16 : decode cX3_isBetweenCubes 16 = .ok (.ineg, 1) := by decide +kernel
theorem dX3_isBetweenCubes_17 : decode cX3_isBetweenCubes 17 = .ok (.lshl, 1) := by decide +kernel
theorem dX3_isBetweenCubes_18 : decode cX3_isBetweenCubes 18 = .ok (.lstore 4, 2) := by decide +kernel
theorem dX3_isBetweenCubes_20 : decode cX3_isBetweenCubes 20 = .ok (.lload_n 2, 1) := by decide +kernel
theorem dX3_isBetweenCubes_21 : decode cX3_isBetweenCubes 21 = .ok (.invokestatic 101, 3) := by decide +kernel
theorem dX3_isBetweenCubes_24 : decode cX3_isBetweenCubes 24 = .ok (.lstore 6, 2) := by decide +kernel
theorem dX3_isBetweenCubes_26 : decode cX3_isBetweenCubes 26 = .ok (.aload_n 0, 1) := by decide +kernel
theorem dX3_isBetweenCubes_27 : decode cX3_isBetweenCubes 27 = .ok (.getfield 10, 3) := by decide +kernel
theorem dX3_isBetweenCubes_30 : decode cX3_isBetweenCubes 30 = .ok (.iload_n 1, 1) := by decide +kernel
theorem dX3_isBetweenCubes_31 : decode cX3_isBetweenCubes 31 = .ok (.i2l, 1) := by decide +kernel
theorem dX3_isBetweenCubes_32 : decode cX3_isBetweenCubes 32 = .ok (.lload 4, 2) := by decide +kernel
theorem dX3_isBetweenCubes_34 : decode cX3_isBetweenCubes 34 = .ok (.invokevirtual 104, 3) := by decide +kernel
theorem dX3_isBetweenCubes_37 : decode cX3_isBetweenCubes 37 = .ok (.aload_n 0, 1) := by decide +kernel
theorem dX3_isBetweenCubes_38 : decode cX3_isBetweenCubes 38 = .ok (.getfield 16, 3) := by decide +kernel
theorem dX3_isBetweenCubes_41 : decode cX3_isBetweenCubes 41 = .ok (.lconst 1, 1) := by decide +kernel
theorem dX3_isBetweenCubes_42 : decode cX3_isBetweenCubes 42 = .ok (.lload 6, 2) := by decide +kernel
theorem dX3_isBetweenCubes_44 : decode cX3_isBetweenCubes 44 = .ok (.lconst 1, 1) := by decide +kernel
theorem dX3_isBetweenCubes_45 : decode cX3_isBetweenCubes 45 = .ok (.lsub, 1) := by decide +kernel
theorem dX3_isBetweenCubes_46 : decode cX3_isBetweenCubes 46 = .ok (.invokevirtual 104, 3) := by decide +kernel
theorem dX3_isBetweenCubes_49 : decode cX3_isBetweenCubes 49 = .ok (.aload_n 0, 1) := by decide +kernel
theorem dX3_isBetweenCubes_50 : decode cX3_isBetweenCubes 50 = .ok (.getfield 16, 3) := by decide +kernel
theorem dX3_isBetweenCubes_53 : decode cX3_isBetweenCubes 53 = .ok (.aload_n 0, 1) := by decide +kernel
theorem dX3_isBetweenCubes_54 : decode cX3_isBetweenCubes 54 = .ok (.getfield 10, 3) := by decide +kernel
theorem dX3_isBetweenCubes_57 : decode cX3_isBetweenCubes 57 = .ok (.invokevirtual 108, 3) := by decide +kernel
theorem dX3_isBetweenCubes_60 : decode cX3_isBetweenCubes 60 = .ok (.ifCond .ne 5, 3) := by decide +kernel
theorem dX3_isBetweenCubes_63 : decode cX3_isBetweenCubes 63 = .ok (.iconst 0, 1) := by decide +kernel
theorem dX3_isBetweenCubes_64 : decode cX3_isBetweenCubes 64 = .ok (.ireturn, 1) := by decide +kernel
theorem dX3_isBetweenCubes_65 : decode cX3_isBetweenCubes 65 = .ok (.aload_n 0, 1) := by decide +kernel
theorem dX3_isBetweenCubes_66 : decode cX3_isBetweenCubes 66 = .ok (.getfield 16, 3) := by decide +kernel
theorem dX3_isBetweenCubes_69 : decode cX3_isBetweenCubes 69 = .ok (.lconst 1, 1) := by decide +kernel
theorem dX3_isBetweenCubes_70 : decode cX3_isBetweenCubes 70 = .ok (.lload 6, 2) := by decide +kernel
theorem dX3_isBetweenCubes_72 : decode cX3_isBetweenCubes 72 = .ok (.lconst 1, 1) := by decide +kernel
theorem dX3_isBetweenCubes_73 : decode cX3_isBetweenCubes 73 = .ok (.ladd, 1) := by decide +kernel
theorem dX3_isBetweenCubes_74 : decode cX3_isBetweenCubes 74 = .ok (.invokevirtual 104, 3) := by decide +kernel
theorem dX3_isBetweenCubes_77 : decode cX3_isBetweenCubes 77 = .ok (.aload_n 0, 1) := by decide +kernel
theorem dX3_isBetweenCubes_78 : decode cX3_isBetweenCubes 78 = .ok (.getfield 10, 3) := by decide +kernel
theorem dX3_isBetweenCubes_81 : decode cX3_isBetweenCubes 81 = .ok (.aload_n 0, 1) := by decide +kernel
theorem dX3_isBetweenCubes_82 : decode cX3_isBetweenCubes 82 = .ok (.getfield 16, 3) := by decide +kernel
theorem dX3_isBetweenCubes_85 : decode cX3_isBetweenCubes 85 = .ok (.invokevirtual 108, 3) := by decide +kernel
theorem dX3_isBetweenCubes_88 : decode cX3_isBetweenCubes 88 = .ok (.ireturn, 1) := by decide +kernel
theorem dX3_isRootOfItsCube_0 : decode cX3_isRootOfItsCube 0 = .ok (.iload_n 0, 1) := by decide +kernel
theorem dX3_isRootOfItsCube_1 : decode cX3_isRootOfItsCube 1 = .ok (.ifCond .ge 8, 3) := by decide +kernel
theorem dX3_isRootOfItsCube_4 : decode cX3_isRootOfItsCube 4 = .ok (.iload_n 0, 1) := by decide +kernel
theorem dX3_isRootOfItsCube_5 : decode cX3_isRootOfItsCube 5 = .ok (.ineg, 1) := by decide +kernel
theorem dX3_isRootOfItsCube_6 : decode cX3_isRootOfItsCube 6 = .ok (.goto 4, 3) := by decide +kernel
theorem dX3_isRootOfItsCube_9 : decode cX3_isRootOfItsCube 9 = .ok (.iload_n 0, 1) := by decide +kernel
theorem dX3_isRootOfItsCube_10 : decode cX3_isRootOfItsCube 10 = .ok (.istore_n 1, 1) := by decide +kernel
theorem dX3_isRootOfItsCube_11 : decode cX3_isRootOfItsCube 11 = .ok (.iload_n 1, 1) := by decide +kernel
theorem dX3_isRootOfItsCube_12 : decode cX3_isRootOfItsCube 12 = .ok (.iload_n 1, 1) := by decide +kernel
theorem dX3_isRootOfItsCube_13 : decode cX3_isRootOfItsCube 13 = .ok (.imul, 1) := by decide +kernel
theorem dX3_isRootOfItsCube_14 : decode cX3_isRootOfItsCube 14 = .ok (.iload_n 1, 1) := by decide +kernel
theorem dX3_isRootOfItsCube_15 : decode cX3_isRootOfItsCube 15 = .ok (.imul, 1) := by decide +kernel
theorem dX3_isRootOfItsCube_16 : decode cX3_isRootOfItsCube 16 = .ok (.istore_n 2, 1) := by decide +kernel
theorem dX3_isRootOfItsCube_17 : decode cX3_isRootOfItsCube 17 = .ok (.iload_n 2, 1) := by decide +kernel
theorem dX3_isRootOfItsCube_18 : decode cX3_isRootOfItsCube 18 = .ok (.i2l, 1) := by decide +kernel
theorem dX3_isRootOfItsCube_19 : decode cX3_isRootOfItsCube 19 = .ok (.invokestatic 112, 3) := by decide +kernel
theorem dX3_isRootOfItsCube_22 : decode cX3_isRootOfItsCube 22 = .ok (.ifCond .ne 5, 3) := by decide +kernel
theorem dX3_isRootOfItsCube_25 : decode cX3_isRootOfItsCube 25 = .ok (.iconst 1, 1) := by decide +kernel
theorem dX3_isRootOfItsCube_26 : decode cX3_isRootOfItsCube 26 = .ok (.ireturn, 1) := by decide +kernel
theorem dX3_isRootOfItsCube_27 : decode cX3_isRootOfItsCube 27 = .ok (.iload_n 2, 1) := by decide +kernel
theorem dX3_isRootOfItsCube_28 : decode cX3_isRootOfItsCube 28 = .ok (.iload_n 0, 1) := by decide +kernel
theorem dX3_isRootOfItsCube_29 : decode cX3_isRootOfItsCube 29 = .ok (.ifCond .ge 7, 3) := by decide +kernel
theorem dX3_isRootOfItsCube_32 : decode cX3_isRootOfItsCube 32 = .ok (.iconst 2, 1) := by decide +kernel
theorem dX3_isRootOfItsCube_33 : decode cX3_isRootOfItsCube 33 = .ok (.goto 4, 3) := by decide +kernel
theorem dX3_isRootOfItsCube_36 : decode cX3_isRootOfItsCube 36 = .ok (.iconst 0, 1) := by decide +kernel
theorem dX3_isRootOfItsCube_37 : decode cX3_isRootOfItsCube 37 = .ok (.invokestatic 115, 3) := by decide +kernel
theorem dX3_isRootOfItsCube_40 : decode cX3_isRootOfItsCube 40 = .ok (.invokestatic 28, 3) := by decide +kernel
theorem dX3_isRootOfItsCube_43 : decode cX3_isRootOfItsCube 43 = .ok (.lstore_n 3, 1) := by decide +kernel
theorem dX3_isRootOfItsCube_44 : decode cX3_isRootOfItsCube 44 = .ok (.lload_n 3, 1) := by decide +kernel
theorem dX3_isRootOfItsCube_45 : decode cX3_isRootOfItsCube 45 = .ok (.invokestatic 118, 3) := by decide +kernel
theorem dX3_isRootOfItsCube_48 : decode cX3_isRootOfItsCube 48 = .ok (.ifCond .eq 19, 3) := by decide +kernel
theorem dX3_isRootOfItsCube_51 : decode cX3_isRootOfItsCube 51 = .ok (.lload_n 3, 1) := by decide +kernel
theorem dX3_isRootOfItsCube_52 : decode cX3_isRootOfItsCube 52 = .ok (.invokestatic 121, 3) := by decide +kernel
theorem dX3_isRootOfItsCube_55 : decode cX3_isRootOfItsCube 55 = .ok (.sipush 1024, 3) := by decide +kernel
theorem dX3_isRootOfItsCube_58 : decode cX3_isRootOfItsCube 58 = .ok (.iload_n 0, 1) := by decide +kernel
theorem dX3_isRootOfItsCube_59 : decode cX3_isRootOfItsCube 59 = .ok (.imul, 1) := by decide +kernel
theorem dX3_isRootOfItsCube_60 : decode cX3_isRootOfItsCube 60 = .ok (.if_icmp .ne 7, 3) := by decide +kernel
theorem dX3_isRootOfItsCube_63 : decode cX3_isRootOfItsCube 63 = .ok (.iconst 1, 1) := by decide +kernel
theorem dX3_isRootOfItsCube_64 : decode cX3_isRootOfItsCube 64 = .ok (.goto 4, 3) := by decide +kernel
theorem dX3_isRootOfItsCube_67 : decode cX3_isRootOfItsCube 67 = .ok (.iconst 0, 1) := by decide +kernel
theorem dX3_isRootOfItsCube_68 : decode cX3_isRootOfItsCube 68 = .ok (.ireturn, 1) := by decide +kernel
theorem dX3_isOrdered_0 : decode cX3_isOrdered 0 = .ok (.iload_n 0, 1) := by decide +kernel
theorem dX3_isOrdered_1 : decode cX3_isOrdered 1 = .ok (.invokestatic 124, 3) := by decide +kernel
theorem dX3_isOrdered_4 : decode cX3_isOrdered 4 = .ok (.iload_n 3, 1) := by decide +kernel
theorem dX3_isOrdered_5 : decode cX3_isOrdered 5 = .ok (.invokestatic 124, 3) := by decide +kernel
theorem dX3_isOrdered_8 : decode cX3_isOrdered 8 = .ok (.if_icmp .ge 12, 3) := by decide +kernel
theorem dX3_isOrdered_11 : decode cX3_isOrdered 11 = .ok (.lload_n 1, 1) := by decide +kernel
theorem dX3_isOrdered_12 : decode cX3_isOrdered 12 = .ok (.lload 4, 2) := by decide +kernel
theorem dX3_isOrdered_14 : decode cX3_isOrdered 14 = .ok (.invokestatic 127, 3) := by decide +kernel
theorem dX3_isOrdered_17 : decode cX3_isOrdered 17 = .ok (.ifCond .eq 7, 3) := by decide +kernel
theorem dX3_isOrdered_20 : decode cX3_isOrdered 20 = .ok (.iconst 1, 1) := by decide +kernel
theorem dX3_isOrdered_21 : decode cX3_isOrdered 21 = .ok (.goto 4, 3) := by decide +kernel
theorem dX3_isOrdered_24 : decode cX3_isOrdered 24 = .ok (.iconst 0, 1) := by decide +kernel
theorem dX3_isOrdered_25 : decode cX3_isOrdered 25 = .ok (.ireturn, 1) := by decide +kernel
theorem dX3_isNearProduct_0 : decode cX3_isNearProduct 0 = .ok (.lload_n 1, 1) := by decide +kernel
theorem dX3_isNearProduct_1 : decode cX3_isNearProduct 1 = .ok (.invokestatic 92, 3) := by decide +kernel
theorem dX3_isNearProduct_4 : decode cX3_isNearProduct 4 = .ok (.ifCond .ne 18, 3) := by decide +kernel
theorem dX3_isNearProduct_7 : decode cX3_isNearProduct 7 = .ok (.lload_n 3, 1) := by decide +kernel
theorem dX3_isNearProduct_8 : decode cX3_isNearProduct 8 = .ok (.invokestatic 92, 3) := by decide +kernel
theorem dX3_isNearProduct_11 : decode cX3_isNearProduct 11 = .ok (.ifCond .ne 11, 3) := by decide +kernel
theorem dX3_isNearProduct_14 : decode cX3_isNearProduct 14 = .ok (.lload 5, 2) := by decide +kernel
theorem dX3_isNearProduct_16 : decode cX3_isNearProduct 16 = .ok (.invokestatic 92, 3) := by decide +kernel
theorem dX3_isNearProduct_19 : decode cX3_isNearProduct 19 = .ok (.ifCond .eq 31, 3) := by decide +kernel
theorem dX3_isNearProduct_22 : decode cX3_isNearProduct 22 = .ok (.lload 5, 2) := by decide +kernel
theorem dX3_isNearProduct_24 : decode cX3_isNearProduct 24 = .ok (.invokestatic 92, 3) := by decide +kernel
theorem dX3_isNearProduct_27 : decode cX3_isNearProduct 27 = .ok (.ifCond .eq 21, 3) := by decide +kernel
theorem dX3_isNearProduct_30 : decode cX3_isNearProduct 30 = .ok (.lload_n 1, 1) := by decide +kernel
theorem dX3_isNearProduct_31 : decode cX3_isNearProduct 31 = .ok (.invokestatic 92, 3) := by decide +kernel
theorem dX3_isNearProduct_34 : decode cX3_isNearProduct 34 = .ok (.ifCond .ne 10, 3) := by decide +kernel
theorem dX3_isNearProduct_37 : decode cX3_isNearProduct 37 = .ok (.lload_n 3, 1) := by decide +kernel
theorem dX3_isNearProduct_38 : decode cX3_isNearProduct 38 = .ok (.invokestatic 92, 3) := by decide +kernel
theorem dX3_isNearProduct_41 : decode cX3_isNearProduct 41 = .ok (.ifCond .eq 7, 3) := by decide +kernel
theorem dX3_isNearProduct_44 : decode cX3_isNearProduct 44 = .ok (.iconst 1, 1) := by decide +kernel
theorem dX3_isNearProduct_45 : decode cX3_isNearProduct 45 = .ok (.goto 4, 3) := by decide +kernel
theorem dX3_isNearProduct_48 : decode cX3_isNearProduct 48 = .ok (.iconst 0, 1) := by decide +kernel
theorem dX3_isNearProduct_49 : decode cX3_isNearProduct 49 = .ok (.ireturn, 1) := by decide +kernel
theorem dX3_isNearProduct_50 : decode cX3_isNearProduct 50 = .ok (.lload_n 1, 1) := by decide +kernel
theorem dX3_isNearProduct_51 : decode cX3_isNearProduct 51 = .ok (.lload_n 3, 1) := by decide +kernel
theorem dX3_isNearProduct_52 : decode cX3_isNearProduct 52 = .ok (.lxor, 1) := by decide +kernel
theorem dX3_isNearProduct_53 : decode cX3_isNearProduct 53 = .ok (.lload 5, 2) := by decide +kernel
theorem dX3_isNearProduct_55 : decode cX3_isNearProduct 55 = .ok (.lxor, 1) := by decide +kernel
theorem dX3_isNearProduct_56 : decode cX3_isNearProduct 56 = .ok (.ldc2_w 87, 3) := by decide +kernel
theorem dX3_isNearProduct_59 : decode cX3_isNearProduct 59 = .ok (.land, 1) := by decide +kernel
theorem dX3_isNearProduct_60 : decode cX3_isNearProduct 60 = .ok (.lconst 0, 1) := by decide +kernel
theorem dX3_isNearProduct_61 : decode cX3_isNearProduct 61 = .ok (.lcmp, 1) := by decide +kernel
theorem dX3_isNearProduct_62 : decode cX3_isNearProduct 62 = .ok (.ifCond .eq 5, 3) := by decide +kernel
theorem dX3_isNearProduct_65 : decode cX3_isNearProduct 65 = .ok (.iconst 0, 1) := by decide +kernel
theorem dX3_isNearProduct_66 : decode cX3_isNearProduct 66 = .ok (.ireturn, 1) := by decide +kernel
theorem dX3_isNearProduct_67 : decode cX3_isNearProduct 67 = .ok (.lload 5, 2) := by decide +kernel
theorem dX3_isNearProduct_69 : decode cX3_isNearProduct 69 = .ok (.invokestatic 96, 3) := by decide +kernel
theorem dX3_isNearProduct_72 : decode cX3_isNearProduct 72 = .ok (.lload_n 1, 1) := by decide +kernel
theorem dX3_isNearProduct_73 : decode cX3_isNearProduct 73 = .ok (.invokestatic 96, 3) := by decide +kernel
theorem dX3_isNearProduct_76 : decode cX3_isNearProduct 76 = .ok (.isub, 1) := by decide +kernel
theorem dX3_isNearProduct_77 : decode cX3_isNearProduct 77 = .ok (.lload_n 3, 1) := by decide +kernel
theorem dX3_isNearProduct_78 : decode cX3_isNearProduct 78 = .ok (.invokestatic 96, 3) := by decide +kernel
theorem dX3_isNearProduct_81 : decode cX3_isNearProduct 81 = .ok (.isub, 1) := by decide +kernel
theorem dX3_isNearProduct_82 : decode cX3_isNearProduct 82 = .ok (.istore 7, 2) := by decide +kernel
theorem dX3_isNearProduct_84 : decode cX3_isNearProduct 84 = .ok (.iload 7, 2) := by decide +kernel
theorem dX3_isNearProduct_86 : decode cX3_isNearProduct 86 = .ok (.ifCond .lt 10, 3) := by decide +kernel
theorem dX3_isNearProduct_89 : decode cX3_isNearProduct 89 = .ok (.iload 7, 2) := by decide +kernel
theorem dX3_isNearProduct_91 : decode cX3_isNearProduct 91 = .ok (.bipush 60, 2) := by decide +kernel
theorem dX3_isNearProduct_93 : decode cX3_isNearProduct 93 = .ok (.if_icmp .lt 5, 3) := by decide +kernel
theorem dX3_isNearProduct_96 : decode cX3_isNearProduct 96 = .ok (.iconst 0, 1) := by decide +kernel
theorem dX3_isNearProduct_97 : decode cX3_isNearProduct 97 = .ok (.ireturn, 1) := by decide +kernel
theorem dX3_isNearProduct_98 : decode cX3_isNearProduct 98 = .ok (.aload_n 0, 1) := by decide +kernel
theorem dX3_isNearProduct_99 : decode cX3_isNearProduct 99 = .ok (.getfield 10, 3) := by decide +kernel
theorem dX3_isNearProduct_102 : decode cX3_isNearProduct 102 = .ok (.lload_n 1, 1) := by decide +kernel
theorem dX3_isNearProduct_103 : decode cX3_isNearProduct 103 = .ok (.invokestatic 101, 3) := by decide +kernel
theorem dX3_isNearProduct_106 : decode cX3_isNearProduct 106 = .ok (.lload_n 3, 1) := by decide +kernel
theorem dX3_isNearProduct_107 : decode cX3_isNearProduct 107 = .ok (.invokestatic 101, 3) := by decide +kernel
theorem dX3_isNearProduct_110 : decode cX3_isNearProduct 110 = .ok (.invokevirtual 129, 3) := by decide +kernel
theorem dX3_isNearProduct_113 : decode cX3_isNearProduct 113 = .ok (.aload_n 0, 1) := by decide +kernel
theorem dX3_isNearProduct_114 : decode cX3_isNearProduct 114 = .ok (.getfield 16, 3) := by decide +kernel
theorem dX3_isNearProduct_117 : decode cX3_isNearProduct 117 = .ok (.lload 5, 2) := by decide +kernel
theorem dX3_isNearProduct_119 : decode cX3_isNearProduct 119 = .ok (.invokestatic 101, 3) := by decide +kernel
theorem dX3_isNearProduct_122 : decode cX3_isNearProduct 122 = .ok (.lconst 1, 1) := by decide +kernel
theorem dX3_isNearProduct_123 : decode cX3_isNearProduct 123 = .ok (.iload 7, 2) := by decide +kernel
theorem dX3_isNearProduct_125 : decode cX3_isNearProduct 125 = .ok (.lshl, 1) := by decide +kernel
theorem dX3_isNearProduct_126 : decode cX3_isNearProduct 126 = .ok (.invokevirtual 129, 3) := by decide +kernel
theorem dX3_isNearProduct_129 : decode cX3_isNearProduct 129 = .ok (.aload_n 0, 1) := by decide +kernel
theorem dX3_isNearProduct_130 : decode cX3_isNearProduct 130 = .ok (.getfield 19, 3) := by decide +kernel
theorem dX3_isNearProduct_133 : decode cX3_isNearProduct 133 = .ok (.aload_n 0, 1) := by decide +kernel
theorem dX3_isNearProduct_134 : decode cX3_isNearProduct 134 = .ok (.getfield 10, 3) := by decide +kernel
theorem dX3_isNearProduct_137 : decode cX3_isNearProduct 137 = .ok (.aload_n 0, 1) := by decide +kernel
theorem dX3_isNearProduct_138 : decode cX3_isNearProduct 138 = .ok (.getfield 16, 3) := by decide +kernel
theorem dX3_isNearProduct_141 : decode cX3_isNearProduct 141 = .ok (.invokevirtual 132, 3) := by decide +kernel
theorem dX3_isNearProduct_144 : decode cX3_isNearProduct 144 = .ok (.aload_n 0, 1) := by decide +kernel
theorem dX3_isNearProduct_145 : decode cX3_isNearProduct 145 = .ok (.getfield 19, 3) := by decide +kernel
theorem dX3_isNearProduct_148 : decode cX3_isNearProduct 148 = .ok (.ldc2_w 136, 3) := by decide +kernel
theorem dX3_isNearProduct_151 : decode cX3_isNearProduct 151 = .ok (.invokevirtual 138, 3) := by decide +kernel
theorem dX3_isNearProduct_154 : decode cX3_isNearProduct 154 = .ok (.aload_n 0, 1) := by decide +kernel
theorem dX3_isNearProduct_155 : decode cX3_isNearProduct 155 = .ok (.getfield 19, 3) := by decide +kernel
theorem dX3_isNearProduct_158 : decode cX3_isNearProduct 158 = .ok (.aload_n 0, 1) := by decide +kernel
theorem dX3_isNearProduct_159 : decode cX3_isNearProduct 159 = .ok (.getfield 16, 3) := by decide +kernel
theorem dX3_isNearProduct_162 : decode cX3_isNearProduct 162 = .ok (.invokevirtual 108, 3) := by decide +kernel
theorem dX3_isNearProduct_165 : decode cX3_isNearProduct 165 = .ok (.ireturn, 1) := by decide +kernel
theorem dX3_isLessThanSum_0 : decode cX3_isLessThanSum 0 = .ok (.lload_n 0, 1) := by decide +kernel
theorem dX3_isLessThanSum_1 : decode cX3_isLessThanSum 1 = .ok (.invokestatic 142, 3) := by decide +kernel
theorem dX3_isLessThanSum_4 : decode cX3_isLessThanSum 4 = .ok (.lload_n 2, 1) := by decide +kernel
theorem dX3_isLessThanSum_5 : decode cX3_isLessThanSum 5 = .ok (.invokestatic 142, 3) := by decide +kernel
theorem dX3_isLessThanSum_8 : decode cX3_isLessThanSum 8 = .ok (.lload 4, 2) := by decide +kernel
theorem dX3_isLessThanSum_10 : decode cX3_isLessThanSum 10 = .ok (.invokestatic 142, 3) := by decide +kernel
theorem dX3_isLessThanSum_13 : decode cX3_isLessThanSum 13 = .ok (.ladd, 1) := by decide +kernel
theorem dX3_isLessThanSum_14 : decode cX3_isLessThanSum 14 = .ok (.lcmp, 1) := by decide +kernel
theorem dX3_isLessThanSum_15 : decode cX3_isLessThanSum 15 = .ok (.ifCond .ge 7, 3) := by decide +kernel
theorem dX3_isLessThanSum_18 : decode cX3_isLessThanSum 18 = .ok (.iconst 1, 1) := by decide +kernel
theorem dX3_isLessThanSum_19 : decode cX3_isLessThanSum 19 = .ok (.goto 4, 3) := by decide +kernel
theorem dX3_isLessThanSum_22 : decode cX3_isLessThanSum 22 = .ok (.iconst 0, 1) := by decide +kernel
theorem dX3_isLessThanSum_23 : decode cX3_isLessThanSum 23 = .ok (.ireturn, 1) := by decide +kernel
theorem dX3_inSmallParts_0 : decode cX3_inSmallParts 0 = .ok (.lload_n 0, 1) := by decide +kernel
theorem dX3_inSmallParts_1 : decode cX3_inSmallParts 1 = .ok (.invokestatic 101, 3) := by decide +kernel
theorem dX3_inSmallParts_4 : decode cX3_inSmallParts 4 = .ok (.lload_n 0, 1) := by decide +kernel
theorem dX3_inSmallParts_5 : decode cX3_inSmallParts 5 = .ok (.invokestatic 96, 3) := by decide +kernel
theorem dX3_inSmallParts_8 : decode cX3_inSmallParts 8 = .ok (.bipush 53, 2) := by decide +kernel
theorem dX3_inSmallParts_10 : decode cX3_inSmallParts 10 = .ok (.iadd, 1) := by decide +kernel
theorem dX3_inSmallParts_11 : decode cX3_inSmallParts 11 = .ok (.lshl, 1) := by decide +kernel
theorem dX3_inSmallParts_12 : decode cX3_inSmallParts 12 = .ok (.lreturn, 1) := by decide +kernel
theorem dX3_isFine_0 : decode cX3_isFine 0 = .ok (.lload_n 1, 1) := by decide +kernel
theorem dX3_isFine_1 : decode cX3_isFine 1 = .ok (.invokestatic 121, 3) := by decide +kernel
theorem dX3_isFine_4 : decode cX3_isFine 4 = .ok (.i2l, 1) := by decide +kernel
theorem dX3_isFine_5 : decode cX3_isFine 5 = .ok (.lstore_n 3, 1) := by decide +kernel
theorem dX3_isFine_6 : decode cX3_isFine 6 = .ok (.iload_n 0, 1) := by decide +kernel
theorem dX3_isFine_7 : decode cX3_isFine 7 = .ok (.i2l, 1) := by decide +kernel
theorem dX3_isFine_8 : decode cX3_isFine 8 = .ok (.bipush 27, 2) := by decide +kernel
theorem dX3_isFine_10 : decode cX3_isFine 10 = .ok (.lshl, 1) := by decide +kernel
theorem dX3_isFine_11 : decode cX3_isFine 11 = .ok (.lstore 5, 2) := by decide +kernel
theorem dX3_isFine_13 : decode cX3_isFine 13 = .ok (.lload_n 3, 1) := by decide +kernel
theorem dX3_isFine_14 : decode cX3_isFine 14 = .ok (.lload_n 3, 1) := by decide +kernel
theorem dX3_isFine_15 : decode cX3_isFine 15 = .ok (.lmul, 1) := by decide +kernel
theorem dX3_isFine_16 : decode cX3_isFine 16 = .ok (.lload_n 3, 1) := by decide +kernel
theorem dX3_isFine_17 : decode cX3_isFine 17 = .ok (.lmul, 1) := by decide +kernel
theorem dX3_isFine_18 : decode cX3_isFine 18 = .ok (.lload 5, 2) := by decide +kernel
theorem dX3_isFine_20 : decode cX3_isFine 20 = .ok (.lcmp, 1) := by decide +kernel
theorem dX3_isFine_21 : decode cX3_isFine 21 = .ok (.ifCond .gt 24, 3) := by decide +kernel
theorem dX3_isFine_24 : decode cX3_isFine 24 = .ok (.lload_n 3, 1) := by decide +kernel
theorem dX3_isFine_25 : decode cX3_isFine 25 = .ok (.lconst 1, 1) := by decide +kernel
theorem dX3_isFine_26 : decode cX3_isFine 26 = .ok (.ladd, 1) := by decide +kernel
theorem dX3_isFine_27 : decode cX3_isFine 27 = .ok (.lload_n 3, 1) := by decide +kernel
theorem dX3_isFine_28 : decode cX3_isFine 28 = .ok (.lconst 1, 1) := by decide +kernel
theorem dX3_isFine_29 : decode cX3_isFine 29 = .ok (.ladd, 1) := by decide +kernel
theorem dX3_isFine_30 : decode cX3_isFine 30 = .ok (.lmul, 1) := by decide +kernel
theorem dX3_isFine_31 : decode cX3_isFine 31 = .ok (.lload_n 3, 1) := by decide +kernel
theorem dX3_isFine_32 : decode cX3_isFine 32 = .ok (.lconst 1, 1) := by decide +kernel
theorem dX3_isFine_33 : decode cX3_isFine 33 = .ok (.ladd, 1) := by decide +kernel
theorem dX3_isFine_34 : decode cX3_isFine 34 = .ok (.lmul, 1) := by decide +kernel
theorem dX3_isFine_35 : decode cX3_isFine 35 = .ok (.lload 5, 2) := by decide +kernel
theorem dX3_isFine_37 : decode cX3_isFine 37 = .ok (.lcmp, 1) := by decide +kernel
theorem dX3_isFine_38 : decode cX3_isFine 38 = .ok (.ifCond .le 7, 3) := by decide +kernel
theorem dX3_isFine_41 : decode cX3_isFine 41 = .ok (.iconst 1, 1) := by decide +kernel
theorem dX3_isFine_42 : decode cX3_isFine 42 = .ok (.goto 4, 3) := by decide +kernel
theorem dX3_isFine_45 : decode cX3_isFine 45 = .ok (.iconst 0, 1) := by decide +kernel
theorem dX3_isFine_46 : decode cX3_isFine 46 = .ok (.ireturn, 1) := by decide +kernel
theorem dX4_init_0 : decode cX4_init 0 = .ok (.aload_n 0, 1) := by decide +kernel
theorem dX4_init_1 : decode cX4_init 1 = .ok (.invokespecial 1, 3) := by decide +kernel
theorem dX4_init_4 : decode cX4_init 4 = .ok (.aload_n 0, 1) := by decide +kernel
theorem dX4_init_5 : decode cX4_init 5 = .ok (.bipush 60, 2) := by decide +kernel
theorem dX4_init_7 : decode cX4_init 7 = .ok (.newarray .int, 2) := by decide +kernel
theorem dX4_init_9 : decode cX4_init 9 = .ok (.putfield 9, 3) := by decide +kernel
theorem dX4_init_12 : decode cX4_init 12 = .ok (.aload_n 0, 1) := by decide +kernel
theorem dX4_init_13 : decode cX4_init 13 = .ok (.bipush 60, 2) := by decide +kernel
theorem dX4_init_15 : decode cX4_init 15 = .ok (.newarray .int, 2) := by decide +kernel
theorem dX4_init_17 : decode cX4_init 17 = .ok (.putfield 13, 3) := by decide +kernel
theorem dX4_init_20 : decode cX4_init 20 = .ok (.return_, 1) := by decide +kernel
theorem dX4_isFull_0 : decode cX4_isFull 0 = .ok (.aload_n 0, 1) := by decide +kernel
theorem dX4_isFull_1 : decode cX4_isFull 1 = .ok (.getfield 16, 3) := by decide +kernel
theorem dX4_isFull_4 : decode cX4_isFull 4 = .ok (.bipush 60, 2) := by decide +kernel
theorem dX4_isFull_6 : decode cX4_isFull 6 = .ok (.if_icmp .lt 7, 3) := by decide +kernel
theorem dX4_isFull_9 : decode cX4_isFull 9 = .ok (.iconst 1, 1) := by decide +kernel
theorem dX4_isFull_10 : decode cX4_isFull 10 = .ok (.goto 4, 3) := by decide +kernel
theorem dX4_isFull_13 : decode cX4_isFull 13 = .ok (.iconst 0, 1) := by decide +kernel
theorem dX4_isFull_14 : decode cX4_isFull 14 = .ok (.ireturn, 1) := by decide +kernel
theorem dX4_isEmpty_0 : decode cX4_isEmpty 0 = .ok (.aload_n 0, 1) := by decide +kernel
theorem dX4_isEmpty_1 : decode cX4_isEmpty 1 = .ok (.getfield 16, 3) := by decide +kernel
theorem dX4_isEmpty_4 : decode cX4_isEmpty 4 = .ok (.ifCond .gt 7, 3) := by decide +kernel
theorem dX4_isEmpty_7 : decode cX4_isEmpty 7 = .ok (.iconst 1, 1) := by decide +kernel
theorem dX4_isEmpty_8 : decode cX4_isEmpty 8 = .ok (.goto 4, 3) := by decide +kernel
theorem dX4_isEmpty_11 : decode cX4_isEmpty 11 = .ok (.iconst 0, 1) := by decide +kernel
theorem dX4_isEmpty_12 : decode cX4_isEmpty 12 = .ok (.ireturn, 1) := by decide +kernel
theorem dX4_height_0 : decode cX4_height 0 = .ok (.aload_n 0, 1) := by decide +kernel
theorem dX4_height_1 : decode cX4_height 1 = .ok (.getfield 20, 3) := by decide +kernel
theorem dX4_height_4 : decode cX4_height 4 = .ok (.ireturn, 1) := by decide +kernel
theorem dX4_push_0 : decode cX4_push 0 = .ok (.aload_n 0, 1) := by decide +kernel
theorem dX4_push_1 : decode cX4_push 1 = .ok (.invokevirtual 23, 3) := by decide +kernel
theorem dX4_push_4 : decode cX4_push 4 = .ok (.ifCond .eq 4, 3) := by decide +kernel
theorem dX4_push_7 : decode cX4_push 7 = .ok (.return_, 1) := by decide +kernel
theorem dX4_push_8 : decode cX4_push 8 = .ok (.aload_n 0, 1) := by decide +kernel
theorem dX4_push_9 : decode cX4_push 9 = .ok (.getfield 9, 3) := by decide +kernel
theorem dX4_push_12 : decode cX4_push 12 = .ok (.aload_n 0, 1) := by decide +kernel
theorem dX4_push_13 : decode cX4_push 13 = .ok (.getfield 16, 3) := by decide +kernel
theorem dX4_push_16 : decode cX4_push 16 = .ok (.iload_n 1, 1) := by decide +kernel
theorem dX4_push_17 : decode cX4_push 17 = .ok (.iastore, 1) := by decide +kernel
theorem dX4_push_18 : decode cX4_push 18 = .ok (.aload_n 0, 1) := by decide +kernel
theorem dX4_push_19 : decode cX4_push 19 = .ok (.getfield 13, 3) := by decide +kernel
theorem dX4_push_22 : decode cX4_push 22 = .ok (.aload_n 0, 1) := by decide +kernel
theorem dX4_push_23 : decode cX4_push 23 = .ok (.getfield 16, 3) := by decide +kernel
theorem dX4_push_26 : decode cX4_push 26 = .ok (.iload_n 2, 1) := by decide +kernel
theorem dX4_push_27 : decode cX4_push 27 = .ok (.iastore, 1) := by decide +kernel
theorem dX4_push_28 : decode cX4_push 28 = .ok (.aload_n 0, 1) := by decide +kernel
theorem dX4_push_29 : decode cX4_push 29 = .ok (.dup, 1) := by decide +kernel
theorem dX4_push_30 : decode cX4_push 30 = .ok (.getfield 16, 3) := by decide +kernel
theorem dX4_push_33 : decode cX4_push 33 = .ok (.iconst 1, 1) := by decide +kernel
theorem dX4_push_34 : decode cX4_push 34 = .ok (.iadd, 1) := by decide +kernel
theorem dX4_push_35 : decode cX4_push 35 = .ok (.putfield 16, 3) := by decide +kernel
theorem dX4_push_38 : decode cX4_push 38 = .ok (.aload_n 0, 1) := by decide +kernel
theorem dX4_push_39 : decode cX4_push 39 = .ok (.dup, 1) := by decide +kernel
theorem dX4_push_40 : decode cX4_push 40 = .ok (.getfield 20, 3) := by decide +kernel
theorem dX4_push_43 : decode cX4_push 43 = .ok (.iload_n 2, 1) := by decide +kernel
theorem dX4_push_44 : decode cX4_push 44 = .ok (.iadd, 1) := by decide +kernel
theorem dX4_push_45 : decode cX4_push 45 = .ok (.putfield 20, 3) := by decide +kernel
theorem dX4_push_48 : decode cX4_push 48 = .ok (.return_, 1) := by decide +kernel
theorem dX4_pop_0 : decode cX4_pop 0 = .ok (.aload_n 0, 1) := by decide +kernel
theorem dX4_pop_1 : decode cX4_pop 1 = .ok (.invokevirtual 27, 3) := by decide +kernel
theorem dX4_pop_4 : decode cX4_pop 4 = .ok (.ifCond .eq 5, 3) := by decide +kernel
theorem dX4_pop_7 : decode cX4_pop 7 = .ok (.iconst (-1), 1) := by decide +kernel
theorem dX4_pop_8 : decode cX4_pop 8 = .ok (.ireturn, 1) := by decide +kernel
theorem dX4_pop_9 : decode cX4_pop 9 = .ok (.aload_n 0, 1) := by decide +kernel
theorem dX4_pop_10 : decode cX4_pop 10 = .ok (.dup, 1) := by decide +kernel
theorem dX4_pop_11 : decode cX4_pop 11 = .ok (.getfield 16, 3) := by decide +kernel
theorem dX4_pop_14 : decode cX4_pop 14 = .ok (.iconst 1, 1) := by decide +kernel
theorem dX4_pop_15 : decode cX4_pop 15 = .ok (.isub, 1) := by decide +kernel
theorem dX4_pop_16 : decode cX4_pop 16 = .ok (.putfield 16, 3) := by decide +kernel
theorem dX4_pop_19 : decode cX4_pop 19 = .ok (.aload_n 0, 1) := by decide +kernel
theorem dX4_pop_20 : decode cX4_pop 20 = .ok (.dup, 1) := by decide +kernel
theorem dX4_pop_21 : decode cX4_pop 21 = .ok (.getfield 20, 3) := by decide +kernel
theorem dX4_pop_24 : decode cX4_pop 24 = .ok (.aload_n 0, 1) := by decide +kernel
theorem dX4_pop_25 : decode cX4_pop 25 = .ok (.getfield 13, 3) := by decide +kernel
theorem dX4_pop_28 : decode cX4_pop 28 = .ok (.aload_n 0, 1) := by decide +kernel
theorem dX4_pop_29 : decode cX4_pop 29 = .ok (.getfield 16, 3) := by decide +kernel
theorem dX4_pop_32 : decode cX4_pop 32 = .ok (.iaload, 1) := by decide +kernel
theorem dX4_pop_33 : decode cX4_pop 33 = .ok (.isub, 1) := by decide +kernel
theorem dX4_pop_34 : decode cX4_pop 34 = .ok (.putfield 20, 3) := by decide +kernel
theorem dX4_pop_37 : decode cX4_pop 37 = .ok (.aload_n 0, 1) := by decide +kernel
theorem dX4_pop_38 : decode cX4_pop 38 = .ok (.getfield 9, 3) := by decide +kernel
theorem dX4_pop_41 : decode cX4_pop 41 = .ok (.aload_n 0, 1) := by decide +kernel
theorem dX4_pop_42 : decode cX4_pop 42 = .ok (.getfield 16, 3) := by decide +kernel
theorem dX4_pop_45 : decode cX4_pop 45 = .ok (.iaload, 1) := by decide +kernel
theorem dX4_pop_46 : decode cX4_pop 46 = .ok (.ireturn, 1) := by decide +kernel
theorem dX4_clear_0 : decode cX4_clear 0 = .ok (.aload_n 0, 1) := by decide +kernel
theorem dX4_clear_1 : decode cX4_clear 1 = .ok (.iconst 0, 1) := by decide +kernel
theorem dX4_clear_2 : decode cX4_clear 2 = .ok (.putfield 16, 3) := by decide +kernel
theorem dX4_clear_5 : decode cX4_clear 5 = .ok (.aload_n 0, 1) := by decide +kernel
theorem dX4_clear_6 : decode cX4_clear 6 = .ok (.iconst 0, 1) := by decide +kernel
theorem dX4_clear_7 : decode cX4_clear 7 = .ok (.putfield 20, 3) := by decide +kernel
theorem dX4_clear_10 : decode cX4_clear 10 = .ok (.return_, 1) := by decide +kernel
theorem dX4_uppermostFine_0 : decode cX4_uppermostFine 0 = .ok (.aload_n 0, 1) := by decide +kernel
theorem dX4_uppermostFine_1 : decode cX4_uppermostFine 1 = .ok (.invokevirtual 27, 3) := by decide +kernel
theorem dX4_uppermostFine_4 : decode cX4_uppermostFine 4 = .ok (.ifCond .eq 7, 3) := by decide +kernel
theorem dX4_uppermostFine_7 : decode cX4_uppermostFine 7 = .ok (.iconst 0, 1) := by decide +kernel
theorem dX4_uppermostFine_8 : decode cX4_uppermostFine 8 = .ok (.goto 14, 3) := by decide +kernel
theorem dX4_uppermostFine_11 : decode cX4_uppermostFine 11 = .ok (.aload_n 0, 1) := by decide +kernel
theorem dX4_uppermostFine_12 : decode cX4_uppermostFine 12 = .ok (.getfield 13, 3) := by decide +kernel
theorem dX4_uppermostFine_15 : decode cX4_uppermostFine 15 = .ok (.aload_n 0, 1) := by decide +kernel
theorem dX4_uppermostFine_16 : decode cX4_uppermostFine 16 = .ok (.getfield 16, 3) := by decide +kernel
theorem dX4_uppermostFine_19 : decode cX4_uppermostFine 19 = .ok (.iconst 1, 1) := by decide +kernel
theorem dX4_uppermostFine_20 : decode cX4_uppermostFine 20 = .ok (.isub, 1) := by decide +kernel
theorem dX4_uppermostFine_21 : decode cX4_uppermostFine 21 = .ok (.iaload, 1) := by decide +kernel
theorem dX4_uppermostFine_22 : decode cX4_uppermostFine 22 = .ok (.ireturn, 1) := by decide +kernel
theorem dX4_cubesWithin_0 : decode cX4_cubesWithin 0 = .ok (.iconst 0, 1) := by decide +kernel
theorem dX4_cubesWithin_1 : decode cX4_cubesWithin 1 = .ok (.istore_n 2, 1) := by decide +kernel
theorem dX4_cubesWithin_2 : decode cX4_cubesWithin 2 = .ok (.iconst 0, 1) := by decide +kernel
theorem dX4_cubesWithin_3 : decode cX4_cubesWithin 3 = .ok (.istore_n 3, 1) := by decide +kernel
theorem dX4_cubesWithin_4 : decode cX4_cubesWithin 4 = .ok (.iload_n 3, 1) := by decide +kernel
theorem dX4_cubesWithin_5 : decode cX4_cubesWithin 5 = .ok (.aload_n 0, 1) := by decide +kernel
theorem dX4_cubesWithin_6 : decode cX4_cubesWithin 6 = .ok (.getfield 16, 3) := by decide +kernel
theorem dX4_cubesWithin_9 : decode cX4_cubesWithin 9 = .ok (.if_icmp .ge 25, 3) := by decide +kernel
theorem dX4_cubesWithin_12 : decode cX4_cubesWithin 12 = .ok (.iload_n 2, 1) := by decide +kernel
theorem dX4_cubesWithin_13 : decode cX4_cubesWithin 13 = .ok (.aload_n 0, 1) := by decide +kernel
theorem dX4_cubesWithin_14 : decode cX4_cubesWithin 14 = .ok (.getfield 13, 3) := by decide +kernel
theorem dX4_cubesWithin_17 : decode cX4_cubesWithin 17 = .ok (.iload_n 3, 1) := by decide +kernel
theorem dX4_cubesWithin_18 : decode cX4_cubesWithin 18 = .ok (.iaload, 1) := by decide +kernel
theorem dX4_cubesWithin_19 : decode cX4_cubesWithin 19 = .ok (.iadd, 1) := by decide +kernel
theorem dX4_cubesWithin_20 : decode cX4_cubesWithin 20 = .ok (.istore_n 2, 1) := by decide +kernel
theorem dX4_cubesWithin_21 : decode cX4_cubesWithin 21 = .ok (.iload_n 2, 1) := by decide +kernel
theorem dX4_cubesWithin_22 : decode cX4_cubesWithin 22 = .ok (.iload_n 1, 1) := by decide +kernel
theorem dX4_cubesWithin_23 : decode cX4_cubesWithin 23 = .ok (.if_icmp .le 5, 3) := by decide +kernel
theorem dX4_cubesWithin_26 : decode cX4_cubesWithin 26 = .ok (.iload_n 3, 1) := by decide +kernel
theorem dX4_cubesWithin_27 : decode cX4_cubesWithin 27 = .ok (.ireturn, 1) := by decide +kernel
theorem dX4_cubesWithin_28 : decode cX4_cubesWithin 28 = .ok (.iinc 3 1, 3) := by decide +kernel
theorem dX4_cubesWithin_31 : decode cX4_cubesWithin 31 = .ok (.goto (-27), 3) := by decide +kernel
theorem dX4_cubesWithin_34 : decode cX4_cubesWithin 34 = .ok (.aload_n 0, 1) := by decide +kernel
theorem dX4_cubesWithin_35 : decode cX4_cubesWithin 35 = .ok (.getfield 16, 3) := by decide +kernel
theorem dX4_cubesWithin_38 : decode cX4_cubesWithin 38 = .ok (.ireturn, 1) := by decide +kernel
theorem dX4_eighths_0 : decode cX4_eighths 0 = .ok (.lconst 0, 1) := by decide +kernel
theorem dX4_eighths_1 : decode cX4_eighths 1 = .ok (.lstore_n 1, 1) := by decide +kernel
theorem dX4_eighths_2 : decode cX4_eighths 2 = .ok (.iconst 0, 1) := by decide +kernel
theorem dX4_eighths_3 : decode cX4_eighths 3 = .ok (.istore_n 3, 1) := by decide +kernel
theorem dX4_eighths_4 : decode cX4_eighths 4 = .ok (.iload_n 3, 1) := by decide +kernel
theorem dX4_eighths_5 : decode cX4_eighths 5 = .ok (.aload_n 0, 1) := by decide +kernel
theorem dX4_eighths_6 : decode cX4_eighths 6 = .ok (.getfield 16, 3) := by decide +kernel
theorem dX4_eighths_9 : decode cX4_eighths 9 = .ok (.if_icmp .ge 22, 3) := by decide +kernel
theorem dX4_eighths_12 : decode cX4_eighths 12 = .ok (.lload_n 1, 1) := by decide +kernel
theorem dX4_eighths_13 : decode cX4_eighths 13 = .ok (.aload_n 0, 1) := by decide +kernel
theorem dX4_eighths_14 : decode cX4_eighths 14 = .ok (.getfield 9, 3) := by decide +kernel
theorem dX4_eighths_17 : decode cX4_eighths 17 = .ok (.iload_n 3, 1) := by decide +kernel
theorem dX4_eighths_18 : decode cX4_eighths 18 = .ok (.iaload, 1) := by decide +kernel
theorem dX4_eighths_19 : decode cX4_eighths 19 = .ok (.invokestatic 32, 3) := by decide +kernel
theorem dX4_eighths_22 : decode cX4_eighths 22 = .ok (.i2l, 1) := by decide +kernel
theorem dX4_eighths_23 : decode cX4_eighths 23 = .ok (.ladd, 1) := by decide +kernel
theorem dX4_eighths_24 : decode cX4_eighths 24 = .ok (.lstore_n 1, 1) := by decide +kernel
theorem dX4_eighths_25 : decode cX4_eighths 25 = .ok (.iinc 3 1, 3) := by decide +kernel
theorem dX4_eighths_28 : decode cX4_eighths 28 = .ok (.goto (-24), 3) := by decide +kernel
theorem dX4_eighths_31 : decode cX4_eighths 31 = .ok (.lload_n 1, 1) := by decide +kernel
theorem dX4_eighths_32 : decode cX4_eighths 32 = .ok (.lreturn, 1) := by decide +kernel
theorem dX4_checksumAfter_0 : decode cX4_checksumAfter 0 = .ok (.ldc2_w 36, 3) := by decide +kernel
theorem dX4_checksumAfter_3 : decode cX4_checksumAfter 3 = .ok (.lload_n 1, 1) := by decide +kernel
theorem dX4_checksumAfter_4 : decode cX4_checksumAfter 4 = .ok (.lmul, 1) := by decide +kernel
theorem dX4_checksumAfter_5 : decode cX4_checksumAfter 5 = .ok (.aload_n 0, 1) := by decide +kernel
theorem dX4_checksumAfter_6 : decode cX4_checksumAfter 6 = .ok (.getfield 16, 3) := by decide +kernel
theorem dX4_checksumAfter_9 : decode cX4_checksumAfter 9 = .ok (.i2l, 1) := by decide +kernel
theorem dX4_checksumAfter_10 : decode cX4_checksumAfter 10 = .ok (.ladd, 1) := by decide +kernel
theorem dX4_checksumAfter_11 : decode cX4_checksumAfter 11 = .ok (.lstore_n 3, 1) := by decide +kernel
theorem dX4_checksumAfter_12 : decode cX4_checksumAfter 12 = .ok (.iconst 0, 1) := by decide +kernel
theorem dX4_checksumAfter_13 : decode cX4_checksumAfter 13 = .ok (.istore 5, 2) := by decide +kernel
theorem dX4_checksumAfter_15 : decode cX4_checksumAfter 15 = .ok (.iload 5, 2) := by decide +kernel
theorem dX4_checksumAfter_17 : decode cX4_checksumAfter 17 = .ok (.aload_n 0, 1) := by decide +kernel
theorem dX4_checksumAfter_18 : decode cX4_checksumAfter 18 = .ok (.getfield 16, 3) := by decide +kernel
theorem dX4_checksumAfter_21 : decode cX4_checksumAfter 21 = .ok (.if_icmp .ge 45, 3) := by decide +kernel
theorem dX4_checksumAfter_24 : decode cX4_checksumAfter 24 = .ok (.ldc2_w 36, 3) := by decide +kernel
theorem dX4_checksumAfter_27 : decode cX4_checksumAfter 27 = .ok (.lload_n 3, 1) := by decide +kernel
theorem dX4_checksumAfter_28 : decode cX4_checksumAfter 28 = .ok (.lmul, 1) := by decide +kernel
theorem dX4_checksumAfter_29 : decode cX4_checksumAfter 29 = .ok (.aload_n 0, 1) := by decide +kernel
theorem dX4_checksumAfter_30 : decode cX4_checksumAfter 30 = .ok (.getfield 9, 3) := by decide +kernel
theorem dX4_checksumAfter_33 : decode cX4_checksumAfter 33 = .ok (.iload 5, 2) := by decide +kernel
theorem dX4_checksumAfter_35 : decode cX4_checksumAfter 35 = .ok (.iaload, 1) := by decide +kernel
theorem dX4_checksumAfter_36 : decode cX4_checksumAfter 36 = .ok (.invokestatic 38, 3) := by decide +kernel
theorem dX4_checksumAfter_39 : decode cX4_checksumAfter 39 = .ok (.i2l, 1) := by decide +kernel
theorem dX4_checksumAfter_40 : decode cX4_checksumAfter 40 = .ok (.ladd, 1) := by decide +kernel
theorem dX4_checksumAfter_41 : decode cX4_checksumAfter 41 = .ok (.lstore_n 3, 1) := by decide +kernel
theorem dX4_checksumAfter_42 : decode cX4_checksumAfter 42 = .ok (.ldc2_w 36, 3) := by decide +kernel
theorem dX4_checksumAfter_45 : decode cX4_checksumAfter 45 = .ok (.lload_n 3, 1) := by decide +kernel
theorem dX4_checksumAfter_46 : decode cX4_checksumAfter 46 = .ok (.lmul, 1) := by decide +kernel
theorem dX4_checksumAfter_47 : decode cX4_checksumAfter 47 = .ok (.aload_n 0, 1) := by decide +kernel
theorem dX4_checksumAfter_48 : decode cX4_checksumAfter 48 = .ok (.getfield 9, 3) := by decide +kernel
theorem dX4_checksumAfter_51 : decode cX4_checksumAfter 51 = .ok (.iload 5, 2) := by decide +kernel
theorem dX4_checksumAfter_53 : decode cX4_checksumAfter 53 = .ok (.iaload, 1) := by decide +kernel
theorem dX4_checksumAfter_54 : decode cX4_checksumAfter 54 = .ok (.invokestatic 41, 3) := by decide +kernel
theorem dX4_checksumAfter_57 : decode cX4_checksumAfter 57 = .ok (.i2l, 1) := by decide +kernel
theorem dX4_checksumAfter_58 : decode cX4_checksumAfter 58 = .ok (.ladd, 1) := by decide +kernel
theorem dX4_checksumAfter_59 : decode cX4_checksumAfter 59 = .ok (.lstore_n 3, 1) := by decide +kernel
theorem dX4_checksumAfter_60 : decode cX4_checksumAfter 60 = .ok (.iinc 5 1, 3) := by decide +kernel
theorem dX4_checksumAfter_63 : decode cX4_checksumAfter 63 = .ok (.goto (-48), 3) := by decide +kernel
theorem dX4_checksumAfter_66 : decode cX4_checksumAfter 66 = .ok (.lload_n 3, 1) := by decide +kernel
theorem dX4_checksumAfter_67 : decode cX4_checksumAfter 67 = .ok (.lreturn, 1) := by decide +kernel
theorem dX5_isCount_0 : decode cX5_isCount 0 = .ok (.lload_n 0, 1) := by decide +kernel
theorem dX5_isCount_1 : decode cX5_isCount 1 = .ok (.lconst 0, 1) := by decide +kernel
theorem dX5_isCount_2 : decode cX5_isCount 2 = .ok (.lcmp, 1) := by decide +kernel
theorem dX5_isCount_3 : decode cX5_isCount 3 = .ok (.ifCond .lt 15, 3) := by decide +kernel
theorem dX5_isCount_6 : decode cX5_isCount 6 = .ok (.lload_n 0, 1) := by decide +kernel
theorem dX5_isCount_7 : decode cX5_isCount 7 = .ok (.ldc2_w 9, 3) := by decide +kernel
theorem dX5_isCount_10 : decode cX5_isCount 10 = .ok (.lcmp, 1) := by decide +kernel
theorem dX5_isCount_11 : decode cX5_isCount 11 = .ok (.ifCond .gt 7, 3) := by decide +kernel
theorem dX5_isCount_14 : decode cX5_isCount 14 = .ok (.iconst 1, 1) := by decide +kernel
theorem dX5_isCount_15 : decode cX5_isCount 15 = .ok (.goto 4, 3) := by decide +kernel
theorem dX5_isCount_18 : decode cX5_isCount 18 = .ok (.iconst 0, 1) := by decide +kernel
theorem dX5_isCount_19 : decode cX5_isCount 19 = .ok (.ireturn, 1) := by decide +kernel
theorem dX5_told_0 : decode cX5_told 0 = .ok (.iconst 4, 1) := by decide +kernel
theorem dX5_told_1 : decode cX5_told 1 = .ok (.iload_n 0, 1) := by decide +kernel
theorem dX5_told_2 : decode cX5_told 2 = .ok (.imul, 1) := by decide +kernel
theorem dX5_told_3 : decode cX5_told 3 = .ok (.iload_n 1, 1) := by decide +kernel
theorem dX5_told_4 : decode cX5_told 4 = .ok (.iadd, 1) := by decide +kernel
theorem dX5_told_5 : decode cX5_told 5 = .ok (.ireturn, 1) := by decide +kernel
theorem dX5_countOf_0 : decode cX5_countOf 0 = .ok (.iload_n 0, 1) := by decide +kernel
theorem dX5_countOf_1 : decode cX5_countOf 1 = .ok (.iconst 2, 1) := by decide +kernel
theorem dX5_countOf_2 : decode cX5_countOf 2 = .ok (.ishr, 1) := by decide +kernel
theorem dX5_countOf_3 : decode cX5_countOf 3 = .ok (.ireturn, 1) := by decide +kernel
theorem dX5_kindOf_0 : decode cX5_kindOf 0 = .ok (.iload_n 0, 1) := by decide +kernel
theorem dX5_kindOf_1 : decode cX5_kindOf 1 = .ok (.iconst 3, 1) := by decide +kernel
theorem dX5_kindOf_2 : decode cX5_kindOf 2 = .ok (.iand, 1) := by decide +kernel
theorem dX5_kindOf_3 : decode cX5_kindOf 3 = .ok (.ireturn, 1) := by decide +kernel
theorem dX5_isBelow_0 : decode cX5_isBelow 0 = .ok (.iload_n 0, 1) := by decide +kernel
theorem dX5_isBelow_1 : decode cX5_isBelow 1 = .ok (.iconst 2, 1) := by decide +kernel
theorem dX5_isBelow_2 : decode cX5_isBelow 2 = .ok (.iand, 1) := by decide +kernel
theorem dX5_isBelow_3 : decode cX5_isBelow 3 = .ok (.ifCond .eq 7, 3) := by decide +kernel
theorem dX5_isBelow_6 : decode cX5_isBelow 6 = .ok (.iconst 1, 1) := by decide +kernel
theorem dX5_isBelow_7 : decode cX5_isBelow 7 = .ok (.goto 4, 3) := by decide +kernel
theorem dX5_isBelow_10 : decode cX5_isBelow 10 = .ok (.iconst 0, 1) := by decide +kernel
theorem dX5_isBelow_11 : decode cX5_isBelow 11 = .ok (.ireturn, 1) := by decide +kernel
theorem dX5_isAboveZero_0 : decode cX5_isAboveZero 0 = .ok (.iload_n 0, 1) := by decide +kernel
theorem dX5_isAboveZero_1 : decode cX5_isAboveZero 1 = .ok (.invokestatic 11, 3) := by decide +kernel
theorem dX5_isAboveZero_4 : decode cX5_isAboveZero 4 = .ok (.ifCond .ne 14, 3) := by decide +kernel
theorem dX5_isAboveZero_7 : decode cX5_isAboveZero 7 = .ok (.iload_n 0, 1) := by decide +kernel
theorem dX5_isAboveZero_8 : decode cX5_isAboveZero 8 = .ok (.invokestatic 15, 3) := by decide +kernel
theorem dX5_isAboveZero_11 : decode cX5_isAboveZero 11 = .ok (.ifCond .le 7, 3) := by decide +kernel
theorem dX5_isAboveZero_14 : decode cX5_isAboveZero 14 = .ok (.iconst 1, 1) := by decide +kernel
theorem dX5_isAboveZero_15 : decode cX5_isAboveZero 15 = .ok (.goto 4, 3) := by decide +kernel
theorem dX5_isAboveZero_18 : decode cX5_isAboveZero 18 = .ok (.iconst 0, 1) := by decide +kernel
theorem dX5_isAboveZero_19 : decode cX5_isAboveZero 19 = .ok (.ireturn, 1) := by decide +kernel
theorem dX5_eighthsOf_0 : decode cX5_eighthsOf 0 = .ok (.iload_n 0, 1) := by decide +kernel
theorem dX5_eighthsOf_1 : decode cX5_eighthsOf 1 = .ok (.iconst 1, 1) := by decide +kernel
theorem dX5_eighthsOf_2 : decode cX5_eighthsOf 2 = .ok (.iand, 1) := by decide +kernel
theorem dX5_eighthsOf_3 : decode cX5_eighthsOf 3 = .ok (.ifCond .eq 10, 3) := by decide +kernel
theorem dX5_eighthsOf_6 : decode cX5_eighthsOf 6 = .ok (.iload_n 0, 1) := by decide +kernel
theorem dX5_eighthsOf_7 : decode cX5_eighthsOf 7 = .ok (.invokestatic 15, 3) := by decide +kernel
theorem dX5_eighthsOf_10 : decode cX5_eighthsOf 10 = .ok (.goto 10, 3) := by decide +kernel
theorem dX5_eighthsOf_13 : decode cX5_eighthsOf 13 = .ok (.bipush 8, 2) := by decide +kernel
theorem dX5_eighthsOf_15 : decode cX5_eighthsOf 15 = .ok (.iload_n 0, 1) := by decide +kernel
theorem dX5_eighthsOf_16 : decode cX5_eighthsOf 16 = .ok (.invokestatic 15, 3) := by decide +kernel
theorem dX5_eighthsOf_19 : decode cX5_eighthsOf 19 = .ok (.imul, 1) := by decide +kernel
theorem dX5_eighthsOf_20 : decode cX5_eighthsOf 20 = .ok (.ireturn, 1) := by decide +kernel
theorem dX5_signedOf_0 : decode cX5_signedOf 0 = .ok (.iload_n 0, 1) := by decide +kernel
theorem dX5_signedOf_1 : decode cX5_signedOf 1 = .ok (.invokestatic 11, 3) := by decide +kernel
theorem dX5_signedOf_4 : decode cX5_signedOf 4 = .ok (.ifCond .eq 11, 3) := by decide +kernel
theorem dX5_signedOf_7 : decode cX5_signedOf 7 = .ok (.iload_n 0, 1) := by decide +kernel
theorem dX5_signedOf_8 : decode cX5_signedOf 8 = .ok (.invokestatic 19, 3) := by decide +kernel
theorem dX5_signedOf_11 : decode cX5_signedOf 11 = .ok (.ineg, 1) := by decide +kernel
theorem dX5_signedOf_12 : decode cX5_signedOf 12 = .ok (.goto 7, 3) := by decide +kernel
theorem dX5_signedOf_15 : decode cX5_signedOf 15 = .ok (.iload_n 0, 1) := by decide +kernel
theorem dX5_signedOf_16 : decode cX5_signedOf 16 = .ok (.invokestatic 19, 3) := by decide +kernel
theorem dX5_signedOf_19 : decode cX5_signedOf 19 = .ok (.ireturn, 1) := by decide +kernel
theorem dX5_oppositeOf_0 : decode cX5_oppositeOf 0 = .ok (.iload_n 0, 1) := by decide +kernel
theorem dX5_oppositeOf_1 : decode cX5_oppositeOf 1 = .ok (.iconst 2, 1) := by decide +kernel
theorem dX5_oppositeOf_2 : decode cX5_oppositeOf 2 = .ok (.ixor, 1) := by decide +kernel
theorem dX5_oppositeOf_3 : decode cX5_oppositeOf 3 = .ok (.ireturn, 1) := by decide +kernel
theorem dX5_eightfoldOf_0 : decode cX5_eightfoldOf 0 = .ok (.iload_n 0, 1) := by decide +kernel
theorem dX5_eightfoldOf_1 : decode cX5_eightfoldOf 1 = .ok (.iconst 1, 1) := by decide +kernel
theorem dX5_eightfoldOf_2 : decode cX5_eightfoldOf 2 = .ok (.iand, 1) := by decide +kernel
theorem dX5_eightfoldOf_3 : decode cX5_eightfoldOf 3 = .ok (.ifCond .eq 10, 3) := by decide +kernel
theorem dX5_eightfoldOf_6 : decode cX5_eightfoldOf 6 = .ok (.iload_n 0, 1) := by decide +kernel
theorem dX5_eightfoldOf_7 : decode cX5_eightfoldOf 7 = .ok (.invokestatic 15, 3) := by decide +kernel
theorem dX5_eightfoldOf_10 : decode cX5_eightfoldOf 10 = .ok (.goto 10, 3) := by decide +kernel
theorem dX5_eightfoldOf_13 : decode cX5_eightfoldOf 13 = .ok (.bipush 8, 2) := by decide +kernel
theorem dX5_eightfoldOf_15 : decode cX5_eightfoldOf 15 = .ok (.iload_n 0, 1) := by decide +kernel
theorem dX5_eightfoldOf_16 : decode cX5_eightfoldOf 16 = .ok (.invokestatic 15, 3) := by decide +kernel
theorem dX5_eightfoldOf_19 : decode cX5_eightfoldOf 19 = .ok (.imul, 1) := by decide +kernel
theorem dX5_eightfoldOf_20 : decode cX5_eightfoldOf 20 = .ok (.istore_n 1, 1) := by decide +kernel
theorem dX5_eightfoldOf_21 : decode cX5_eightfoldOf 21 = .ok (.iload_n 1, 1) := by decide +kernel
theorem dX5_eightfoldOf_22 : decode cX5_eightfoldOf 22 = .ok (.i2l, 1) := by decide +kernel
theorem dX5_eightfoldOf_23 : decode cX5_eightfoldOf 23 = .ok (.invokestatic 22, 3) := by decide +kernel
theorem dX5_eightfoldOf_26 : decode cX5_eightfoldOf 26 = .ok (.ifCond .eq 13, 3) := by decide +kernel
theorem dX5_eightfoldOf_29 : decode cX5_eightfoldOf 29 = .ok (.iload_n 1, 1) := by decide +kernel
theorem dX5_eightfoldOf_30 : decode cX5_eightfoldOf 30 = .ok (.iload_n 0, 1) := by decide +kernel
theorem dX5_eightfoldOf_31 : decode cX5_eightfoldOf 31 = .ok (.iconst 2, 1) := by decide +kernel
theorem dX5_eightfoldOf_32 : decode cX5_eightfoldOf 32 = .ok (.iand, 1) := by decide +kernel
theorem dX5_eightfoldOf_33 : decode cX5_eightfoldOf 33 = .ok (.invokestatic 26, 3) := by decide +kernel
theorem dX5_eightfoldOf_36 : decode cX5_eightfoldOf 36 = .ok (.goto 4, 3) := by decide +kernel
theorem dX5_eightfoldOf_39 : decode cX5_eightfoldOf 39 = .ok (.iconst (-1), 1) := by decide +kernel
theorem dX5_eightfoldOf_40 : decode cX5_eightfoldOf 40 = .ok (.ireturn, 1) := by decide +kernel
theorem dX5_eighthOf_0 : decode cX5_eighthOf 0 = .ok (.iload_n 0, 1) := by decide +kernel
theorem dX5_eighthOf_1 : decode cX5_eighthOf 1 = .ok (.invokestatic 15, 3) := by decide +kernel
theorem dX5_eighthOf_4 : decode cX5_eighthOf 4 = .ok (.istore_n 1, 1) := by decide +kernel
theorem dX5_eighthOf_5 : decode cX5_eighthOf 5 = .ok (.iload_n 0, 1) := by decide +kernel
theorem dX5_eighthOf_6 : decode cX5_eighthOf 6 = .ok (.iconst 1, 1) := by decide +kernel
theorem dX5_eighthOf_7 : decode cX5_eighthOf 7 = .ok (.iand, 1) := by decide +kernel
theorem dX5_eighthOf_8 : decode cX5_eighthOf 8 = .ok (.ifCond .ne 13, 3) := by decide +kernel
theorem dX5_eighthOf_11 : decode cX5_eighthOf 11 = .ok (.iload_n 1, 1) := by decide +kernel
theorem dX5_eighthOf_12 : decode cX5_eighthOf 12 = .ok (.iload_n 0, 1) := by decide +kernel
theorem dX5_eighthOf_13 : decode cX5_eighthOf 13 = .ok (.iconst 2, 1) := by decide +kernel
theorem dX5_eighthOf_14 : decode cX5_eighthOf 14 = .ok (.iand, 1) := by decide +kernel
theorem dX5_eighthOf_15 : decode cX5_eighthOf 15 = .ok (.iconst 1, 1) := by decide +kernel
theorem dX5_eighthOf_16 : decode cX5_eighthOf 16 = .ok (.ior, 1) := by decide +kernel
theorem dX5_eighthOf_17 : decode cX5_eighthOf 17 = .ok (.invokestatic 26, 3) := by decide +kernel
theorem dX5_eighthOf_20 : decode cX5_eighthOf 20 = .ok (.ireturn, 1) := by decide +kernel
theorem dX5_eighthOf_21 : decode cX5_eighthOf 21 = .ok (.iload_n 1, 1) := by decide +kernel
theorem dX5_eighthOf_22 : decode cX5_eighthOf 22 = .ok (.bipush 8, 2) := by decide +kernel
theorem dX5_eighthOf_24 : decode cX5_eighthOf 24 = .ok (.irem, 1) := by decide +kernel
theorem dX5_eighthOf_25 : decode cX5_eighthOf 25 = .ok (.ifCond .ne 17, 3) := by decide +kernel
theorem dX5_eighthOf_28 : decode cX5_eighthOf 28 = .ok (.iload_n 1, 1) := by decide +kernel
theorem dX5_eighthOf_29 : decode cX5_eighthOf 29 = .ok (.bipush 8, 2) := by decide +kernel
theorem dX5_eighthOf_31 : decode cX5_eighthOf 31 = .ok (.idiv, 1) := by decide +kernel
theorem dX5_eighthOf_32 : decode cX5_eighthOf 32 = .ok (.iload_n 0, 1) := by decide +kernel
theorem dX5_eighthOf_33 : decode cX5_eighthOf 33 = .ok (.invokestatic 30, 3) := by decide +kernel
theorem dX5_eighthOf_36 : decode cX5_eighthOf 36 = .ok (.invokestatic 26, 3) := by decide +kernel
theorem dX5_eighthOf_39 : decode cX5_eighthOf 39 = .ok (.goto 4, 3) := by decide +kernel
theorem dX5_eighthOf_42 : decode cX5_eighthOf 42 = .ok (.iconst (-1), 1) := by decide +kernel
theorem dX5_eighthOf_43 : decode cX5_eighthOf 43 = .ok (.ireturn, 1) := by decide +kernel
theorem dX5_reduced_0 : decode cX5_reduced 0 = .ok (.lload_n 0, 1) := by decide +kernel
theorem dX5_reduced_1 : decode cX5_reduced 1 = .ok (.ldc2_w 33, 3) := by decide +kernel
theorem dX5_reduced_4 : decode cX5_reduced 4 = .ok (.lrem, 1) := by decide +kernel
theorem dX5_reduced_5 : decode cX5_reduced 5 = .ok (.lconst 0, 1) := by decide +kernel
theorem dX5_reduced_6 : decode cX5_reduced 6 = .ok (.lcmp, 1) := by decide +kernel
theorem dX5_reduced_7 : decode cX5_reduced 7 = .ok (.ifCond .ne 7, 3) := by decide +kernel
theorem dX5_reduced_10 : decode cX5_reduced 10 = .ok (.iconst 1, 1) := by decide +kernel
theorem dX5_reduced_11 : decode cX5_reduced 11 = .ok (.goto 4, 3) := by decide +kernel
theorem dX5_reduced_14 : decode cX5_reduced 14 = .ok (.iconst 0, 1) := by decide +kernel
theorem dX5_reduced_15 : decode cX5_reduced 15 = .ok (.istore_n 3, 1) := by decide +kernel
theorem dX5_reduced_16 : decode cX5_reduced 16 = .ok (.iload_n 3, 1) := by decide +kernel
theorem dX5_reduced_17 : decode cX5_reduced 17 = .ok (.ifCond .eq 11, 3) := by decide +kernel
theorem dX5_reduced_20 : decode cX5_reduced 20 = .ok (.lload_n 0, 1) := by decide +kernel
theorem dX5_reduced_21 : decode cX5_reduced 21 = .ok (.ldc2_w 33, 3) := by decide +kernel
theorem dX5_reduced_24 : decode cX5_reduced 24 = .ok (.ldiv, 1) := by decide +kernel
theorem dX5_reduced_25 : decode cX5_reduced 25 = .ok (.goto 4, 3) := by decide +kernel
theorem dX5_reduced_28 : decode cX5_reduced 28 = .ok (.lload_n 0, 1) := by decide +kernel
theorem dX5_reduced_29 : decode cX5_reduced 29 = .ok (.lstore 4, 2) := by decide +kernel
theorem dX5_reduced_31 : decode cX5_reduced 31 = .ok (.lload 4, 2) := by decide +kernel
theorem dX5_reduced_33 : decode cX5_reduced 33 = .ok (.invokestatic 22, 3) := by decide +kernel
theorem dX5_reduced_36 : decode cX5_reduced 36 = .ok (.ifCond .eq 23, 3) := by decide +kernel
theorem dX5_reduced_39 : decode cX5_reduced 39 = .ok (.lload 4, 2) := by decide +kernel
theorem dX5_reduced_41 : decode cX5_reduced 41 = .ok (.l2i, 1) := by decide +kernel
theorem dX5_reduced_42 : decode cX5_reduced 42 = .ok (.iload_n 3, 1) := by decide +kernel
theorem dX5_reduced_43 : decode cX5_reduced 43 = .ok (.ifCond .eq 7, 3) := by decide +kernel
theorem dX5_reduced_46 : decode cX5_reduced 46 = .ok (.iload_n 2, 1) := by decide +kernel
theorem dX5_reduced_47 : decode cX5_reduced 47 = .ok (.goto 6, 3) := by decide +kernel
theorem dX5_reduced_50 : decode cX5_reduced 50 = .ok (.iload_n 2, 1) := by decide +kernel
theorem dX5_reduced_51 : decode cX5_reduced 51 = .ok (.iconst 1, 1) := by decide +kernel
theorem dX5_reduced_52 : decode cX5_reduced 52 = .ok (.ior, 1) := by decide +kernel
theorem dX5_reduced_53 : decode cX5_reduced 53 = .ok (.invokestatic 26, 3) := by decide +kernel
theorem dX5_reduced_56 : decode cX5_reduced 56 = .ok (.goto 4, 3) := by decide +kernel
theorem dX5_reduced_59 : decode cX5_reduced 59 = .ok (.iconst (-1), 1) := by decide +kernel
theorem dX5_reduced_60 : decode cX5_reduced 60 = .ok (.ireturn, 1) := by decide +kernel
theorem dX5_productOf_0 : decode cX5_productOf 0 = .ok (.iload_n 0, 1) := by decide +kernel
theorem dX5_productOf_1 : decode cX5_productOf 1 = .ok (.invokestatic 19, 3) := by decide +kernel
theorem dX5_productOf_4 : decode cX5_productOf 4 = .ok (.i2l, 1) := by decide +kernel
theorem dX5_productOf_5 : decode cX5_productOf 5 = .ok (.iload_n 1, 1) := by decide +kernel
theorem dX5_productOf_6 : decode cX5_productOf 6 = .ok (.invokestatic 19, 3) := by decide +kernel
theorem dX5_productOf_9 : decode cX5_productOf 9 = .ok (.i2l, 1) := by decide +kernel
theorem dX5_productOf_10 : decode cX5_productOf 10 = .ok (.lmul, 1) := by decide +kernel
theorem dX5_productOf_11 : decode cX5_productOf 11 = .ok (.lstore_n 2, 1) := by decide +kernel
theorem dX5_productOf_12 : decode cX5_productOf 12 = .ok (.lload_n 2, 1) := by decide +kernel
theorem dX5_productOf_13 : decode cX5_productOf 13 = .ok (.ldc2_w 33, 3) := by decide +kernel
theorem dX5_productOf_16 : decode cX5_productOf 16 = .ok (.lrem, 1) := by decide +kernel
theorem dX5_productOf_17 : decode cX5_productOf 17 = .ok (.lconst 0, 1) := by decide +kernel
theorem dX5_productOf_18 : decode cX5_productOf 18 = .ok (.lcmp, 1) := by decide +kernel
theorem dX5_productOf_19 : decode cX5_productOf 19 = .ok (.ifCond .ne 19, 3) := by decide +kernel
theorem dX5_productOf_22 : decode cX5_productOf 22 = .ok (.lload_n 2, 1) := by decide +kernel
theorem dX5_productOf_23 : decode cX5_productOf 23 = .ok (.ldc2_w 33, 3) := by decide +kernel
theorem dX5_productOf_26 : decode cX5_productOf 26 = .ok (.ldiv, 1) := by decide +kernel
theorem dX5_productOf_27 : decode cX5_productOf 27 = .ok (.iload_n 0, 1) := by decide +kernel
theorem dX5_productOf_28 : decode cX5_productOf 28 = .ok (.iload_n 1, 1) := by decide +kernel
theorem dX5_productOf_29 : decode cX5_productOf 29 = .ok (.ixor, 1) := by decide +kernel
theorem dX5_productOf_30 : decode cX5_productOf 30 = .ok (.iconst 2, 1) := by decide +kernel
theorem dX5_productOf_31 : decode cX5_productOf 31 = .ok (.iand, 1) := by decide +kernel
theorem dX5_productOf_32 : decode cX5_productOf 32 = .ok (.invokestatic 35, 3) := by decide +kernel
theorem dX5_productOf_35 : decode cX5_productOf 35 = .ok (.goto 4, 3) := by decide +kernel
theorem dX5_productOf_38 : decode cX5_productOf 38 = .ok (.iconst (-1), 1) := by decide +kernel
theorem dX5_productOf_39 : decode cX5_productOf 39 = .ok (.ireturn, 1) := by decide +kernel
theorem dX5_sumOf_0 : decode cX5_sumOf 0 = .ok (.iload_n 0, 1) := by decide +kernel
theorem dX5_sumOf_1 : decode cX5_sumOf 1 = .ok (.invokestatic 19, 3) := by decide +kernel
theorem dX5_sumOf_4 : decode cX5_sumOf 4 = .ok (.i2l, 1) := by decide +kernel
theorem dX5_sumOf_5 : decode cX5_sumOf 5 = .ok (.iload_n 1, 1) := by decide +kernel
theorem dX5_sumOf_6 : decode cX5_sumOf 6 = .ok (.invokestatic 19, 3) := by decide +kernel
theorem dX5_sumOf_9 : decode cX5_sumOf 9 = .ok (.i2l, 1) := by decide +kernel
theorem dX5_sumOf_10 : decode cX5_sumOf 10 = .ok (.ladd, 1) := by decide +kernel
theorem dX5_sumOf_11 : decode cX5_sumOf 11 = .ok (.iconst 0, 1) := by decide +kernel
theorem dX5_sumOf_12 : decode cX5_sumOf 12 = .ok (.invokestatic 35, 3) := by decide +kernel
theorem dX5_sumOf_15 : decode cX5_sumOf 15 = .ok (.ireturn, 1) := by decide +kernel
theorem dX6_init_0 : decode cX6_init 0 = .ok (.aload_n 0, 1) := by decide +kernel
theorem dX6_init_1 : decode cX6_init 1 = .ok (.invokespecial 3, 3) := by decide +kernel
theorem dX6_init_4 : decode cX6_init 4 = .ok (.aload_n 0, 1) := by decide +kernel
theorem dX6_init_5 : decode cX6_init 5 = .ok (.bipush 7, 2) := by decide +kernel
theorem dX6_init_7 : decode cX6_init 7 = .ok (.newarray .long, 2) := by decide +kernel
theorem dX6_init_9 : decode cX6_init 9 = .ok (.putfield 9, 3) := by decide +kernel
theorem dX6_init_12 : decode cX6_init 12 = .ok (.return_, 1) := by decide +kernel
theorem dX6_setProduct_0 : decode cX6_setProduct 0 = .ok (.iconst 0, 1) := by decide +kernel
theorem dX6_setProduct_1 : decode cX6_setProduct 1 = .ok (.istore 5, 2) := by decide +kernel
theorem dX6_setProduct_3 : decode cX6_setProduct 3 = .ok (.iload 5, 2) := by decide +kernel
theorem dX6_setProduct_5 : decode cX6_setProduct 5 = .ok (.bipush 7, 2) := by decide +kernel
theorem dX6_setProduct_7 : decode cX6_setProduct 7 = .ok (.if_icmp .ge 26, 3) := by decide +kernel
theorem dX6_setProduct_10 : decode cX6_setProduct 10 = .ok (.aload_n 0, 1) := by decide +kernel
theorem dX6_setProduct_11 : decode cX6_setProduct 11 = .ok (.getfield 9, 3) := by decide +kernel
theorem dX6_setProduct_14 : decode cX6_setProduct 14 = .ok (.iload 5, 2) := by decide +kernel
theorem dX6_setProduct_16 : decode cX6_setProduct 16 = .ok (.iload 5, 2) := by decide +kernel
theorem dX6_setProduct_18 : decode cX6_setProduct 18 = .ok (.ifCond .ne 7, 3) := by decide +kernel
theorem dX6_setProduct_21 : decode cX6_setProduct 21 = .ok (.lconst 1, 1) := by decide +kernel
theorem dX6_setProduct_22 : decode cX6_setProduct 22 = .ok (.goto 4, 3) := by decide +kernel
theorem dX6_setProduct_25 : decode cX6_setProduct 25 = .ok (.lconst 0, 1) := by decide +kernel
theorem dX6_setProduct_26 : decode cX6_setProduct 26 = .ok (.lastore, 1) := by decide +kernel
theorem dX6_setProduct_27 : decode cX6_setProduct 27 = .ok (.iinc 5 1, 3) := by decide +kernel
theorem dX6_setProduct_30 : decode cX6_setProduct 30 = .ok (.goto (-27), 3) := by decide +kernel
theorem dX6_setProduct_33 : decode cX6_setProduct 33 = .ok (.aload_n 0, 1) := by decide +kernel
theorem dX6_setProduct_34 : decode cX6_setProduct 34 = .ok (.lload_n 1, 1) := by decide +kernel
theorem dX6_setProduct_35 : decode cX6_setProduct 35 = .ok (.invokevirtual 13, 3) := by decide +kernel
theorem dX6_setProduct_38 : decode cX6_setProduct 38 = .ok (.aload_n 0, 1) := by decide +kernel
theorem dX6_setProduct_39 : decode cX6_setProduct 39 = .ok (.lload_n 3, 1) := by decide +kernel
theorem dX6_setProduct_40 : decode cX6_setProduct 40 = .ok (.invokevirtual 13, 3) := by decide +kernel
theorem dX6_setProduct_43 : decode cX6_setProduct 43 = .ok (.return_, 1) := by decide +kernel
theorem dX6_setCube_0 : decode cX6_setCube 0 = .ok (.aload_n 0, 1) := by decide +kernel
theorem dX6_setCube_1 : decode cX6_setCube 1 = .ok (.lload_n 1, 1) := by decide +kernel
theorem dX6_setCube_2 : decode cX6_setCube 2 = .ok (.lload_n 3, 1) := by decide +kernel
theorem dX6_setCube_3 : decode cX6_setCube 3 = .ok (.invokevirtual 17, 3) := by decide +kernel
theorem dX6_setCube_6 : decode cX6_setCube 6 = .ok (.aload_n 0, 1) := by decide +kernel
theorem dX6_setCube_7 : decode cX6_setCube 7 = .ok (.lload_n 3, 1) := by decide +kernel
theorem dX6_setCube_8 : decode cX6_setCube 8 = .ok (.invokevirtual 13, 3) := by decide +kernel
theorem dX6_setCube_11 : decode cX6_setCube 11 = .ok (.aload_n 0, 1) := by decide +kernel
theorem dX6_setCube_12 : decode cX6_setCube 12 = .ok (.lload_n 3, 1) := by decide +kernel
theorem dX6_setCube_13 : decode cX6_setCube 13 = .ok (.invokevirtual 13, 3) := by decide +kernel
theorem dX6_setCube_16 : decode cX6_setCube 16 = .ok (.return_, 1) := by decide +kernel
theorem dX6_multiplyBy_0 : decode cX6_multiplyBy 0 = .ok (.lload_n 1, 1) := by decide +kernel
theorem dX6_multiplyBy_1 : decode cX6_multiplyBy 1 = .ok (.ldc2_w 21, 3) := by decide +kernel
theorem dX6_multiplyBy_4 : decode cX6_multiplyBy 4 = .ok (.land, 1) := by decide +kernel
theorem dX6_multiplyBy_5 : decode cX6_multiplyBy 5 = .ok (.lstore_n 3, 1) := by decide +kernel
theorem dX6_multiplyBy_6 : decode cX6_multiplyBy 6 = .ok (.lload_n 1, 1) := by decide +kernel
theorem dX6_multiplyBy_7 : decode cX6_multiplyBy 7 = .ok (.bipush 30, 2) := by decide +kernel
theorem dX6_multiplyBy_9 : decode cX6_multiplyBy 9 = .ok (.lushr, 1) := by decide +kernel
theorem dX6_multiplyBy_10 : decode cX6_multiplyBy 10 = .ok (.lstore 5, 2) := by decide +kernel
theorem dX6_multiplyBy_12 : decode cX6_multiplyBy 12 = .ok (.lconst 0, 1) := by decide +kernel
theorem dX6_multiplyBy_13 : decode cX6_multiplyBy 13 = .ok (.lstore 7, 2) := by decide +kernel
theorem dX6_multiplyBy_15 : decode cX6_multiplyBy 15 = .ok (.lconst 0, 1) := by decide +kernel
theorem dX6_multiplyBy_16 : decode cX6_multiplyBy 16 = .ok (.lstore 9, 2) := by decide +kernel
theorem dX6_multiplyBy_18 : decode cX6_multiplyBy 18 = .ok (.iconst 0, 1) := by decide +kernel
theorem dX6_multiplyBy_19 : decode cX6_multiplyBy 19 = .ok (.istore 11, 2) := by decide +kernel
theorem dX6_multiplyBy_21 : decode cX6_multiplyBy 21 = .ok (.iload 11, 2) := by decide +kernel
theorem dX6_multiplyBy_23 : decode cX6_multiplyBy 23 = .ok (.bipush 7, 2) := by decide +kernel
theorem dX6_multiplyBy_25 : decode cX6_multiplyBy 25 = .ok (.if_icmp .ge 57, 3) := by decide +kernel
theorem dX6_multiplyBy_28 : decode cX6_multiplyBy 28 = .ok (.aload_n 0, 1) := by decide +kernel
theorem dX6_multiplyBy_29 : decode cX6_multiplyBy 29 = .ok (.getfield 9, 3) := by decide +kernel
theorem dX6_multiplyBy_32 : decode cX6_multiplyBy 32 = .ok (.iload 11, 2) := by decide +kernel
theorem dX6_multiplyBy_34 : decode cX6_multiplyBy 34 = .ok (.laload, 1) := by decide +kernel
theorem dX6_multiplyBy_35 : decode cX6_multiplyBy 35 = .ok (.lstore 12, 2) := by decide +kernel
theorem dX6_multiplyBy_37 : decode cX6_multiplyBy 37 = .ok (.lload 12, 2) := by decide +kernel
theorem dX6_multiplyBy_39 : decode cX6_multiplyBy 39 = .ok (.lload_n 3, 1) := by decide +kernel
theorem dX6_multiplyBy_40 : decode cX6_multiplyBy 40 = .ok (.lmul, 1) := by decide +kernel
theorem dX6_multiplyBy_41 : decode cX6_multiplyBy 41 = .ok (.lload 9, 2) := by decide +kernel
theorem dX6_multiplyBy_43 : decode cX6_multiplyBy 43 = .ok (.lload 5, 2) := by decide +kernel
theorem dX6_multiplyBy_45 : decode cX6_multiplyBy 45 = .ok (.lmul, 1) := by decide +kernel
theorem dX6_multiplyBy_46 : decode cX6_multiplyBy 46 = .ok (.ladd, 1) := by decide +kernel
theorem dX6_multiplyBy_47 : decode cX6_multiplyBy 47 = .ok (.lload 7, 2) := by decide +kernel
theorem dX6_multiplyBy_49 : decode cX6_multiplyBy 49 = .ok (.ladd, 1) := by decide +kernel
theorem dX6_multiplyBy_50 : decode cX6_multiplyBy 50 = .ok (.lstore 14, 2) := by decide +kernel
theorem dX6_multiplyBy_52 : decode cX6_multiplyBy 52 = .ok (.aload_n 0, 1) := by decide +kernel
theorem dX6_multiplyBy_53 : decode cX6_multiplyBy 53 = .ok (.getfield 9, 3) := by decide +kernel
theorem dX6_multiplyBy_56 : decode cX6_multiplyBy 56 = .ok (.iload 11, 2) := by decide +kernel
theorem dX6_multiplyBy_58 : decode cX6_multiplyBy 58 = .ok (.lload 14, 2) := by decide +kernel
theorem dX6_multiplyBy_60 : decode cX6_multiplyBy 60 = .ok (.ldc2_w 21, 3) := by decide +kernel
theorem dX6_multiplyBy_63 : decode cX6_multiplyBy 63 = .ok (.land, 1) := by decide +kernel
theorem dX6_multiplyBy_64 : decode cX6_multiplyBy 64 = .ok (.lastore, 1) := by decide +kernel
theorem dX6_multiplyBy_65 : decode cX6_multiplyBy 65 = .ok (.lload 14, 2) := by decide +kernel
theorem dX6_multiplyBy_67 : decode cX6_multiplyBy 67 = .ok (.bipush 30, 2) := by decide +kernel
theorem dX6_multiplyBy_69 : decode cX6_multiplyBy 69 = .ok (.lushr, 1) := by decide +kernel
theorem dX6_multiplyBy_70 : decode cX6_multiplyBy 70 = .ok (.lstore 7, 2) := by decide +kernel
theorem dX6_multiplyBy_72 : decode cX6_multiplyBy 72 = .ok (.lload 12, 2) := by decide +kernel
theorem dX6_multiplyBy_74 : decode cX6_multiplyBy 74 = .ok (.lstore 9, 2) := by decide +kernel
theorem dX6_multiplyBy_76 : decode cX6_multiplyBy 76 = .ok (.iinc 11 1, 3) := by decide +kernel
theorem dX6_multiplyBy_79 : decode cX6_multiplyBy 79 = .ok (.goto (-58), 3) := by decide +kernel
theorem dX6_multiplyBy_82 : decode cX6_multiplyBy 82 = .ok (.return_, 1) := by decide +kernel
theorem dX6_setGap_0 : decode cX6_setGap 0 = .ok (.aload_n 1, 1) := by decide +kernel
theorem dX6_setGap_1 : decode cX6_setGap 1 = .ok (.aload_n 2, 1) := by decide +kernel
theorem dX6_setGap_2 : decode cX6_setGap 2 = .ok (.invokevirtual 23, 3) := by decide +kernel
theorem dX6_setGap_5 : decode cX6_setGap 5 = .ok (.istore_n 3, 1) := by decide +kernel
theorem dX6_setGap_6 : decode cX6_setGap 6 = .ok (.iload_n 3, 1) := by decide +kernel
theorem dX6_setGap_7 : decode cX6_setGap 7 = .ok (.ifCond .eq 7, 3) := by decide +kernel
theorem dX6_setGap_10 : decode cX6_setGap 10 = .ok (.aload_n 2, 1) := by decide +kernel
theorem dX6_setGap_11 : decode cX6_setGap 11 = .ok (.goto 4, 3) := by decide +kernel
theorem dX6_setGap_14 : decode cX6_setGap 14 = .ok (.aload_n 1, 1) := by decide +kernel
theorem dX6_setGap_15 : decode cX6_setGap 15 = .ok (.astore 4, 2) := by decide +kernel
theorem dX6_setGap_17 : decode cX6_setGap 17 = .ok (.iload_n 3, 1) := by decide +kernel
theorem dX6_setGap_18 : decode cX6_setGap 18 = .ok (.ifCond .eq 7, 3) := by decide +kernel
theorem dX6_setGap_21 : decode cX6_setGap 21 = .ok (.aload_n 1, 1) := by decide +kernel
theorem dX6_setGap_22 : decode cX6_setGap 22 = .ok (.goto 4, 3) := by decide +kernel
theorem dX6_setGap_25 : decode cX6_setGap 25 = .ok (.aload_n 2, 1) := by decide +kernel
theorem dX6_setGap_26 : decode cX6_setGap 26 = .ok (.astore 5, 2) := by decide +kernel
theorem dX6_setGap_28 : decode cX6_setGap 28 = .ok (.lconst 0, 1) := by decide +kernel
theorem dX6_setGap_29 : decode cX6_setGap 29 = .ok (.lstore 6, 2) := by decide +kernel
theorem dX6_setGap_31 : decode cX6_setGap 31 = .ok (.iconst 0, 1) := by decide +kernel
theorem dX6_setGap_32 : decode cX6_setGap 32 = .ok (.istore 8, 2) := by decide +kernel
theorem dX6_setGap_34 : decode cX6_setGap 34 = .ok (.iload 8, 2) := by decide +kernel
theorem dX6_setGap_36 : decode cX6_setGap 36 = .ok (.bipush 7, 2) := by decide +kernel
theorem dX6_setGap_38 : decode cX6_setGap 38 = .ok (.if_icmp .ge 58, 3) := by decide +kernel
theorem dX6_setGap_41 : decode cX6_setGap 41 = .ok (.aload 4, 2) := by decide +kernel
theorem dX6_setGap_43 : decode cX6_setGap 43 = .ok (.getfield 9, 3) := by decide +kernel
theorem dX6_setGap_46 : decode cX6_setGap 46 = .ok (.iload 8, 2) := by decide +kernel
theorem dX6_setGap_48 : decode cX6_setGap 48 = .ok (.laload, 1) := by decide +kernel
theorem dX6_setGap_49 : decode cX6_setGap 49 = .ok (.aload 5, 2) := by decide +kernel
theorem dX6_setGap_51 : decode cX6_setGap 51 = .ok (.getfield 9, 3) := by decide +kernel
theorem dX6_setGap_54 : decode cX6_setGap 54 = .ok (.iload 8, 2) := by decide +kernel
theorem dX6_setGap_56 : decode cX6_setGap 56 = .ok (.laload, 1) := by decide +kernel
theorem dX6_setGap_57 : decode cX6_setGap 57 = .ok (.lsub, 1) := by decide +kernel
theorem dX6_setGap_58 : decode cX6_setGap 58 = .ok (.lload 6, 2) := by decide +kernel
theorem dX6_setGap_60 : decode cX6_setGap 60 = .ok (.lsub, 1) := by decide +kernel
theorem dX6_setGap_61 : decode cX6_setGap 61 = .ok (.lstore 9, 2) := by decide +kernel
theorem dX6_setGap_63 : decode cX6_setGap 63 = .ok (.aload_n 0, 1) := by decide +kernel
theorem dX6_setGap_64 : decode cX6_setGap 64 = .ok (.getfield 9, 3) := by decide +kernel
theorem dX6_setGap_67 : decode cX6_setGap 67 = .ok (.iload 8, 2) := by decide +kernel
theorem dX6_setGap_69 : decode cX6_setGap 69 = .ok (.lload 9, 2) := by decide +kernel
theorem dX6_setGap_71 : decode cX6_setGap 71 = .ok (.ldc2_w 21, 3) := by decide +kernel
theorem dX6_setGap_74 : decode cX6_setGap 74 = .ok (.land, 1) := by decide +kernel
theorem dX6_setGap_75 : decode cX6_setGap 75 = .ok (.lastore, 1) := by decide +kernel
theorem dX6_setGap_76 : decode cX6_setGap 76 = .ok (.lload 9, 2) := by decide +kernel
theorem dX6_setGap_78 : decode cX6_setGap 78 = .ok (.lconst 0, 1) := by decide +kernel
theorem dX6_setGap_79 : decode cX6_setGap 79 = .ok (.lcmp, 1) := by decide +kernel
theorem dX6_setGap_80 : decode cX6_setGap 80 = .ok (.ifCond .ge 7, 3) := by decide +kernel
theorem dX6_setGap_83 : decode cX6_setGap 83 = .ok (.lconst 1, 1) := by decide +kernel
theorem dX6_setGap_84 : decode cX6_setGap 84 = .ok (.goto 4, 3) := by decide +kernel
theorem dX6_setGap_87 : decode cX6_setGap 87 = .ok (.lconst 0, 1) := by decide +kernel
theorem dX6_setGap_88 : decode cX6_setGap 88 = .ok (.lstore 6, 2) := by decide +kernel
theorem dX6_setGap_90 : decode cX6_setGap 90 = .ok (.iinc 8 1, 3) := by decide +kernel
theorem dX6_setGap_93 : decode cX6_setGap 93 = .ok (.goto (-59), 3) := by decide +kernel
theorem dX6_setGap_96 : decode cX6_setGap 96 = .ok (.return_, 1) := by decide +kernel
theorem dX6_isLess_0 : decode cX6_isLess 0 = .ok (.bipush 6, 2) := by decide +kernel
theorem dX6_isLess_2 : decode cX6_isLess 2 = .ok (.istore_n 2, 1) := by decide +kernel
theorem dX6_isLess_3 : decode cX6_isLess 3 = .ok (.iload_n 2, 1) := by decide +kernel
theorem dX6_isLess_4 : decode cX6_isLess 4 = .ok (.ifCond .lt 47, 3) := by decide +kernel
theorem dX6_isLess_7 : decode cX6_isLess 7 = .ok (.aload_n 0, 1) := by decide +kernel
theorem dX6_isLess_8 : decode cX6_isLess 8 = .ok (.getfield 9, 3) := by decide +kernel
theorem dX6_isLess_11 : decode cX6_isLess 11 = .ok (.iload_n 2, 1) := by decide +kernel
theorem dX6_isLess_12 : decode cX6_isLess 12 = .ok (.laload, 1) := by decide +kernel
theorem dX6_isLess_13 : decode cX6_isLess 13 = .ok (.aload_n 1, 1) := by decide +kernel
theorem dX6_isLess_14 : decode cX6_isLess 14 = .ok (.getfield 9, 3) := by decide +kernel
theorem dX6_isLess_17 : decode cX6_isLess 17 = .ok (.iload_n 2, 1) := by decide +kernel
theorem dX6_isLess_18 : decode cX6_isLess 18 = .ok (.laload, 1) := by decide +kernel
theorem dX6_isLess_19 : decode cX6_isLess 19 = .ok (.lcmp, 1) := by decide +kernel
theorem dX6_isLess_20 : decode cX6_isLess 20 = .ok (.ifCond .eq 25, 3) := by decide +kernel
theorem dX6_isLess_23 : decode cX6_isLess 23 = .ok (.aload_n 0, 1) := by decide +kernel
theorem dX6_isLess_24 : decode cX6_isLess 24 = .ok (.getfield 9, 3) := by decide +kernel
theorem dX6_isLess_27 : decode cX6_isLess 27 = .ok (.iload_n 2, 1) := by decide +kernel
theorem dX6_isLess_28 : decode cX6_isLess 28 = .ok (.laload, 1) := by decide +kernel
theorem dX6_isLess_29 : decode cX6_isLess 29 = .ok (.aload_n 1, 1) := by decide +kernel
theorem dX6_isLess_30 : decode cX6_isLess 30 = .ok (.getfield 9, 3) := by decide +kernel
theorem dX6_isLess_33 : decode cX6_isLess 33 = .ok (.iload_n 2, 1) := by decide +kernel
theorem dX6_isLess_34 : decode cX6_isLess 34 = .ok (.laload, 1) := by decide +kernel
theorem dX6_isLess_35 : decode cX6_isLess 35 = .ok (.lcmp, 1) := by decide +kernel
theorem dX6_isLess_36 : decode cX6_isLess 36 = .ok (.ifCond .ge 7, 3) := by decide +kernel
theorem dX6_isLess_39 : decode cX6_isLess 39 = .ok (.iconst 1, 1) := by decide +kernel
theorem dX6_isLess_40 : decode cX6_isLess 40 = .ok (.goto 4, 3) := by decide +kernel
theorem dX6_isLess_43 : decode cX6_isLess 43 = .ok (.iconst 0, 1) := by decide +kernel
theorem dX6_isLess_44 : decode cX6_isLess 44 = .ok (.ireturn, 1) := by decide +kernel
theorem dX6_isLess_45 : decode cX6_isLess 45 = .ok (.iinc 2 (-1), 3) := by decide +kernel
theorem dX6_isLess_48 : decode cX6_isLess 48 = .ok (.goto (-45), 3) := by decide +kernel
theorem dX6_isLess_51 : decode cX6_isLess 51 = .ok (.iconst 0, 1) := by decide +kernel
theorem dX6_isLess_52 : decode cX6_isLess 52 = .ok (.ireturn, 1) := by decide +kernel
theorem dX7_init_0 : decode cX7_init 0 = .ok (.aload_n 0, 1) := by decide +kernel
theorem dX7_init_1 : decode cX7_init 1 = .ok (.invokespecial 1, 3) := by decide +kernel
theorem dX7_init_4 : decode cX7_init 4 = .ok (.aload_n 0, 1) := by decide +kernel
theorem dX7_init_5 : decode cX7_init 5 = .ok (.bipush 8, 2) := by decide +kernel
theorem dX7_init_7 : decode cX7_init 7 = .ok (.newarray .int, 2) := by decide +kernel
theorem dX7_init_9 : decode cX7_init 9 = .ok (.putfield 9, 3) := by decide +kernel
theorem dX7_init_12 : decode cX7_init 12 = .ok (.aload_n 0, 1) := by decide +kernel
theorem dX7_init_13 : decode cX7_init 13 = .ok (.bipush 8, 2) := by decide +kernel
theorem dX7_init_15 : decode cX7_init 15 = .ok (.newarray .long, 2) := by decide +kernel
theorem dX7_init_17 : decode cX7_init 17 = .ok (.putfield 13, 3) := by decide +kernel
theorem dX7_init_20 : decode cX7_init 20 = .ok (.aload_n 0, 1) := by decide +kernel
theorem dX7_init_21 : decode cX7_init 21 = .ok (.new 17, 3) := by decide +kernel
theorem dX7_init_24 : decode cX7_init 24 = .ok (.dup, 1) := by decide +kernel
theorem dX7_init_25 : decode cX7_init 25 = .ok (.invokespecial 19, 3) := by decide +kernel
theorem dX7_init_28 : decode cX7_init 28 = .ok (.putfield 20, 3) := by decide +kernel
theorem dX7_init_31 : decode cX7_init 31 = .ok (.aload_n 0, 1) := by decide +kernel
theorem dX7_init_32 : decode cX7_init 32 = .ok (.new 24, 3) := by decide +kernel
theorem dX7_init_35 : decode cX7_init 35 = .ok (.dup, 1) := by decide +kernel
theorem dX7_init_36 : decode cX7_init 36 = .ok (.invokespecial 26, 3) := by decide +kernel
theorem dX7_init_39 : decode cX7_init 39 = .ok (.putfield 27, 3) := by decide +kernel
theorem dX7_init_42 : decode cX7_init 42 = .ok (.return_, 1) := by decide +kernel
theorem dX7_put_0 : decode cX7_put 0 = .ok (.iload_n 1, 1) := by decide +kernel
theorem dX7_put_1 : decode cX7_put 1 = .ok (.invokestatic 31, 3) := by decide +kernel
theorem dX7_put_4 : decode cX7_put 4 = .ok (.iload_n 2, 1) := by decide +kernel
theorem dX7_put_5 : decode cX7_put 5 = .ok (.i2l, 1) := by decide +kernel
theorem dX7_put_6 : decode cX7_put 6 = .ok (.invokestatic 35, 3) := by decide +kernel
theorem dX7_put_9 : decode cX7_put 9 = .ok (.ifCond .ne 13, 3) := by decide +kernel
theorem dX7_put_12 : decode cX7_put 12 = .ok (.new 41, 3) := by decide +kernel
theorem dX7_put_15 : decode cX7_put 15 = .ok (.dup, 1) := by decide +kernel
theorem dX7_put_16 : decode cX7_put 16 = .ok (.ldc 43, 2) := by decide +kernel
theorem dX7_put_18 : decode cX7_put 18 = .ok (.invokespecial 45, 3) := by decide +kernel
theorem dX7_put_21 : decode cX7_put 21 = .ok (.athrow, 1) := by decide +kernel
theorem dX7_put_22 : decode cX7_put 22 = .ok (.iload_n 3, 1) := by decide +kernel
theorem dX7_put_23 : decode cX7_put 23 = .ok (.ifCond .eq 7, 3) := by decide +kernel
theorem dX7_put_26 : decode cX7_put 26 = .ok (.iconst 1, 1) := by decide +kernel
theorem dX7_put_27 : decode cX7_put 27 = .ok (.goto 4, 3) := by decide +kernel
theorem dX7_put_30 : decode cX7_put 30 = .ok (.iconst 0, 1) := by decide +kernel
theorem dX7_put_31 : decode cX7_put 31 = .ok (.iload 4, 2) := by decide +kernel
theorem dX7_put_33 : decode cX7_put 33 = .ok (.ifCond .eq 7, 3) := by decide +kernel
theorem dX7_put_36 : decode cX7_put 36 = .ok (.iconst 2, 1) := by decide +kernel
theorem dX7_put_37 : decode cX7_put 37 = .ok (.goto 4, 3) := by decide +kernel
theorem dX7_put_40 : decode cX7_put 40 = .ok (.iconst 0, 1) := by decide +kernel
theorem dX7_put_41 : decode cX7_put 41 = .ok (.ior, 1) := by decide +kernel
theorem dX7_put_42 : decode cX7_put 42 = .ok (.istore 5, 2) := by decide +kernel
theorem dX7_put_44 : decode cX7_put 44 = .ok (.aload_n 0, 1) := by decide +kernel
theorem dX7_put_45 : decode cX7_put 45 = .ok (.iload_n 1, 1) := by decide +kernel
theorem dX7_put_46 : decode cX7_put 46 = .ok (.iload_n 2, 1) := by decide +kernel
theorem dX7_put_47 : decode cX7_put 47 = .ok (.iload 5, 2) := by decide +kernel
theorem dX7_put_49 : decode cX7_put 49 = .ok (.invokestatic 48, 3) := by decide +kernel
theorem dX7_put_52 : decode cX7_put 52 = .ok (.invokevirtual 52, 3) := by decide +kernel
theorem dX7_put_55 : decode cX7_put 55 = .ok (.aload_n 0, 1) := by decide +kernel
theorem dX7_put_56 : decode cX7_put 56 = .ok (.getfield 13, 3) := by decide +kernel
theorem dX7_put_59 : decode cX7_put 59 = .ok (.iload_n 1, 1) := by decide +kernel
theorem dX7_put_60 : decode cX7_put 60 = .ok (.laload, 1) := by decide +kernel
theorem dX7_put_61 : decode cX7_put 61 = .ok (.invokestatic 56, 3) := by decide +kernel
theorem dX7_put_64 : decode cX7_put 64 = .ok (.ireturn, 1) := by decide +kernel
theorem dX7_volume_0 : decode cX7_volume 0 = .ok (.iload_n 1, 1) := by decide +kernel
theorem dX7_volume_1 : decode cX7_volume 1 = .ok (.invokestatic 31, 3) := by decide +kernel
theorem dX7_volume_4 : decode cX7_volume 4 = .ok (.aload_n 0, 1) := by decide +kernel
theorem dX7_volume_5 : decode cX7_volume 5 = .ok (.getfield 9, 3) := by decide +kernel
theorem dX7_volume_8 : decode cX7_volume 8 = .ok (.iload_n 1, 1) := by decide +kernel
theorem dX7_volume_9 : decode cX7_volume 9 = .ok (.iaload, 1) := by decide +kernel
theorem dX7_volume_10 : decode cX7_volume 10 = .ok (.invokestatic 62, 3) := by decide +kernel
theorem dX7_volume_13 : decode cX7_volume 13 = .ok (.ireturn, 1) := by decide +kernel
theorem dX7_kind_0 : decode cX7_kind 0 = .ok (.iload_n 1, 1) := by decide +kernel
theorem dX7_kind_1 : decode cX7_kind 1 = .ok (.invokestatic 31, 3) := by decide +kernel
theorem dX7_kind_4 : decode cX7_kind 4 = .ok (.aload_n 0, 1) := by decide +kernel
theorem dX7_kind_5 : decode cX7_kind 5 = .ok (.getfield 9, 3) := by decide +kernel
theorem dX7_kind_8 : decode cX7_kind 8 = .ok (.iload_n 1, 1) := by decide +kernel
theorem dX7_kind_9 : decode cX7_kind 9 = .ok (.iaload, 1) := by decide +kernel
theorem dX7_kind_10 : decode cX7_kind 10 = .ok (.invokestatic 66, 3) := by decide +kernel
theorem dX7_kind_13 : decode cX7_kind 13 = .ok (.ireturn, 1) := by decide +kernel
theorem dX7_fine_0 : decode cX7_fine 0 = .ok (.iload_n 1, 1) := by decide +kernel
theorem dX7_fine_1 : decode cX7_fine 1 = .ok (.invokestatic 31, 3) := by decide +kernel
theorem dX7_fine_4 : decode cX7_fine 4 = .ok (.aload_n 0, 1) := by decide +kernel
theorem dX7_fine_5 : decode cX7_fine 5 = .ok (.getfield 13, 3) := by decide +kernel
theorem dX7_fine_8 : decode cX7_fine 8 = .ok (.iload_n 1, 1) := by decide +kernel
theorem dX7_fine_9 : decode cX7_fine 9 = .ok (.laload, 1) := by decide +kernel
theorem dX7_fine_10 : decode cX7_fine 10 = .ok (.invokestatic 56, 3) := by decide +kernel
theorem dX7_fine_13 : decode cX7_fine 13 = .ok (.ireturn, 1) := by decide +kernel
theorem dX7_whole_0 : decode cX7_whole 0 = .ok (.iload_n 1, 1) := by decide +kernel
theorem dX7_whole_1 : decode cX7_whole 1 = .ok (.invokestatic 31, 3) := by decide +kernel
theorem dX7_whole_4 : decode cX7_whole 4 = .ok (.aload_n 0, 1) := by decide +kernel
theorem dX7_whole_5 : decode cX7_whole 5 = .ok (.getfield 13, 3) := by decide +kernel
theorem dX7_whole_8 : decode cX7_whole 8 = .ok (.iload_n 1, 1) := by decide +kernel
theorem dX7_whole_9 : decode cX7_whole 9 = .ok (.laload, 1) := by decide +kernel
theorem dX7_whole_10 : decode cX7_whole 10 = .ok (.invokestatic 69, 3) := by decide +kernel
theorem dX7_whole_13 : decode cX7_whole 13 = .ok (.ireturn, 1) := by decide +kernel
theorem dX7_coarse_0 : decode cX7_coarse 0 = .ok (.iload_n 1, 1) := by decide +kernel
theorem dX7_coarse_1 : decode cX7_coarse 1 = .ok (.invokestatic 31, 3) := by decide +kernel
theorem dX7_coarse_4 : decode cX7_coarse 4 = .ok (.aload_n 0, 1) := by decide +kernel
theorem dX7_coarse_5 : decode cX7_coarse 5 = .ok (.getfield 13, 3) := by decide +kernel
theorem dX7_coarse_8 : decode cX7_coarse 8 = .ok (.iload_n 1, 1) := by decide +kernel
theorem dX7_coarse_9 : decode cX7_coarse 9 = .ok (.laload, 1) := by decide +kernel
theorem dX7_coarse_10 : decode cX7_coarse 10 = .ok (.invokestatic 56, 3) := by decide +kernel
theorem dX7_coarse_13 : decode cX7_coarse 13 = .ok (.i2d, 1) := by decide +kernel
theorem dX7_coarse_14 : decode cX7_coarse 14 = .ok (.ldc2_w 72, 3) := by decide +kernel
theorem dX7_coarse_17 : decode cX7_coarse 17 = .ok (.ddiv, 1) := by decide +kernel
theorem dX7_coarse_18 : decode cX7_coarse 18 = .ok (.dreturn, 1) := by decide +kernel
theorem dX7_isExact_0 : decode cX7_isExact 0 = .ok (.iload_n 1, 1) := by decide +kernel
theorem dX7_isExact_1 : decode cX7_isExact 1 = .ok (.invokestatic 31, 3) := by decide +kernel
theorem dX7_isExact_4 : decode cX7_isExact 4 = .ok (.aload_n 0, 1) := by decide +kernel
theorem dX7_isExact_5 : decode cX7_isExact 5 = .ok (.getfield 13, 3) := by decide +kernel
theorem dX7_isExact_8 : decode cX7_isExact 8 = .ok (.iload_n 1, 1) := by decide +kernel
theorem dX7_isExact_9 : decode cX7_isExact 9 = .ok (.laload, 1) := by decide +kernel
theorem dX7_isExact_10 : decode cX7_isExact 10 = .ok (.invokestatic 74, 3) := by decide +kernel
theorem dX7_isExact_13 : decode cX7_isExact 13 = .ok (.ireturn, 1) := by decide +kernel
theorem dX7_bits_0 : decode cX7_bits 0 = .ok (.iload_n 1, 1) := by decide +kernel
theorem dX7_bits_1 : decode cX7_bits 1 = .ok (.invokestatic 31, 3) := by decide +kernel
theorem dX7_bits_4 : decode cX7_bits 4 = .ok (.aload_n 0, 1) := by decide +kernel
theorem dX7_bits_5 : decode cX7_bits 5 = .ok (.getfield 13, 3) := by decide +kernel
theorem dX7_bits_8 : decode cX7_bits 8 = .ok (.iload_n 1, 1) := by decide +kernel
theorem dX7_bits_9 : decode cX7_bits 9 = .ok (.laload, 1) := by decide +kernel
theorem dX7_bits_10 : decode cX7_bits 10 = .ok (.invokestatic 74, 3) := by decide +kernel
theorem dX7_bits_13 : decode cX7_bits 13 = .ok (.ifCond .ne 13, 3) := by decide +kernel
theorem dX7_bits_16 : decode cX7_bits 16 = .ok (.new 77, 3) := by decide +kernel
theorem dX7_bits_19 : decode cX7_bits 19 = .ok (.dup, 1) := by decide +kernel
theorem dX7_bits_20 : decode cX7_bits 20 = .ok (.ldc 79, 2) := by decide +kernel
theorem dX7_bits_22 : decode cX7_bits 22 = .ok (.invokespecial 81, 3) := by decide +kernel
theorem dX7_bits_25 : decode cX7_bits 25 = .ok (.athrow, 1) := by decide +kernel
theorem dX7_bits_26 : decode cX7_bits 26 = .ok (.aload_n 0, 1) := by decide +kernel
theorem dX7_bits_27 : decode cX7_bits 27 = .ok (.getfield 13, 3) := by decide +kernel
theorem dX7_bits_30 : decode cX7_bits 30 = .ok (.iload_n 1, 1) := by decide +kernel
theorem dX7_bits_31 : decode cX7_bits 31 = .ok (.laload, 1) := by decide +kernel
theorem dX7_bits_32 : decode cX7_bits 32 = .ok (.lreturn, 1) := by decide +kernel
theorem dX7_order_0 : decode cX7_order 0 = .ok (.iload_n 1, 1) := by decide +kernel
theorem dX7_order_1 : decode cX7_order 1 = .ok (.invokestatic 31, 3) := by decide +kernel
theorem dX7_order_4 : decode cX7_order 4 = .ok (.iload_n 2, 1) := by decide +kernel
theorem dX7_order_5 : decode cX7_order 5 = .ok (.invokestatic 31, 3) := by decide +kernel
theorem dX7_order_8 : decode cX7_order 8 = .ok (.aload_n 0, 1) := by decide +kernel
theorem dX7_order_9 : decode cX7_order 9 = .ok (.getfield 13, 3) := by decide +kernel
theorem dX7_order_12 : decode cX7_order 12 = .ok (.iload_n 1, 1) := by decide +kernel
theorem dX7_order_13 : decode cX7_order 13 = .ok (.laload, 1) := by decide +kernel
theorem dX7_order_14 : decode cX7_order 14 = .ok (.aload_n 0, 1) := by decide +kernel
theorem dX7_order_15 : decode cX7_order 15 = .ok (.getfield 13, 3) := by decide +kernel
theorem dX7_order_18 : decode cX7_order 18 = .ok (.iload_n 2, 1) := by decide +kernel
theorem dX7_order_19 : decode cX7_order 19 = .ok (.laload, 1) := by decide +kernel
theorem dX7_order_20 : decode cX7_order 20 = .ok (.invokestatic 82, 3) := by decide +kernel
theorem dX7_order_23 : decode cX7_order 23 = .ok (.ifCond .eq 5, 3) := by decide +kernel
theorem dX7_order_26 : decode cX7_order 26 = .ok (.iconst (-1), 1) := by decide +kernel
theorem dX7_order_27 : decode cX7_order 27 = .ok (.ireturn, 1) := by decide +kernel
theorem dX7_order_28 : decode cX7_order 28 = .ok (.aload_n 0, 1) := by decide +kernel
theorem dX7_order_29 : decode cX7_order 29 = .ok (.getfield 13, 3) := by decide +kernel
theorem dX7_order_32 : decode cX7_order 32 = .ok (.iload_n 2, 1) := by decide +kernel
theorem dX7_order_33 : decode cX7_order 33 = .ok (.laload, 1) := by decide +kernel
theorem dX7_order_34 : decode cX7_order 34 = .ok (.aload_n 0, 1) := by decide +kernel
theorem dX7_order_35 : decode cX7_order 35 = .ok (.getfield 13, 3) := by decide +kernel
theorem dX7_order_38 : decode cX7_order 38 = .ok (.iload_n 1, 1) := by decide +kernel
theorem dX7_order_39 : decode cX7_order 39 = .ok (.laload, 1) := by decide +kernel
theorem dX7_order_40 : decode cX7_order 40 = .ok (.invokestatic 82, 3) := by decide +kernel
theorem dX7_order_43 : decode cX7_order 43 = .ok (.ifCond .eq 7, 3) := by decide +kernel
theorem dX7_order_46 : decode cX7_order 46 = .ok (.iconst 1, 1) := by decide +kernel
theorem dX7_order_47 : decode cX7_order 47 = .ok (.goto 4, 3) := by decide +kernel
theorem dX7_order_50 : decode cX7_order 50 = .ok (.iconst 0, 1) := by decide +kernel
theorem dX7_order_51 : decode cX7_order 51 = .ok (.ireturn, 1) := by decide +kernel
theorem dX7_grow_0 : decode cX7_grow 0 = .ok (.iload_n 1, 1) := by decide +kernel
theorem dX7_grow_1 : decode cX7_grow 1 = .ok (.invokestatic 31, 3) := by decide +kernel
theorem dX7_grow_4 : decode cX7_grow 4 = .ok (.aload_n 0, 1) := by decide +kernel
theorem dX7_grow_5 : decode cX7_grow 5 = .ok (.getfield 9, 3) := by decide +kernel
theorem dX7_grow_8 : decode cX7_grow 8 = .ok (.iload_n 1, 1) := by decide +kernel
theorem dX7_grow_9 : decode cX7_grow 9 = .ok (.iaload, 1) := by decide +kernel
theorem dX7_grow_10 : decode cX7_grow 10 = .ok (.invokestatic 86, 3) := by decide +kernel
theorem dX7_grow_13 : decode cX7_grow 13 = .ok (.i2l, 1) := by decide +kernel
theorem dX7_grow_14 : decode cX7_grow 14 = .ok (.iload_n 2, 1) := by decide +kernel
theorem dX7_grow_15 : decode cX7_grow 15 = .ok (.i2l, 1) := by decide +kernel
theorem dX7_grow_16 : decode cX7_grow 16 = .ok (.ladd, 1) := by decide +kernel
theorem dX7_grow_17 : decode cX7_grow 17 = .ok (.lstore_n 3, 1) := by decide +kernel
theorem dX7_grow_18 : decode cX7_grow 18 = .ok (.lload_n 3, 1) := by decide +kernel
theorem dX7_grow_19 : decode cX7_grow 19 = .ok (.invokestatic 35, 3) := by decide +kernel
theorem dX7_grow_22 : decode cX7_grow 22 = .ok (.ifCond .ne 13, 3) := by decide +kernel
theorem dX7_grow_25 : decode cX7_grow 25 = .ok (.new 77, 3) := by decide +kernel
theorem dX7_grow_28 : decode cX7_grow 28 = .ok (.dup, 1) := by decide +kernel
theorem dX7_grow_29 : decode cX7_grow 29 = .ok (.ldc 89, 2) := by decide +kernel
theorem dX7_grow_31 : decode cX7_grow 31 = .ok (.invokespecial 81, 3) := by decide +kernel
theorem dX7_grow_34 : decode cX7_grow 34 = .ok (.athrow, 1) := by decide +kernel
theorem dX7_grow_35 : decode cX7_grow 35 = .ok (.aload_n 0, 1) := by decide +kernel
theorem dX7_grow_36 : decode cX7_grow 36 = .ok (.getfield 13, 3) := by decide +kernel
theorem dX7_grow_39 : decode cX7_grow 39 = .ok (.iload_n 1, 1) := by decide +kernel
theorem dX7_grow_40 : decode cX7_grow 40 = .ok (.laload, 1) := by decide +kernel
theorem dX7_grow_41 : decode cX7_grow 41 = .ok (.invokestatic 91, 3) := by decide +kernel
theorem dX7_grow_44 : decode cX7_grow 44 = .ok (.invokestatic 56, 3) := by decide +kernel
theorem dX7_grow_47 : decode cX7_grow 47 = .ok (.istore 5, 2) := by decide +kernel
theorem dX7_grow_49 : decode cX7_grow 49 = .ok (.aload_n 0, 1) := by decide +kernel
theorem dX7_grow_50 : decode cX7_grow 50 = .ok (.iload_n 1, 1) := by decide +kernel
theorem dX7_grow_51 : decode cX7_grow 51 = .ok (.lload_n 3, 1) := by decide +kernel
theorem dX7_grow_52 : decode cX7_grow 52 = .ok (.l2i, 1) := by decide +kernel
theorem dX7_grow_53 : decode cX7_grow 53 = .ok (.aload_n 0, 1) := by decide +kernel
theorem dX7_grow_54 : decode cX7_grow 54 = .ok (.getfield 9, 3) := by decide +kernel
theorem dX7_grow_57 : decode cX7_grow 57 = .ok (.iload_n 1, 1) := by decide +kernel
theorem dX7_grow_58 : decode cX7_grow 58 = .ok (.iaload, 1) := by decide +kernel
theorem dX7_grow_59 : decode cX7_grow 59 = .ok (.invokestatic 66, 3) := by decide +kernel
theorem dX7_grow_62 : decode cX7_grow 62 = .ok (.invokestatic 48, 3) := by decide +kernel
theorem dX7_grow_65 : decode cX7_grow 65 = .ok (.invokevirtual 52, 3) := by decide +kernel
theorem dX7_grow_68 : decode cX7_grow 68 = .ok (.aload_n 0, 1) := by decide +kernel
theorem dX7_grow_69 : decode cX7_grow 69 = .ok (.getfield 13, 3) := by decide +kernel
theorem dX7_grow_72 : decode cX7_grow 72 = .ok (.iload_n 1, 1) := by decide +kernel
theorem dX7_grow_73 : decode cX7_grow 73 = .ok (.laload, 1) := by decide +kernel
theorem dX7_grow_74 : decode cX7_grow 74 = .ok (.invokestatic 91, 3) := by decide +kernel
theorem dX7_grow_77 : decode cX7_grow 77 = .ok (.invokestatic 56, 3) := by decide +kernel
theorem dX7_grow_80 : decode cX7_grow 80 = .ok (.iload 5, 2) := by decide +kernel
theorem dX7_grow_82 : decode cX7_grow 82 = .ok (.isub, 1) := by decide +kernel
theorem dX7_grow_83 : decode cX7_grow 83 = .ok (.ireturn, 1) := by decide +kernel
theorem dX7_sort_0 : decode cX7_sort 0 = .ok (.iconst 0, 1) := by decide +kernel
theorem dX7_sort_1 : decode cX7_sort 1 = .ok (.istore_n 1, 1) := by decide +kernel
theorem dX7_sort_2 : decode cX7_sort 2 = .ok (.iconst 0, 1) := by decide +kernel
theorem dX7_sort_3 : decode cX7_sort 3 = .ok (.istore_n 2, 1) := by decide +kernel
theorem dX7_sort_4 : decode cX7_sort 4 = .ok (.iload_n 2, 1) := by decide +kernel
theorem dX7_sort_5 : decode cX7_sort 5 = .ok (.bipush 8, 2) := by decide +kernel
theorem dX7_sort_7 : decode cX7_sort 7 = .ok (.if_icmp .ge 21, 3) := by decide +kernel
theorem dX7_sort_10 : decode cX7_sort 10 = .ok (.aload_n 0, 1) := by decide +kernel
theorem dX7_sort_11 : decode cX7_sort 11 = .ok (.iload_n 2, 1) := by decide +kernel
theorem dX7_sort_12 : decode cX7_sort 12 = .ok (.invokevirtual 95, 3) := by decide +kernel
theorem dX7_sort_15 : decode cX7_sort 15 = .ok (.iload_n 2, 1) := by decide +kernel
theorem dX7_sort_16 : decode cX7_sort 16 = .ok (.if_icmp .eq 6, 3) := by decide +kernel
theorem dX7_sort_19 : decode cX7_sort 19 = .ok (.iinc 1 1, 3) := by decide +kernel
theorem dX7_sort_22 : decode cX7_sort 22 = .ok (.iinc 2 1, 3) := by decide +kernel
theorem dX7_sort_25 : decode cX7_sort 25 = .ok (.goto (-21), 3) := by decide +kernel
theorem dX7_sort_28 : decode cX7_sort 28 = .ok (.iconst 1, 1) := by decide +kernel
theorem dX7_sort_29 : decode cX7_sort 29 = .ok (.istore_n 2, 1) := by decide +kernel
theorem dX7_sort_30 : decode cX7_sort 30 = .ok (.iload_n 2, 1) := by decide +kernel
theorem dX7_sort_31 : decode cX7_sort 31 = .ok (.bipush 8, 2) := by decide +kernel
theorem dX7_sort_33 : decode cX7_sort 33 = .ok (.if_icmp .ge 14, 3) := by decide +kernel
theorem dX7_sort_36 : decode cX7_sort 36 = .ok (.aload_n 0, 1) := by decide +kernel
theorem dX7_sort_37 : decode cX7_sort 37 = .ok (.iload_n 2, 1) := by decide +kernel
theorem dX7_sort_38 : decode cX7_sort 38 = .ok (.invokevirtual 98, 3) := by decide +kernel
theorem dX7_sort_41 : decode cX7_sort 41 = .ok (.iinc 2 1, 3) := by decide +kernel
theorem dX7_sort_44 : decode cX7_sort 44 = .ok (.goto (-14), 3) := by decide +kernel
theorem dX7_sort_47 : decode cX7_sort 47 = .ok (.iload_n 1, 1) := by decide +kernel
theorem dX7_sort_48 : decode cX7_sort 48 = .ok (.ireturn, 1) := by decide +kernel
theorem dX7_opposite_0 : decode cX7_opposite 0 = .ok (.iload_n 1, 1) := by decide +kernel
theorem dX7_opposite_1 : decode cX7_opposite 1 = .ok (.invokestatic 31, 3) := by decide +kernel
theorem dX7_opposite_4 : decode cX7_opposite 4 = .ok (.iload_n 2, 1) := by decide +kernel
theorem dX7_opposite_5 : decode cX7_opposite 5 = .ok (.invokestatic 31, 3) := by decide +kernel
theorem dX7_opposite_8 : decode cX7_opposite 8 = .ok (.aload_n 0, 1) := by decide +kernel
theorem dX7_opposite_9 : decode cX7_opposite 9 = .ok (.getfield 13, 3) := by decide +kernel
theorem dX7_opposite_12 : decode cX7_opposite 12 = .ok (.iload_n 1, 1) := by decide +kernel
theorem dX7_opposite_13 : decode cX7_opposite 13 = .ok (.laload, 1) := by decide +kernel
theorem dX7_opposite_14 : decode cX7_opposite 14 = .ok (.lstore_n 3, 1) := by decide +kernel
theorem dX7_opposite_15 : decode cX7_opposite 15 = .ok (.aload_n 0, 1) := by decide +kernel
theorem dX7_opposite_16 : decode cX7_opposite 16 = .ok (.iload_n 2, 1) := by decide +kernel
theorem dX7_opposite_17 : decode cX7_opposite 17 = .ok (.aload_n 0, 1) := by decide +kernel
theorem dX7_opposite_18 : decode cX7_opposite 18 = .ok (.getfield 9, 3) := by decide +kernel
theorem dX7_opposite_21 : decode cX7_opposite 21 = .ok (.iload_n 1, 1) := by decide +kernel
theorem dX7_opposite_22 : decode cX7_opposite 22 = .ok (.iaload, 1) := by decide +kernel
theorem dX7_opposite_23 : decode cX7_opposite 23 = .ok (.invokestatic 101, 3) := by decide +kernel
theorem dX7_opposite_26 : decode cX7_opposite 26 = .ok (.invokevirtual 52, 3) := by decide +kernel
theorem dX7_opposite_29 : decode cX7_opposite 29 = .ok (.lload_n 3, 1) := by decide +kernel
theorem dX7_opposite_30 : decode cX7_opposite 30 = .ok (.aload_n 0, 1) := by decide +kernel
theorem dX7_opposite_31 : decode cX7_opposite 31 = .ok (.getfield 13, 3) := by decide +kernel
theorem dX7_opposite_34 : decode cX7_opposite 34 = .ok (.iload_n 2, 1) := by decide +kernel
theorem dX7_opposite_35 : decode cX7_opposite 35 = .ok (.laload, 1) := by decide +kernel
theorem dX7_opposite_36 : decode cX7_opposite 36 = .ok (.invokestatic 104, 3) := by decide +kernel
theorem dX7_opposite_39 : decode cX7_opposite 39 = .ok (.ireturn, 1) := by decide +kernel
theorem dX7_eightfold_0 : decode cX7_eightfold 0 = .ok (.iload_n 1, 1) := by decide +kernel
theorem dX7_eightfold_1 : decode cX7_eightfold 1 = .ok (.invokestatic 31, 3) := by decide +kernel
theorem dX7_eightfold_4 : decode cX7_eightfold 4 = .ok (.iload_n 2, 1) := by decide +kernel
theorem dX7_eightfold_5 : decode cX7_eightfold 5 = .ok (.invokestatic 31, 3) := by decide +kernel
theorem dX7_eightfold_8 : decode cX7_eightfold 8 = .ok (.aload_n 0, 1) := by decide +kernel
theorem dX7_eightfold_9 : decode cX7_eightfold 9 = .ok (.getfield 9, 3) := by decide +kernel
theorem dX7_eightfold_12 : decode cX7_eightfold 12 = .ok (.iload_n 1, 1) := by decide +kernel
theorem dX7_eightfold_13 : decode cX7_eightfold 13 = .ok (.iaload, 1) := by decide +kernel
theorem dX7_eightfold_14 : decode cX7_eightfold 14 = .ok (.invokestatic 107, 3) := by decide +kernel
theorem dX7_eightfold_17 : decode cX7_eightfold 17 = .ok (.istore_n 3, 1) := by decide +kernel
theorem dX7_eightfold_18 : decode cX7_eightfold 18 = .ok (.iload_n 3, 1) := by decide +kernel
theorem dX7_eightfold_19 : decode cX7_eightfold 19 = .ok (.iconst (-1), 1) := by decide +kernel
theorem dX7_eightfold_20 : decode cX7_eightfold 20 = .ok (.if_icmp .ne 13, 3) := by decide +kernel
theorem dX7_eightfold_23 : decode cX7_eightfold 23 = .ok (.new 77, 3) := by decide +kernel
theorem dX7_eightfold_26 : decode cX7_eightfold 26 = .ok (.dup, 1) := by decide +kernel
theorem dX7_eightfold_27 : decode cX7_eightfold 27 = .ok (.ldc 110, 2) := by decide +kernel
theorem dX7_eightfold_29 : decode cX7_eightfold 29 = .ok (.invokespecial 81, 3) := by decide +kernel
theorem dX7_eightfold_32 : decode cX7_eightfold 32 = .ok (.athrow, 1) := by decide +kernel
theorem dX7_eightfold_33 : decode cX7_eightfold 33 = .ok (.aload_n 0, 1) := by decide +kernel
theorem dX7_eightfold_34 : decode cX7_eightfold 34 = .ok (.getfield 13, 3) := by decide +kernel
theorem dX7_eightfold_37 : decode cX7_eightfold 37 = .ok (.iload_n 1, 1) := by decide +kernel
theorem dX7_eightfold_38 : decode cX7_eightfold 38 = .ok (.laload, 1) := by decide +kernel
theorem dX7_eightfold_39 : decode cX7_eightfold 39 = .ok (.lstore 4, 2) := by decide +kernel
theorem dX7_eightfold_41 : decode cX7_eightfold 41 = .ok (.aload_n 0, 1) := by decide +kernel
theorem dX7_eightfold_42 : decode cX7_eightfold 42 = .ok (.iload_n 2, 1) := by decide +kernel
theorem dX7_eightfold_43 : decode cX7_eightfold 43 = .ok (.iload_n 3, 1) := by decide +kernel
theorem dX7_eightfold_44 : decode cX7_eightfold 44 = .ok (.invokevirtual 52, 3) := by decide +kernel
theorem dX7_eightfold_47 : decode cX7_eightfold 47 = .ok (.lload 4, 2) := by decide +kernel
theorem dX7_eightfold_49 : decode cX7_eightfold 49 = .ok (.aload_n 0, 1) := by decide +kernel
theorem dX7_eightfold_50 : decode cX7_eightfold 50 = .ok (.getfield 13, 3) := by decide +kernel
theorem dX7_eightfold_53 : decode cX7_eightfold 53 = .ok (.iload_n 2, 1) := by decide +kernel
theorem dX7_eightfold_54 : decode cX7_eightfold 54 = .ok (.laload, 1) := by decide +kernel
theorem dX7_eightfold_55 : decode cX7_eightfold 55 = .ok (.invokestatic 112, 3) := by decide +kernel
theorem dX7_eightfold_58 : decode cX7_eightfold 58 = .ok (.ireturn, 1) := by decide +kernel
theorem dX7_eighth_0 : decode cX7_eighth 0 = .ok (.iload_n 1, 1) := by decide +kernel
theorem dX7_eighth_1 : decode cX7_eighth 1 = .ok (.invokestatic 31, 3) := by decide +kernel
theorem dX7_eighth_4 : decode cX7_eighth 4 = .ok (.iload_n 2, 1) := by decide +kernel
theorem dX7_eighth_5 : decode cX7_eighth 5 = .ok (.invokestatic 31, 3) := by decide +kernel
theorem dX7_eighth_8 : decode cX7_eighth 8 = .ok (.aload_n 0, 1) := by decide +kernel
theorem dX7_eighth_9 : decode cX7_eighth 9 = .ok (.getfield 9, 3) := by decide +kernel
theorem dX7_eighth_12 : decode cX7_eighth 12 = .ok (.iload_n 1, 1) := by decide +kernel
theorem dX7_eighth_13 : decode cX7_eighth 13 = .ok (.iaload, 1) := by decide +kernel
theorem dX7_eighth_14 : decode cX7_eighth 14 = .ok (.invokestatic 115, 3) := by decide +kernel
theorem dX7_eighth_17 : decode cX7_eighth 17 = .ok (.istore_n 3, 1) := by decide +kernel
theorem dX7_eighth_18 : decode cX7_eighth 18 = .ok (.iload_n 3, 1) := by decide +kernel
theorem dX7_eighth_19 : decode cX7_eighth 19 = .ok (.iconst (-1), 1) := by decide +kernel
theorem dX7_eighth_20 : decode cX7_eighth 20 = .ok (.if_icmp .ne 13, 3) := by decide +kernel
theorem dX7_eighth_23 : decode cX7_eighth 23 = .ok (.new 77, 3) := by decide +kernel
theorem dX7_eighth_26 : decode cX7_eighth 26 = .ok (.dup, 1) := by decide +kernel
theorem dX7_eighth_27 : decode cX7_eighth 27 = .ok (.ldc 118, 2) := by decide +kernel
theorem dX7_eighth_29 : decode cX7_eighth 29 = .ok (.invokespecial 81, 3) := by decide +kernel
theorem dX7_eighth_32 : decode cX7_eighth 32 = .ok (.athrow, 1) := by decide +kernel
theorem dX7_eighth_33 : decode cX7_eighth 33 = .ok (.aload_n 0, 1) := by decide +kernel
theorem dX7_eighth_34 : decode cX7_eighth 34 = .ok (.getfield 13, 3) := by decide +kernel
theorem dX7_eighth_37 : decode cX7_eighth 37 = .ok (.iload_n 1, 1) := by decide +kernel
theorem dX7_eighth_38 : decode cX7_eighth 38 = .ok (.laload, 1) := by decide +kernel
theorem dX7_eighth_39 : decode cX7_eighth 39 = .ok (.lstore 4, 2) := by decide +kernel
theorem dX7_eighth_41 : decode cX7_eighth 41 = .ok (.aload_n 0, 1) := by decide +kernel
theorem dX7_eighth_42 : decode cX7_eighth 42 = .ok (.iload_n 2, 1) := by decide +kernel
theorem dX7_eighth_43 : decode cX7_eighth 43 = .ok (.iload_n 3, 1) := by decide +kernel
theorem dX7_eighth_44 : decode cX7_eighth 44 = .ok (.invokevirtual 52, 3) := by decide +kernel
theorem dX7_eighth_47 : decode cX7_eighth 47 = .ok (.aload_n 0, 1) := by decide +kernel
theorem dX7_eighth_48 : decode cX7_eighth 48 = .ok (.getfield 13, 3) := by decide +kernel
theorem dX7_eighth_51 : decode cX7_eighth 51 = .ok (.iload_n 2, 1) := by decide +kernel
theorem dX7_eighth_52 : decode cX7_eighth 52 = .ok (.laload, 1) := by decide +kernel
theorem dX7_eighth_53 : decode cX7_eighth 53 = .ok (.lload 4, 2) := by decide +kernel
theorem dX7_eighth_55 : decode cX7_eighth 55 = .ok (.invokestatic 112, 3) := by decide +kernel
theorem dX7_eighth_58 : decode cX7_eighth 58 = .ok (.ireturn, 1) := by decide +kernel
theorem dX7_isNear_0 : decode cX7_isNear 0 = .ok (.iload_n 1, 1) := by decide +kernel
theorem dX7_isNear_1 : decode cX7_isNear 1 = .ok (.invokestatic 31, 3) := by decide +kernel
theorem dX7_isNear_4 : decode cX7_isNear 4 = .ok (.aload_n 0, 1) := by decide +kernel
theorem dX7_isNear_5 : decode cX7_isNear 5 = .ok (.getfield 9, 3) := by decide +kernel
theorem dX7_isNear_8 : decode cX7_isNear 8 = .ok (.iload_n 1, 1) := by decide +kernel
theorem dX7_isNear_9 : decode cX7_isNear 9 = .ok (.iaload, 1) := by decide +kernel
theorem dX7_isNear_10 : decode cX7_isNear 10 = .ok (.invokestatic 86, 3) := by decide +kernel
theorem dX7_isNear_13 : decode cX7_isNear 13 = .ok (.ifCond .ne 38, 3) := by decide +kernel
theorem dX7_isNear_16 : decode cX7_isNear 16 = .ok (.aload_n 0, 1) := by decide +kernel
theorem dX7_isNear_17 : decode cX7_isNear 17 = .ok (.getfield 13, 3) := by decide +kernel
theorem dX7_isNear_20 : decode cX7_isNear 20 = .ok (.iload_n 1, 1) := by decide +kernel
theorem dX7_isNear_21 : decode cX7_isNear 21 = .ok (.laload, 1) := by decide +kernel
theorem dX7_isNear_22 : decode cX7_isNear 22 = .ok (.aload_n 0, 1) := by decide +kernel
theorem dX7_isNear_23 : decode cX7_isNear 23 = .ok (.getfield 9, 3) := by decide +kernel
theorem dX7_isNear_26 : decode cX7_isNear 26 = .ok (.iload_n 1, 1) := by decide +kernel
theorem dX7_isNear_27 : decode cX7_isNear 27 = .ok (.iaload, 1) := by decide +kernel
theorem dX7_isNear_28 : decode cX7_isNear 28 = .ok (.invokestatic 120, 3) := by decide +kernel
theorem dX7_isNear_31 : decode cX7_isNear 31 = .ok (.ifCond .eq 9, 3) := by decide +kernel
theorem dX7_isNear_34 : decode cX7_isNear 34 = .ok (.ldc2_w 124, 3) := by decide +kernel
theorem dX7_isNear_37 : decode cX7_isNear 37 = .ok (.goto 4, 3) := by decide +kernel
theorem dX7_isNear_40 : decode cX7_isNear 40 = .ok (.lconst 0, 1) := by decide +kernel
theorem dX7_isNear_41 : decode cX7_isNear 41 = .ok (.lcmp, 1) := by decide +kernel
theorem dX7_isNear_42 : decode cX7_isNear 42 = .ok (.ifCond .ne 7, 3) := by decide +kernel
theorem dX7_isNear_45 : decode cX7_isNear 45 = .ok (.iconst 1, 1) := by decide +kernel
theorem dX7_isNear_46 : decode cX7_isNear 46 = .ok (.goto 4, 3) := by decide +kernel
theorem dX7_isNear_49 : decode cX7_isNear 49 = .ok (.iconst 0, 1) := by decide +kernel
theorem dX7_isNear_50 : decode cX7_isNear 50 = .ok (.ireturn, 1) := by decide +kernel
theorem dX7_isNear_51 : decode cX7_isNear 51 = .ok (.aload_n 0, 1) := by decide +kernel
theorem dX7_isNear_52 : decode cX7_isNear 52 = .ok (.getfield 27, 3) := by decide +kernel
theorem dX7_isNear_55 : decode cX7_isNear 55 = .ok (.aload_n 0, 1) := by decide +kernel
theorem dX7_isNear_56 : decode cX7_isNear 56 = .ok (.getfield 9, 3) := by decide +kernel
theorem dX7_isNear_59 : decode cX7_isNear 59 = .ok (.iload_n 1, 1) := by decide +kernel
theorem dX7_isNear_60 : decode cX7_isNear 60 = .ok (.iaload, 1) := by decide +kernel
theorem dX7_isNear_61 : decode cX7_isNear 61 = .ok (.invokestatic 126, 3) := by decide +kernel
theorem dX7_isNear_64 : decode cX7_isNear 64 = .ok (.aload_n 0, 1) := by decide +kernel
theorem dX7_isNear_65 : decode cX7_isNear 65 = .ok (.getfield 13, 3) := by decide +kernel
theorem dX7_isNear_68 : decode cX7_isNear 68 = .ok (.iload_n 1, 1) := by decide +kernel
theorem dX7_isNear_69 : decode cX7_isNear 69 = .ok (.laload, 1) := by decide +kernel
theorem dX7_isNear_70 : decode cX7_isNear 70 = .ok (.invokevirtual 129, 3) := by decide +kernel
theorem dX7_isNear_73 : decode cX7_isNear 73 = .ok (.ireturn, 1) := by decide +kernel
theorem dX7_multiply_0 : decode cX7_multiply 0 = .ok (.iload_n 1, 1) := by decide +kernel
theorem dX7_multiply_1 : decode cX7_multiply 1 = .ok (.invokestatic 31, 3) := by decide +kernel
theorem dX7_multiply_4 : decode cX7_multiply 4 = .ok (.iload_n 2, 1) := by decide +kernel
theorem dX7_multiply_5 : decode cX7_multiply 5 = .ok (.invokestatic 31, 3) := by decide +kernel
theorem dX7_multiply_8 : decode cX7_multiply 8 = .ok (.iload_n 3, 1) := by decide +kernel
theorem dX7_multiply_9 : decode cX7_multiply 9 = .ok (.invokestatic 31, 3) := by decide +kernel
theorem dX7_multiply_12 : decode cX7_multiply 12 = .ok (.aload_n 0, 1) := by decide +kernel
theorem dX7_multiply_13 : decode cX7_multiply 13 = .ok (.getfield 9, 3) := by decide +kernel
theorem dX7_multiply_16 : decode cX7_multiply 16 = .ok (.iload_n 1, 1) := by decide +kernel
theorem dX7_multiply_17 : decode cX7_multiply 17 = .ok (.iaload, 1) := by decide +kernel
theorem dX7_multiply_18 : decode cX7_multiply 18 = .ok (.aload_n 0, 1) := by decide +kernel
theorem dX7_multiply_19 : decode cX7_multiply 19 = .ok (.getfield 9, 3) := by decide +kernel
theorem dX7_multiply_22 : decode cX7_multiply 22 = .ok (.iload_n 2, 1) := by decide +kernel
theorem dX7_multiply_23 : decode cX7_multiply 23 = .ok (.iaload, 1) := by decide +kernel
theorem dX7_multiply_24 : decode cX7_multiply 24 = .ok (.invokestatic 133, 3) := by decide +kernel
theorem dX7_multiply_27 : decode cX7_multiply 27 = .ok (.istore 4, 2) := by decide +kernel
theorem dX7_multiply_29 : decode cX7_multiply 29 = .ok (.iload 4, 2) := by decide +kernel
theorem dX7_multiply_31 : decode cX7_multiply 31 = .ok (.iconst (-1), 1) := by decide +kernel
theorem dX7_multiply_32 : decode cX7_multiply 32 = .ok (.if_icmp .ne 13, 3) := by decide +kernel
theorem dX7_multiply_35 : decode cX7_multiply 35 = .ok (.new 77, 3) := by decide +kernel
theorem dX7_multiply_38 : decode cX7_multiply 38 = .ok (.dup, 1) := by decide +kernel
theorem dX7_multiply_39 : decode cX7_multiply 39 = .ok (.ldc 136, 2) := by decide +kernel
theorem dX7_multiply_41 : decode cX7_multiply 41 = .ok (.invokespecial 81, 3) := by decide +kernel
theorem dX7_multiply_44 : decode cX7_multiply 44 = .ok (.athrow, 1) := by decide +kernel
theorem dX7_multiply_45 : decode cX7_multiply 45 = .ok (.aload_n 0, 1) := by decide +kernel
theorem dX7_multiply_46 : decode cX7_multiply 46 = .ok (.getfield 13, 3) := by decide +kernel
theorem dX7_multiply_49 : decode cX7_multiply 49 = .ok (.iload_n 1, 1) := by decide +kernel
theorem dX7_multiply_50 : decode cX7_multiply 50 = .ok (.laload, 1) := by decide +kernel
theorem dX7_multiply_51 : decode cX7_multiply 51 = .ok (.lstore 5, 2) := by decide +kernel
theorem dX7_multiply_53 : decode cX7_multiply 53 = .ok (.aload_n 0, 1) := by decide +kernel
theorem dX7_multiply_54 : decode cX7_multiply 54 = .ok (.getfield 13, 3) := by decide +kernel
theorem dX7_multiply_57 : decode cX7_multiply 57 = .ok (.iload_n 2, 1) := by decide +kernel
theorem dX7_multiply_58 : decode cX7_multiply 58 = .ok (.laload, 1) := by decide +kernel
theorem dX7_multiply_59 : decode cX7_multiply 59 = .ok (.lstore 7, 2) := by decide +kernel
theorem dX7_multiply_61 : decode cX7_multiply 61 = .ok (.aload_n 0, 1) := by decide +kernel
theorem dX7_multiply_62 : decode cX7_multiply 62 = .ok (.iload_n 3, 1) := by decide +kernel
theorem dX7_multiply_63 : decode cX7_multiply 63 = .ok (.iload 4, 2) := by decide +kernel
theorem dX7_multiply_65 : decode cX7_multiply 65 = .ok (.invokevirtual 52, 3) := by decide +kernel
theorem dX7_multiply_68 : decode cX7_multiply 68 = .ok (.aload_n 0, 1) := by decide +kernel
theorem dX7_multiply_69 : decode cX7_multiply 69 = .ok (.getfield 27, 3) := by decide +kernel
theorem dX7_multiply_72 : decode cX7_multiply 72 = .ok (.lload 5, 2) := by decide +kernel
theorem dX7_multiply_74 : decode cX7_multiply 74 = .ok (.lload 7, 2) := by decide +kernel
theorem dX7_multiply_76 : decode cX7_multiply 76 = .ok (.aload_n 0, 1) := by decide +kernel
theorem dX7_multiply_77 : decode cX7_multiply 77 = .ok (.getfield 13, 3) := by decide +kernel
theorem dX7_multiply_80 : decode cX7_multiply 80 = .ok (.iload_n 3, 1) := by decide +kernel
theorem dX7_multiply_81 : decode cX7_multiply 81 = .ok (.laload, 1) := by decide +kernel
theorem dX7_multiply_82 : decode cX7_multiply 82 = .ok (.invokevirtual 138, 3) := by decide +kernel
theorem dX7_multiply_85 : decode cX7_multiply 85 = .ok (.ireturn, 1) := by decide +kernel
theorem dX7_add_0 : decode cX7_add 0 = .ok (.iload_n 1, 1) := by decide +kernel
theorem dX7_add_1 : decode cX7_add 1 = .ok (.invokestatic 31, 3) := by decide +kernel
theorem dX7_add_4 : decode cX7_add 4 = .ok (.iload_n 2, 1) := by decide +kernel
theorem dX7_add_5 : decode cX7_add 5 = .ok (.invokestatic 31, 3) := by decide +kernel
theorem dX7_add_8 : decode cX7_add 8 = .ok (.iload_n 3, 1) := by decide +kernel
theorem dX7_add_9 : decode cX7_add 9 = .ok (.invokestatic 31, 3) := by decide +kernel
theorem dX7_add_12 : decode cX7_add 12 = .ok (.aload_n 0, 1) := by decide +kernel
theorem dX7_add_13 : decode cX7_add 13 = .ok (.getfield 9, 3) := by decide +kernel
theorem dX7_add_16 : decode cX7_add 16 = .ok (.iload_n 1, 1) := by decide +kernel
theorem dX7_add_17 : decode cX7_add 17 = .ok (.iaload, 1) := by decide +kernel
theorem dX7_add_18 : decode cX7_add 18 = .ok (.invokestatic 142, 3) := by decide +kernel
theorem dX7_add_21 : decode cX7_add 21 = .ok (.aload_n 0, 1) := by decide +kernel
theorem dX7_add_22 : decode cX7_add 22 = .ok (.getfield 9, 3) := by decide +kernel
theorem dX7_add_25 : decode cX7_add 25 = .ok (.iload_n 2, 1) := by decide +kernel
theorem dX7_add_26 : decode cX7_add 26 = .ok (.iaload, 1) := by decide +kernel
theorem dX7_add_27 : decode cX7_add 27 = .ok (.invokestatic 142, 3) := by decide +kernel
theorem dX7_add_30 : decode cX7_add 30 = .ok (.aload_n 0, 1) := by decide +kernel
theorem dX7_add_31 : decode cX7_add 31 = .ok (.getfield 9, 3) := by decide +kernel
theorem dX7_add_34 : decode cX7_add 34 = .ok (.iload_n 1, 1) := by decide +kernel
theorem dX7_add_35 : decode cX7_add 35 = .ok (.iaload, 1) := by decide +kernel
theorem dX7_add_36 : decode cX7_add 36 = .ok (.aload_n 0, 1) := by decide +kernel
theorem dX7_add_37 : decode cX7_add 37 = .ok (.getfield 9, 3) := by decide +kernel
theorem dX7_add_40 : decode cX7_add 40 = .ok (.iload_n 2, 1) := by decide +kernel
theorem dX7_add_41 : decode cX7_add 41 = .ok (.iaload, 1) := by decide +kernel
theorem dX7_add_42 : decode cX7_add 42 = .ok (.invokestatic 145, 3) := by decide +kernel
theorem dX7_add_45 : decode cX7_add 45 = .ok (.istore 4, 2) := by decide +kernel
theorem dX7_add_47 : decode cX7_add 47 = .ok (.iload 4, 2) := by decide +kernel
theorem dX7_add_49 : decode cX7_add 49 = .ok (.iconst (-1), 1) := by decide +kernel
theorem dX7_add_50 : decode cX7_add 50 = .ok (.if_icmp .ne 13, 3) := by decide +kernel
theorem dX7_add_53 : decode cX7_add 53 = .ok (.new 77, 3) := by decide +kernel
theorem dX7_add_56 : decode cX7_add 56 = .ok (.dup, 1) := by decide +kernel
theorem dX7_add_57 : decode cX7_add 57 = .ok (.ldc 148, 2) := by decide +kernel
theorem dX7_add_59 : decode cX7_add 59 = .ok (.invokespecial 81, 3) := by decide +kernel
theorem dX7_add_62 : decode cX7_add 62 = .ok (.athrow, 1) := by decide +kernel
theorem dX7_add_63 : decode cX7_add 63 = .ok (.aload_n 0, 1) := by decide +kernel
theorem dX7_add_64 : decode cX7_add 64 = .ok (.getfield 13, 3) := by decide +kernel
theorem dX7_add_67 : decode cX7_add 67 = .ok (.iload_n 1, 1) := by decide +kernel
theorem dX7_add_68 : decode cX7_add 68 = .ok (.laload, 1) := by decide +kernel
theorem dX7_add_69 : decode cX7_add 69 = .ok (.lstore 5, 2) := by decide +kernel
theorem dX7_add_71 : decode cX7_add 71 = .ok (.aload_n 0, 1) := by decide +kernel
theorem dX7_add_72 : decode cX7_add 72 = .ok (.getfield 13, 3) := by decide +kernel
theorem dX7_add_75 : decode cX7_add 75 = .ok (.iload_n 2, 1) := by decide +kernel
theorem dX7_add_76 : decode cX7_add 76 = .ok (.laload, 1) := by decide +kernel
theorem dX7_add_77 : decode cX7_add 77 = .ok (.lstore 7, 2) := by decide +kernel
theorem dX7_add_79 : decode cX7_add 79 = .ok (.aload_n 0, 1) := by decide +kernel
theorem dX7_add_80 : decode cX7_add 80 = .ok (.iload_n 3, 1) := by decide +kernel
theorem dX7_add_81 : decode cX7_add 81 = .ok (.iload 4, 2) := by decide +kernel
theorem dX7_add_83 : decode cX7_add 83 = .ok (.invokevirtual 52, 3) := by decide +kernel
theorem dX7_add_86 : decode cX7_add 86 = .ok (.aload_n 0, 1) := by decide +kernel
theorem dX7_add_87 : decode cX7_add 87 = .ok (.getfield 13, 3) := by decide +kernel
theorem dX7_add_90 : decode cX7_add 90 = .ok (.iload_n 3, 1) := by decide +kernel
theorem dX7_add_91 : decode cX7_add 91 = .ok (.laload, 1) := by decide +kernel
theorem dX7_add_92 : decode cX7_add 92 = .ok (.lload 5, 2) := by decide +kernel
theorem dX7_add_94 : decode cX7_add 94 = .ok (.lload 7, 2) := by decide +kernel
theorem dX7_add_96 : decode cX7_add 96 = .ok (.invokestatic 150, 3) := by decide +kernel
theorem dX7_add_99 : decode cX7_add 99 = .ok (.ireturn, 1) := by decide +kernel
theorem dX7_find_0 : decode cX7_find 0 = .ok (.iload_n 2, 1) := by decide +kernel
theorem dX7_find_1 : decode cX7_find 1 = .ok (.ifCond .eq 7, 3) := by decide +kernel
theorem dX7_find_4 : decode cX7_find 4 = .ok (.iconst 1, 1) := by decide +kernel
theorem dX7_find_5 : decode cX7_find 5 = .ok (.goto 4, 3) := by decide +kernel
theorem dX7_find_8 : decode cX7_find 8 = .ok (.iconst 0, 1) := by decide +kernel
theorem dX7_find_9 : decode cX7_find 9 = .ok (.istore_n 3, 1) := by decide +kernel
theorem dX7_find_10 : decode cX7_find 10 = .ok (.ldc 153, 2) := by decide +kernel
theorem dX7_find_12 : decode cX7_find 12 = .ok (.iload_n 3, 1) := by decide +kernel
theorem dX7_find_13 : decode cX7_find 13 = .ok (.invokestatic 154, 3) := by decide +kernel
theorem dX7_find_16 : decode cX7_find 16 = .ok (.iload_n 1, 1) := by decide +kernel
theorem dX7_find_17 : decode cX7_find 17 = .ok (.if_icmp .ge 13, 3) := by decide +kernel
theorem dX7_find_20 : decode cX7_find 20 = .ok (.new 77, 3) := by decide +kernel
theorem dX7_find_23 : decode cX7_find 23 = .ok (.dup, 1) := by decide +kernel
theorem dX7_find_24 : decode cX7_find 24 = .ok (.ldc 157, 2) := by decide +kernel
theorem dX7_find_26 : decode cX7_find 26 = .ok (.invokespecial 81, 3) := by decide +kernel
theorem dX7_find_29 : decode cX7_find 29 = .ok (.athrow, 1) := by decide +kernel
theorem dX7_find_30 : decode cX7_find 30 = .ok (.iconst (-1), 1) := by decide +kernel
theorem dX7_find_31 : decode cX7_find 31 = .ok (.istore 4, 2) := by decide +kernel
theorem dX7_find_33 : decode cX7_find 33 = .ok (.ldc 159, 2) := by decide +kernel
theorem dX7_find_35 : decode cX7_find 35 = .ok (.istore 5, 2) := by decide +kernel
theorem dX7_find_37 : decode cX7_find 37 = .ok (.iload 5, 2) := by decide +kernel
theorem dX7_find_39 : decode cX7_find 39 = .ok (.ifCond .le 32, 3) := by decide +kernel
theorem dX7_find_42 : decode cX7_find 42 = .ok (.iload 4, 2) := by decide +kernel
theorem dX7_find_44 : decode cX7_find 44 = .ok (.iload 5, 2) := by decide +kernel
theorem dX7_find_46 : decode cX7_find 46 = .ok (.iadd, 1) := by decide +kernel
theorem dX7_find_47 : decode cX7_find 47 = .ok (.iload_n 3, 1) := by decide +kernel
theorem dX7_find_48 : decode cX7_find 48 = .ok (.invokestatic 154, 3) := by decide +kernel
theorem dX7_find_51 : decode cX7_find 51 = .ok (.iload_n 1, 1) := by decide +kernel
theorem dX7_find_52 : decode cX7_find 52 = .ok (.if_icmp .ge 10, 3) := by decide +kernel
theorem dX7_find_55 : decode cX7_find 55 = .ok (.iload 4, 2) := by decide +kernel
theorem dX7_find_57 : decode cX7_find 57 = .ok (.iload 5, 2) := by decide +kernel
theorem dX7_find_59 : decode cX7_find 59 = .ok (.iadd, 1) := by decide +kernel
theorem dX7_find_60 : decode cX7_find 60 = .ok (.istore 4, 2) := by decide +kernel
theorem dX7_find_62 : decode cX7_find 62 = .ok (.iload 5, 2) := by decide +kernel
theorem dX7_find_64 : decode cX7_find 64 = .ok (.iconst 2, 1) := by decide +kernel
theorem dX7_find_65 : decode cX7_find 65 = .ok (.idiv, 1) := by decide +kernel
theorem dX7_find_66 : decode cX7_find 66 = .ok (.istore 5, 2) := by decide +kernel
theorem dX7_find_68 : decode cX7_find 68 = .ok (.goto (-31), 3) := by decide +kernel
theorem dX7_find_71 : decode cX7_find 71 = .ok (.iload 4, 2) := by decide +kernel
theorem dX7_find_73 : decode cX7_find 73 = .ok (.iconst 1, 1) := by decide +kernel
theorem dX7_find_74 : decode cX7_find 74 = .ok (.iadd, 1) := by decide +kernel
theorem dX7_find_75 : decode cX7_find 75 = .ok (.ireturn, 1) := by decide +kernel
theorem dX7_sum_0 : decode cX7_sum 0 = .ok (.iload_n 1, 1) := by decide +kernel
theorem dX7_sum_1 : decode cX7_sum 1 = .ok (.iload_n 2, 1) := by decide +kernel
theorem dX7_sum_2 : decode cX7_sum 2 = .ok (.invokestatic 160, 3) := by decide +kernel
theorem dX7_sum_5 : decode cX7_sum 5 = .ok (.iconst 0, 1) := by decide +kernel
theorem dX7_sum_6 : decode cX7_sum 6 = .ok (.istore_n 3, 1) := by decide +kernel
theorem dX7_sum_7 : decode cX7_sum 7 = .ok (.iconst 0, 1) := by decide +kernel
theorem dX7_sum_8 : decode cX7_sum 8 = .ok (.istore 4, 2) := by decide +kernel
theorem dX7_sum_10 : decode cX7_sum 10 = .ok (.iload 4, 2) := by decide +kernel
theorem dX7_sum_12 : decode cX7_sum 12 = .ok (.iload_n 2, 1) := by decide +kernel
theorem dX7_sum_13 : decode cX7_sum 13 = .ok (.if_icmp .ge 20, 3) := by decide +kernel
theorem dX7_sum_16 : decode cX7_sum 16 = .ok (.iload_n 3, 1) := by decide +kernel
theorem dX7_sum_17 : decode cX7_sum 17 = .ok (.iload_n 1, 1) := by decide +kernel
theorem dX7_sum_18 : decode cX7_sum 18 = .ok (.iload 4, 2) := by decide +kernel
theorem dX7_sum_20 : decode cX7_sum 20 = .ok (.iadd, 1) := by decide +kernel
theorem dX7_sum_21 : decode cX7_sum 21 = .ok (.iconst 0, 1) := by decide +kernel
theorem dX7_sum_22 : decode cX7_sum 22 = .ok (.invokestatic 154, 3) := by decide +kernel
theorem dX7_sum_25 : decode cX7_sum 25 = .ok (.iadd, 1) := by decide +kernel
theorem dX7_sum_26 : decode cX7_sum 26 = .ok (.istore_n 3, 1) := by decide +kernel
theorem dX7_sum_27 : decode cX7_sum 27 = .ok (.iinc 4 1, 3) := by decide +kernel
theorem dX7_sum_30 : decode cX7_sum 30 = .ok (.goto (-20), 3) := by decide +kernel
theorem dX7_sum_33 : decode cX7_sum 33 = .ok (.iload_n 3, 1) := by decide +kernel
theorem dX7_sum_34 : decode cX7_sum 34 = .ok (.ireturn, 1) := by decide +kernel
theorem dX7_exact_0 : decode cX7_exact 0 = .ok (.iload_n 1, 1) := by decide +kernel
theorem dX7_exact_1 : decode cX7_exact 1 = .ok (.iload_n 2, 1) := by decide +kernel
theorem dX7_exact_2 : decode cX7_exact 2 = .ok (.invokestatic 160, 3) := by decide +kernel
theorem dX7_exact_5 : decode cX7_exact 5 = .ok (.iconst 0, 1) := by decide +kernel
theorem dX7_exact_6 : decode cX7_exact 6 = .ok (.istore_n 3, 1) := by decide +kernel
theorem dX7_exact_7 : decode cX7_exact 7 = .ok (.iconst 0, 1) := by decide +kernel
theorem dX7_exact_8 : decode cX7_exact 8 = .ok (.istore 4, 2) := by decide +kernel
theorem dX7_exact_10 : decode cX7_exact 10 = .ok (.iload 4, 2) := by decide +kernel
theorem dX7_exact_12 : decode cX7_exact 12 = .ok (.iload_n 2, 1) := by decide +kernel
theorem dX7_exact_13 : decode cX7_exact 13 = .ok (.if_icmp .ge 29, 3) := by decide +kernel
theorem dX7_exact_16 : decode cX7_exact 16 = .ok (.iload_n 1, 1) := by decide +kernel
theorem dX7_exact_17 : decode cX7_exact 17 = .ok (.iload 4, 2) := by decide +kernel
theorem dX7_exact_19 : decode cX7_exact 19 = .ok (.iadd, 1) := by decide +kernel
theorem dX7_exact_20 : decode cX7_exact 20 = .ok (.iconst 1, 1) := by decide +kernel
theorem dX7_exact_21 : decode cX7_exact 21 = .ok (.invokestatic 48, 3) := by decide +kernel
theorem dX7_exact_24 : decode cX7_exact 24 = .ok (.invokestatic 163, 3) := by decide +kernel
theorem dX7_exact_27 : decode cX7_exact 27 = .ok (.invokestatic 74, 3) := by decide +kernel
theorem dX7_exact_30 : decode cX7_exact 30 = .ok (.ifCond .eq 6, 3) := by decide +kernel
theorem dX7_exact_33 : decode cX7_exact 33 = .ok (.iinc 3 1, 3) := by decide +kernel
theorem dX7_exact_36 : decode cX7_exact 36 = .ok (.iinc 4 1, 3) := by decide +kernel
theorem dX7_exact_39 : decode cX7_exact 39 = .ok (.goto (-29), 3) := by decide +kernel
theorem dX7_exact_42 : decode cX7_exact 42 = .ok (.iload_n 3, 1) := by decide +kernel
theorem dX7_exact_43 : decode cX7_exact 43 = .ok (.ireturn, 1) := by decide +kernel
theorem dX7_lay_0 : decode cX7_lay 0 = .ok (.iload_n 1, 1) := by decide +kernel
theorem dX7_lay_1 : decode cX7_lay 1 = .ok (.invokestatic 31, 3) := by decide +kernel
theorem dX7_lay_4 : decode cX7_lay 4 = .ok (.aload_n 0, 1) := by decide +kernel
theorem dX7_lay_5 : decode cX7_lay 5 = .ok (.getfield 9, 3) := by decide +kernel
theorem dX7_lay_8 : decode cX7_lay 8 = .ok (.iload_n 1, 1) := by decide +kernel
theorem dX7_lay_9 : decode cX7_lay 9 = .ok (.iaload, 1) := by decide +kernel
theorem dX7_lay_10 : decode cX7_lay 10 = .ok (.invokestatic 142, 3) := by decide +kernel
theorem dX7_lay_13 : decode cX7_lay 13 = .ok (.aload_n 0, 1) := by decide +kernel
theorem dX7_lay_14 : decode cX7_lay 14 = .ok (.getfield 20, 3) := by decide +kernel
theorem dX7_lay_17 : decode cX7_lay 17 = .ok (.invokevirtual 167, 3) := by decide +kernel
theorem dX7_lay_20 : decode cX7_lay 20 = .ok (.ifCond .eq 13, 3) := by decide +kernel
theorem dX7_lay_23 : decode cX7_lay 23 = .ok (.new 171, 3) := by decide +kernel
theorem dX7_lay_26 : decode cX7_lay 26 = .ok (.dup, 1) := by decide +kernel
theorem dX7_lay_27 : decode cX7_lay 27 = .ok (.ldc 173, 2) := by decide +kernel
theorem dX7_lay_29 : decode cX7_lay 29 = .ok (.invokespecial 175, 3) := by decide +kernel
theorem dX7_lay_32 : decode cX7_lay 32 = .ok (.athrow, 1) := by decide +kernel
theorem dX7_lay_33 : decode cX7_lay 33 = .ok (.aload_n 0, 1) := by decide +kernel
theorem dX7_lay_34 : decode cX7_lay 34 = .ok (.getfield 20, 3) := by decide +kernel
theorem dX7_lay_37 : decode cX7_lay 37 = .ok (.aload_n 0, 1) := by decide +kernel
theorem dX7_lay_38 : decode cX7_lay 38 = .ok (.getfield 9, 3) := by decide +kernel
theorem dX7_lay_41 : decode cX7_lay 41 = .ok (.iload_n 1, 1) := by decide +kernel
theorem dX7_lay_42 : decode cX7_lay 42 = .ok (.iaload, 1) := by decide +kernel
theorem dX7_lay_43 : decode cX7_lay 43 = .ok (.aload_n 0, 1) := by decide +kernel
theorem dX7_lay_44 : decode cX7_lay 44 = .ok (.getfield 13, 3) := by decide +kernel
theorem dX7_lay_47 : decode cX7_lay 47 = .ok (.iload_n 1, 1) := by decide +kernel
theorem dX7_lay_48 : decode cX7_lay 48 = .ok (.laload, 1) := by decide +kernel
theorem dX7_lay_49 : decode cX7_lay 49 = .ok (.invokestatic 56, 3) := by decide +kernel
theorem dX7_lay_52 : decode cX7_lay 52 = .ok (.invokevirtual 176, 3) := by decide +kernel
theorem dX7_lay_55 : decode cX7_lay 55 = .ok (.aload_n 0, 1) := by decide +kernel
theorem dX7_lay_56 : decode cX7_lay 56 = .ok (.getfield 20, 3) := by decide +kernel
theorem dX7_lay_59 : decode cX7_lay 59 = .ok (.invokevirtual 179, 3) := by decide +kernel
theorem dX7_lay_62 : decode cX7_lay 62 = .ok (.ireturn, 1) := by decide +kernel
theorem dX7_lift_0 : decode cX7_lift 0 = .ok (.iload_n 1, 1) := by decide +kernel
theorem dX7_lift_1 : decode cX7_lift 1 = .ok (.invokestatic 31, 3) := by decide +kernel
theorem dX7_lift_4 : decode cX7_lift 4 = .ok (.aload_n 0, 1) := by decide +kernel
theorem dX7_lift_5 : decode cX7_lift 5 = .ok (.invokevirtual 183, 3) := by decide +kernel
theorem dX7_lift_8 : decode cX7_lift 8 = .ok (.aload_n 0, 1) := by decide +kernel
theorem dX7_lift_9 : decode cX7_lift 9 = .ok (.iload_n 1, 1) := by decide +kernel
theorem dX7_lift_10 : decode cX7_lift 10 = .ok (.aload_n 0, 1) := by decide +kernel
theorem dX7_lift_11 : decode cX7_lift 11 = .ok (.getfield 20, 3) := by decide +kernel
theorem dX7_lift_14 : decode cX7_lift 14 = .ok (.invokevirtual 186, 3) := by decide +kernel
theorem dX7_lift_17 : decode cX7_lift 17 = .ok (.invokevirtual 52, 3) := by decide +kernel
theorem dX7_lift_20 : decode cX7_lift 20 = .ok (.aload_n 0, 1) := by decide +kernel
theorem dX7_lift_21 : decode cX7_lift 21 = .ok (.getfield 20, 3) := by decide +kernel
theorem dX7_lift_24 : decode cX7_lift 24 = .ok (.invokevirtual 179, 3) := by decide +kernel
theorem dX7_lift_27 : decode cX7_lift 27 = .ok (.ireturn, 1) := by decide +kernel
theorem dX7_under_0 : decode cX7_under 0 = .ok (.aload_n 0, 1) := by decide +kernel
theorem dX7_under_1 : decode cX7_under 1 = .ok (.getfield 20, 3) := by decide +kernel
theorem dX7_under_4 : decode cX7_under 4 = .ok (.iload_n 1, 1) := by decide +kernel
theorem dX7_under_5 : decode cX7_under 5 = .ok (.invokevirtual 189, 3) := by decide +kernel
theorem dX7_under_8 : decode cX7_under 8 = .ok (.ireturn, 1) := by decide +kernel
theorem dX7_melt_0 : decode cX7_melt 0 = .ok (.iload_n 1, 1) := by decide +kernel
theorem dX7_melt_1 : decode cX7_melt 1 = .ok (.invokestatic 31, 3) := by decide +kernel
theorem dX7_melt_4 : decode cX7_melt 4 = .ok (.aload_n 0, 1) := by decide +kernel
theorem dX7_melt_5 : decode cX7_melt 5 = .ok (.invokevirtual 183, 3) := by decide +kernel
theorem dX7_melt_8 : decode cX7_melt 8 = .ok (.aload_n 0, 1) := by decide +kernel
theorem dX7_melt_9 : decode cX7_melt 9 = .ok (.getfield 20, 3) := by decide +kernel
theorem dX7_melt_12 : decode cX7_melt 12 = .ok (.invokevirtual 192, 3) := by decide +kernel
theorem dX7_melt_15 : decode cX7_melt 15 = .ok (.iconst 0, 1) := by decide +kernel
theorem dX7_melt_16 : decode cX7_melt 16 = .ok (.invokestatic 196, 3) := by decide +kernel
theorem dX7_melt_19 : decode cX7_melt 19 = .ok (.istore_n 2, 1) := by decide +kernel
theorem dX7_melt_20 : decode cX7_melt 20 = .ok (.iload_n 2, 1) := by decide +kernel
theorem dX7_melt_21 : decode cX7_melt 21 = .ok (.iconst (-1), 1) := by decide +kernel
theorem dX7_melt_22 : decode cX7_melt 22 = .ok (.if_icmp .ne 13, 3) := by decide +kernel
theorem dX7_melt_25 : decode cX7_melt 25 = .ok (.new 77, 3) := by decide +kernel
theorem dX7_melt_28 : decode cX7_melt 28 = .ok (.dup, 1) := by decide +kernel
theorem dX7_melt_29 : decode cX7_melt 29 = .ok (.ldc 200, 2) := by decide +kernel
theorem dX7_melt_31 : decode cX7_melt 31 = .ok (.invokespecial 81, 3) := by decide +kernel
theorem dX7_melt_34 : decode cX7_melt 34 = .ok (.athrow, 1) := by decide +kernel
theorem dX7_melt_35 : decode cX7_melt 35 = .ok (.aload_n 0, 1) := by decide +kernel
theorem dX7_melt_36 : decode cX7_melt 36 = .ok (.getfield 20, 3) := by decide +kernel
theorem dX7_melt_39 : decode cX7_melt 39 = .ok (.invokevirtual 179, 3) := by decide +kernel
theorem dX7_melt_42 : decode cX7_melt 42 = .ok (.istore_n 3, 1) := by decide +kernel
theorem dX7_melt_43 : decode cX7_melt 43 = .ok (.aload_n 0, 1) := by decide +kernel
theorem dX7_melt_44 : decode cX7_melt 44 = .ok (.getfield 20, 3) := by decide +kernel
theorem dX7_melt_47 : decode cX7_melt 47 = .ok (.invokevirtual 202, 3) := by decide +kernel
theorem dX7_melt_50 : decode cX7_melt 50 = .ok (.aload_n 0, 1) := by decide +kernel
theorem dX7_melt_51 : decode cX7_melt 51 = .ok (.iload_n 1, 1) := by decide +kernel
theorem dX7_melt_52 : decode cX7_melt 52 = .ok (.iload_n 2, 1) := by decide +kernel
theorem dX7_melt_53 : decode cX7_melt 53 = .ok (.invokevirtual 52, 3) := by decide +kernel
theorem dX7_melt_56 : decode cX7_melt 56 = .ok (.iload_n 3, 1) := by decide +kernel
theorem dX7_melt_57 : decode cX7_melt 57 = .ok (.aload_n 0, 1) := by decide +kernel
theorem dX7_melt_58 : decode cX7_melt 58 = .ok (.getfield 13, 3) := by decide +kernel
theorem dX7_melt_61 : decode cX7_melt 61 = .ok (.iload_n 1, 1) := by decide +kernel
theorem dX7_melt_62 : decode cX7_melt 62 = .ok (.laload, 1) := by decide +kernel
theorem dX7_melt_63 : decode cX7_melt 63 = .ok (.invokestatic 56, 3) := by decide +kernel
theorem dX7_melt_66 : decode cX7_melt 66 = .ok (.isub, 1) := by decide +kernel
theorem dX7_melt_67 : decode cX7_melt 67 = .ok (.ireturn, 1) := by decide +kernel
theorem dX7_upperShare_0 : decode cX7_upperShare 0 = .ok (.aload_n 0, 1) := by decide +kernel
theorem dX7_upperShare_1 : decode cX7_upperShare 1 = .ok (.getfield 20, 3) := by decide +kernel
theorem dX7_upperShare_4 : decode cX7_upperShare 4 = .ok (.invokevirtual 179, 3) := by decide +kernel
theorem dX7_upperShare_7 : decode cX7_upperShare 7 = .ok (.istore_n 1, 1) := by decide +kernel
theorem dX7_upperShare_8 : decode cX7_upperShare 8 = .ok (.iload_n 1, 1) := by decide +kernel
theorem dX7_upperShare_9 : decode cX7_upperShare 9 = .ok (.ifCond .ne 7, 3) := by decide +kernel
theorem dX7_upperShare_12 : decode cX7_upperShare 12 = .ok (.fconst 0, 1) := by decide +kernel
theorem dX7_upperShare_13 : decode cX7_upperShare 13 = .ok (.goto 14, 3) := by decide +kernel
theorem dX7_upperShare_16 : decode cX7_upperShare 16 = .ok (.aload_n 0, 1) := by decide +kernel
theorem dX7_upperShare_17 : decode cX7_upperShare 17 = .ok (.getfield 20, 3) := by decide +kernel
theorem dX7_upperShare_20 : decode cX7_upperShare 20 = .ok (.invokevirtual 205, 3) := by decide +kernel
theorem dX7_upperShare_23 : decode cX7_upperShare 23 = .ok (.i2f, 1) := by decide +kernel
theorem dX7_upperShare_24 : decode cX7_upperShare 24 = .ok (.iload_n 1, 1) := by decide +kernel
theorem dX7_upperShare_25 : decode cX7_upperShare 25 = .ok (.i2f, 1) := by decide +kernel
theorem dX7_upperShare_26 : decode cX7_upperShare 26 = .ok (.fdiv, 1) := by decide +kernel
theorem dX7_upperShare_27 : decode cX7_upperShare 27 = .ok (.freturn, 1) := by decide +kernel
theorem dX7_checksum_0 : decode cX7_checksum 0 = .ok (.ldc2_w 208, 3) := by decide +kernel
theorem dX7_checksum_3 : decode cX7_checksum 3 = .ok (.lstore_n 1, 1) := by decide +kernel
theorem dX7_checksum_4 : decode cX7_checksum 4 = .ok (.iconst 0, 1) := by decide +kernel
theorem dX7_checksum_5 : decode cX7_checksum 5 = .ok (.istore_n 3, 1) := by decide +kernel
theorem dX7_checksum_6 : decode cX7_checksum 6 = .ok (.iload_n 3, 1) := by decide +kernel
theorem dX7_checksum_7 : decode cX7_checksum 7 = .ok (.bipush 8, 2) := by decide +kernel
theorem dX7_checksum_9 : decode cX7_checksum 9 = .ok (.if_icmp .ge 60, 3) := by decide +kernel
theorem dX7_checksum_12 : decode cX7_checksum 12 = .ok (.ldc2_w 210, 3) := by decide +kernel
theorem dX7_checksum_15 : decode cX7_checksum 15 = .ok (.lload_n 1, 1) := by decide +kernel
theorem dX7_checksum_16 : decode cX7_checksum 16 = .ok (.lmul, 1) := by decide +kernel
theorem dX7_checksum_17 : decode cX7_checksum 17 = .ok (.aload_n 0, 1) := by decide +kernel
theorem dX7_checksum_18 : decode cX7_checksum 18 = .ok (.getfield 9, 3) := by decide +kernel
theorem dX7_checksum_21 : decode cX7_checksum 21 = .ok (.iload_n 3, 1) := by decide +kernel
theorem dX7_checksum_22 : decode cX7_checksum 22 = .ok (.iaload, 1) := by decide +kernel
theorem dX7_checksum_23 : decode cX7_checksum 23 = .ok (.invokestatic 62, 3) := by decide +kernel
theorem dX7_checksum_26 : decode cX7_checksum 26 = .ok (.i2l, 1) := by decide +kernel
theorem dX7_checksum_27 : decode cX7_checksum 27 = .ok (.ladd, 1) := by decide +kernel
theorem dX7_checksum_28 : decode cX7_checksum 28 = .ok (.lstore_n 1, 1) := by decide +kernel
theorem dX7_checksum_29 : decode cX7_checksum 29 = .ok (.ldc2_w 210, 3) := by decide +kernel
theorem dX7_checksum_32 : decode cX7_checksum 32 = .ok (.lload_n 1, 1) := by decide +kernel
theorem dX7_checksum_33 : decode cX7_checksum 33 = .ok (.lmul, 1) := by decide +kernel
theorem dX7_checksum_34 : decode cX7_checksum 34 = .ok (.aload_n 0, 1) := by decide +kernel
theorem dX7_checksum_35 : decode cX7_checksum 35 = .ok (.getfield 9, 3) := by decide +kernel
theorem dX7_checksum_38 : decode cX7_checksum 38 = .ok (.iload_n 3, 1) := by decide +kernel
theorem dX7_checksum_39 : decode cX7_checksum 39 = .ok (.iaload, 1) := by decide +kernel
theorem dX7_checksum_40 : decode cX7_checksum 40 = .ok (.invokestatic 66, 3) := by decide +kernel
theorem dX7_checksum_43 : decode cX7_checksum 43 = .ok (.i2l, 1) := by decide +kernel
theorem dX7_checksum_44 : decode cX7_checksum 44 = .ok (.ladd, 1) := by decide +kernel
theorem dX7_checksum_45 : decode cX7_checksum 45 = .ok (.lstore_n 1, 1) := by decide +kernel
theorem dX7_checksum_46 : decode cX7_checksum 46 = .ok (.ldc2_w 210, 3) := by decide +kernel
theorem dX7_checksum_49 : decode cX7_checksum 49 = .ok (.lload_n 1, 1) := by decide +kernel
theorem dX7_checksum_50 : decode cX7_checksum 50 = .ok (.lmul, 1) := by decide +kernel
theorem dX7_checksum_51 : decode cX7_checksum 51 = .ok (.aload_n 0, 1) := by decide +kernel
theorem dX7_checksum_52 : decode cX7_checksum 52 = .ok (.getfield 13, 3) := by decide +kernel
theorem dX7_checksum_55 : decode cX7_checksum 55 = .ok (.iload_n 3, 1) := by decide +kernel
theorem dX7_checksum_56 : decode cX7_checksum 56 = .ok (.laload, 1) := by decide +kernel
theorem dX7_checksum_57 : decode cX7_checksum 57 = .ok (.invokestatic 56, 3) := by decide +kernel
theorem dX7_checksum_60 : decode cX7_checksum 60 = .ok (.i2l, 1) := by decide +kernel
theorem dX7_checksum_61 : decode cX7_checksum 61 = .ok (.ladd, 1) := by decide +kernel
theorem dX7_checksum_62 : decode cX7_checksum 62 = .ok (.lstore_n 1, 1) := by decide +kernel
theorem dX7_checksum_63 : decode cX7_checksum 63 = .ok (.iinc 3 1, 3) := by decide +kernel
theorem dX7_checksum_66 : decode cX7_checksum 66 = .ok (.goto (-60), 3) := by decide +kernel
theorem dX7_checksum_69 : decode cX7_checksum 69 = .ok (.aload_n 0, 1) := by decide +kernel
theorem dX7_checksum_70 : decode cX7_checksum 70 = .ok (.getfield 20, 3) := by decide +kernel
theorem dX7_checksum_73 : decode cX7_checksum 73 = .ok (.lload_n 1, 1) := by decide +kernel
theorem dX7_checksum_74 : decode cX7_checksum 74 = .ok (.invokevirtual 212, 3) := by decide +kernel
theorem dX7_checksum_77 : decode cX7_checksum 77 = .ok (.lreturn, 1) := by decide +kernel
theorem dX7_isSound_0 : decode cX7_isSound 0 = .ok (.iconst 0, 1) := by decide +kernel
theorem dX7_isSound_1 : decode cX7_isSound 1 = .ok (.istore_n 1, 1) := by decide +kernel
theorem dX7_isSound_2 : decode cX7_isSound 2 = .ok (.iload_n 1, 1) := by decide +kernel
theorem dX7_isSound_3 : decode cX7_isSound 3 = .ok (.bipush 8, 2) := by decide +kernel
theorem dX7_isSound_5 : decode cX7_isSound 5 = .ok (.if_icmp .ge 82, 3) := by decide +kernel
theorem dX7_isSound_8 : decode cX7_isSound 8 = .ok (.aload_n 0, 1) := by decide +kernel
theorem dX7_isSound_9 : decode cX7_isSound 9 = .ok (.getfield 27, 3) := by decide +kernel
theorem dX7_isSound_12 : decode cX7_isSound 12 = .ok (.aload_n 0, 1) := by decide +kernel
theorem dX7_isSound_13 : decode cX7_isSound 13 = .ok (.getfield 9, 3) := by decide +kernel
theorem dX7_isSound_16 : decode cX7_isSound 16 = .ok (.iload_n 1, 1) := by decide +kernel
theorem dX7_isSound_17 : decode cX7_isSound 17 = .ok (.iaload, 1) := by decide +kernel
theorem dX7_isSound_18 : decode cX7_isSound 18 = .ok (.aload_n 0, 1) := by decide +kernel
theorem dX7_isSound_19 : decode cX7_isSound 19 = .ok (.getfield 13, 3) := by decide +kernel
theorem dX7_isSound_22 : decode cX7_isSound 22 = .ok (.iload_n 1, 1) := by decide +kernel
theorem dX7_isSound_23 : decode cX7_isSound 23 = .ok (.laload, 1) := by decide +kernel
theorem dX7_isSound_24 : decode cX7_isSound 24 = .ok (.invokevirtual 215, 3) := by decide +kernel
theorem dX7_isSound_27 : decode cX7_isSound 27 = .ok (.ifCond .ne 5, 3) := by decide +kernel
theorem dX7_isSound_30 : decode cX7_isSound 30 = .ok (.iconst 0, 1) := by decide +kernel
theorem dX7_isSound_31 : decode cX7_isSound 31 = .ok (.ireturn, 1) := by decide +kernel
theorem dX7_isSound_32 : decode cX7_isSound 32 = .ok (.iconst 0, 1) := by decide +kernel
theorem dX7_isSound_33 : decode cX7_isSound 33 = .ok (.istore_n 2, 1) := by decide +kernel
theorem dX7_isSound_34 : decode cX7_isSound 34 = .ok (.iload_n 2, 1) := by decide +kernel
theorem dX7_isSound_35 : decode cX7_isSound 35 = .ok (.iload_n 1, 1) := by decide +kernel
theorem dX7_isSound_36 : decode cX7_isSound 36 = .ok (.if_icmp .gt 45, 3) := by decide +kernel
theorem dX7_isSound_39 : decode cX7_isSound 39 = .ok (.aload_n 0, 1) := by decide +kernel
theorem dX7_isSound_40 : decode cX7_isSound 40 = .ok (.getfield 27, 3) := by decide +kernel
theorem dX7_isSound_43 : decode cX7_isSound 43 = .ok (.aload_n 0, 1) := by decide +kernel
theorem dX7_isSound_44 : decode cX7_isSound 44 = .ok (.getfield 9, 3) := by decide +kernel
theorem dX7_isSound_47 : decode cX7_isSound 47 = .ok (.iload_n 1, 1) := by decide +kernel
theorem dX7_isSound_48 : decode cX7_isSound 48 = .ok (.iaload, 1) := by decide +kernel
theorem dX7_isSound_49 : decode cX7_isSound 49 = .ok (.aload_n 0, 1) := by decide +kernel
theorem dX7_isSound_50 : decode cX7_isSound 50 = .ok (.getfield 13, 3) := by decide +kernel
theorem dX7_isSound_53 : decode cX7_isSound 53 = .ok (.iload_n 1, 1) := by decide +kernel
theorem dX7_isSound_54 : decode cX7_isSound 54 = .ok (.laload, 1) := by decide +kernel
theorem dX7_isSound_55 : decode cX7_isSound 55 = .ok (.aload_n 0, 1) := by decide +kernel
theorem dX7_isSound_56 : decode cX7_isSound 56 = .ok (.getfield 9, 3) := by decide +kernel
theorem dX7_isSound_59 : decode cX7_isSound 59 = .ok (.iload_n 2, 1) := by decide +kernel
theorem dX7_isSound_60 : decode cX7_isSound 60 = .ok (.iaload, 1) := by decide +kernel
theorem dX7_isSound_61 : decode cX7_isSound 61 = .ok (.aload_n 0, 1) := by decide +kernel
theorem dX7_isSound_62 : decode cX7_isSound 62 = .ok (.getfield 13, 3) := by decide +kernel
theorem dX7_isSound_65 : decode cX7_isSound 65 = .ok (.iload_n 2, 1) := by decide +kernel
theorem dX7_isSound_66 : decode cX7_isSound 66 = .ok (.laload, 1) := by decide +kernel
theorem dX7_isSound_67 : decode cX7_isSound 67 = .ok (.invokevirtual 218, 3) := by decide +kernel
theorem dX7_isSound_70 : decode cX7_isSound 70 = .ok (.ifCond .ne 5, 3) := by decide +kernel
theorem dX7_isSound_73 : decode cX7_isSound 73 = .ok (.iconst 0, 1) := by decide +kernel
theorem dX7_isSound_74 : decode cX7_isSound 74 = .ok (.ireturn, 1) := by decide +kernel
theorem dX7_isSound_75 : decode cX7_isSound 75 = .ok (.iinc 2 1, 3) := by decide +kernel
theorem dX7_isSound_78 : decode cX7_isSound 78 = .ok (.goto (-44), 3) := by decide +kernel
theorem dX7_isSound_81 : decode cX7_isSound 81 = .ok (.iinc 1 1, 3) := by decide +kernel
theorem dX7_isSound_84 : decode cX7_isSound 84 = .ok (.goto (-82), 3) := by decide +kernel
theorem dX7_isSound_87 : decode cX7_isSound 87 = .ok (.iconst 1, 1) := by decide +kernel
theorem dX7_isSound_88 : decode cX7_isSound 88 = .ok (.ireturn, 1) := by decide +kernel
theorem dX7_needPlace_0 : decode cX7_needPlace 0 = .ok (.iload_n 0, 1) := by decide +kernel
theorem dX7_needPlace_1 : decode cX7_needPlace 1 = .ok (.ifCond .lt 9, 3) := by decide +kernel
theorem dX7_needPlace_4 : decode cX7_needPlace 4 = .ok (.iload_n 0, 1) := by decide +kernel
theorem dX7_needPlace_5 : decode cX7_needPlace 5 = .ok (.bipush 8, 2) := by decide +kernel
theorem dX7_needPlace_7 : decode cX7_needPlace 7 = .ok (.if_icmp .lt 13, 3) := by decide +kernel
theorem dX7_needPlace_10 : decode cX7_needPlace 10 = .ok (.new 222, 3) := by decide +kernel
theorem dX7_needPlace_13 : decode cX7_needPlace 13 = .ok (.dup, 1) := by decide +kernel
theorem dX7_needPlace_14 : decode cX7_needPlace 14 = .ok (.ldc 224, 2) := by decide +kernel
theorem dX7_needPlace_16 : decode cX7_needPlace 16 = .ok (.invokespecial 226, 3) := by decide +kernel
theorem dX7_needPlace_19 : decode cX7_needPlace 19 = .ok (.athrow, 1) := by decide +kernel
theorem dX7_needPlace_20 : decode cX7_needPlace 20 = .ok (.return_, 1) := by decide +kernel
theorem dX7_needAboveZero_0 : decode cX7_needAboveZero 0 = .ok (.iload_n 0, 1) := by decide +kernel
theorem dX7_needAboveZero_1 : decode cX7_needAboveZero 1 = .ok (.invokestatic 227, 3) := by decide +kernel
theorem dX7_needAboveZero_4 : decode cX7_needAboveZero 4 = .ok (.ifCond .ne 13, 3) := by decide +kernel
theorem dX7_needAboveZero_7 : decode cX7_needAboveZero 7 = .ok (.new 41, 3) := by decide +kernel
theorem dX7_needAboveZero_10 : decode cX7_needAboveZero 10 = .ok (.dup, 1) := by decide +kernel
theorem dX7_needAboveZero_11 : decode cX7_needAboveZero 11 = .ok (.ldc 230, 2) := by decide +kernel
theorem dX7_needAboveZero_13 : decode cX7_needAboveZero 13 = .ok (.invokespecial 45, 3) := by decide +kernel
theorem dX7_needAboveZero_16 : decode cX7_needAboveZero 16 = .ok (.athrow, 1) := by decide +kernel
theorem dX7_needAboveZero_17 : decode cX7_needAboveZero 17 = .ok (.return_, 1) := by decide +kernel
theorem dX7_needCounts_0 : decode cX7_needCounts 0 = .ok (.iload_n 1, 1) := by decide +kernel
theorem dX7_needCounts_1 : decode cX7_needCounts 1 = .ok (.ifCond .lt 10, 3) := by decide +kernel
theorem dX7_needCounts_4 : decode cX7_needCounts 4 = .ok (.iload_n 1, 1) := by decide +kernel
theorem dX7_needCounts_5 : decode cX7_needCounts 5 = .ok (.sipush 256, 3) := by decide +kernel
theorem dX7_needCounts_8 : decode cX7_needCounts 8 = .ok (.if_icmp .le 13, 3) := by decide +kernel
theorem dX7_needCounts_11 : decode cX7_needCounts 11 = .ok (.new 41, 3) := by decide +kernel
theorem dX7_needCounts_14 : decode cX7_needCounts 14 = .ok (.dup, 1) := by decide +kernel
theorem dX7_needCounts_15 : decode cX7_needCounts 15 = .ok (.ldc 232, 2) := by decide +kernel
theorem dX7_needCounts_17 : decode cX7_needCounts 17 = .ok (.invokespecial 45, 3) := by decide +kernel
theorem dX7_needCounts_20 : decode cX7_needCounts 20 = .ok (.athrow, 1) := by decide +kernel
theorem dX7_needCounts_21 : decode cX7_needCounts 21 = .ok (.iload_n 1, 1) := by decide +kernel
theorem dX7_needCounts_22 : decode cX7_needCounts 22 = .ok (.ifCond .le 25, 3) := by decide +kernel
theorem dX7_needCounts_25 : decode cX7_needCounts 25 = .ok (.iload_n 0, 1) := by decide +kernel
theorem dX7_needCounts_26 : decode cX7_needCounts 26 = .ok (.ifCond .lt 11, 3) := by decide +kernel
theorem dX7_needCounts_29 : decode cX7_needCounts 29 = .ok (.iload_n 0, 1) := by decide +kernel
theorem dX7_needCounts_30 : decode cX7_needCounts 30 = .ok (.ldc 234, 2) := by decide +kernel
theorem dX7_needCounts_32 : decode cX7_needCounts 32 = .ok (.iload_n 1, 1) := by decide +kernel
theorem dX7_needCounts_33 : decode cX7_needCounts 33 = .ok (.isub, 1) := by decide +kernel
theorem dX7_needCounts_34 : decode cX7_needCounts 34 = .ok (.if_icmp .le 13, 3) := by decide +kernel
theorem dX7_needCounts_37 : decode cX7_needCounts 37 = .ok (.new 41, 3) := by decide +kernel
theorem dX7_needCounts_40 : decode cX7_needCounts 40 = .ok (.dup, 1) := by decide +kernel
theorem dX7_needCounts_41 : decode cX7_needCounts 41 = .ok (.ldc 43, 2) := by decide +kernel
theorem dX7_needCounts_43 : decode cX7_needCounts 43 = .ok (.invokespecial 45, 3) := by decide +kernel
theorem dX7_needCounts_46 : decode cX7_needCounts 46 = .ok (.athrow, 1) := by decide +kernel
theorem dX7_needCounts_47 : decode cX7_needCounts 47 = .ok (.return_, 1) := by decide +kernel
theorem dX7_needCubesInTower_0 : decode cX7_needCubesInTower 0 = .ok (.aload_n 0, 1) := by decide +kernel
theorem dX7_needCubesInTower_1 : decode cX7_needCubesInTower 1 = .ok (.getfield 20, 3) := by decide +kernel
theorem dX7_needCubesInTower_4 : decode cX7_needCubesInTower 4 = .ok (.invokevirtual 235, 3) := by decide +kernel
theorem dX7_needCubesInTower_7 : decode cX7_needCubesInTower 7 = .ok (.ifCond .eq 13, 3) := by decide +kernel
theorem dX7_needCubesInTower_10 : decode cX7_needCubesInTower 10 = .ok (.new 238, 3) := by decide +kernel
theorem dX7_needCubesInTower_13 : decode cX7_needCubesInTower 13 = .ok (.dup, 1) := by decide +kernel
theorem dX7_needCubesInTower_14 : decode cX7_needCubesInTower 14 = .ok (.ldc 240, 2) := by decide +kernel
theorem dX7_needCubesInTower_16 : decode cX7_needCubesInTower 16 = .ok (.invokespecial 242, 3) := by decide +kernel
theorem dX7_needCubesInTower_19 : decode cX7_needCubesInTower 19 = .ok (.athrow, 1) := by decide +kernel
theorem dX7_needCubesInTower_20 : decode cX7_needCubesInTower 20 = .ok (.return_, 1) := by decide +kernel
theorem dX7_write_0 : decode cX7_write 0 = .ok (.aload_n 0, 1) := by decide +kernel
theorem dX7_write_1 : decode cX7_write 1 = .ok (.getfield 9, 3) := by decide +kernel
theorem dX7_write_4 : decode cX7_write 4 = .ok (.iload_n 1, 1) := by decide +kernel
theorem dX7_write_5 : decode cX7_write 5 = .ok (.iload_n 2, 1) := by decide +kernel
theorem dX7_write_6 : decode cX7_write 6 = .ok (.iastore, 1) := by decide +kernel
theorem dX7_write_7 : decode cX7_write 7 = .ok (.aload_n 0, 1) := by decide +kernel
theorem dX7_write_8 : decode cX7_write 8 = .ok (.getfield 13, 3) := by decide +kernel
theorem dX7_write_11 : decode cX7_write 11 = .ok (.iload_n 1, 1) := by decide +kernel
theorem dX7_write_12 : decode cX7_write 12 = .ok (.iload_n 2, 1) := by decide +kernel
theorem dX7_write_13 : decode cX7_write 13 = .ok (.invokestatic 163, 3) := by decide +kernel
theorem dX7_write_16 : decode cX7_write 16 = .ok (.lastore, 1) := by decide +kernel
theorem dX7_write_17 : decode cX7_write 17 = .ok (.return_, 1) := by decide +kernel
theorem dX7_fineOfCount_0 : decode cX7_fineOfCount 0 = .ok (.iload_n 0, 1) := by decide +kernel
theorem dX7_fineOfCount_1 : decode cX7_fineOfCount 1 = .ok (.iload_n 1, 1) := by decide +kernel
theorem dX7_fineOfCount_2 : decode cX7_fineOfCount 2 = .ok (.invokestatic 48, 3) := by decide +kernel
theorem dX7_fineOfCount_5 : decode cX7_fineOfCount 5 = .ok (.invokestatic 163, 3) := by decide +kernel
theorem dX7_fineOfCount_8 : decode cX7_fineOfCount 8 = .ok (.invokestatic 56, 3) := by decide +kernel
theorem dX7_fineOfCount_11 : decode cX7_fineOfCount 11 = .ok (.ireturn, 1) := by decide +kernel
theorem dX7_sortedPlaceOf_0 : decode cX7_sortedPlaceOf 0 = .ok (.iconst 0, 1) := by decide +kernel
theorem dX7_sortedPlaceOf_1 : decode cX7_sortedPlaceOf 1 = .ok (.istore_n 2, 1) := by decide +kernel
theorem dX7_sortedPlaceOf_2 : decode cX7_sortedPlaceOf 2 = .ok (.iconst 0, 1) := by decide +kernel
theorem dX7_sortedPlaceOf_3 : decode cX7_sortedPlaceOf 3 = .ok (.istore_n 3, 1) := by decide +kernel
theorem dX7_sortedPlaceOf_4 : decode cX7_sortedPlaceOf 4 = .ok (.iload_n 3, 1) := by decide +kernel
theorem dX7_sortedPlaceOf_5 : decode cX7_sortedPlaceOf 5 = .ok (.bipush 8, 2) := by decide +kernel
theorem dX7_sortedPlaceOf_7 : decode cX7_sortedPlaceOf 7 = .ok (.if_icmp .ge 65, 3) := by decide +kernel
theorem dX7_sortedPlaceOf_10 : decode cX7_sortedPlaceOf 10 = .ok (.iload_n 3, 1) := by decide +kernel
theorem dX7_sortedPlaceOf_11 : decode cX7_sortedPlaceOf 11 = .ok (.iload_n 1, 1) := by decide +kernel
theorem dX7_sortedPlaceOf_12 : decode cX7_sortedPlaceOf 12 = .ok (.if_icmp .ge 25, 3) := by decide +kernel
theorem dX7_sortedPlaceOf_15 : decode cX7_sortedPlaceOf 15 = .ok (.aload_n 0, 1) := by decide +kernel
theorem dX7_sortedPlaceOf_16 : decode cX7_sortedPlaceOf 16 = .ok (.getfield 13, 3) := by decide +kernel
theorem dX7_sortedPlaceOf_19 : decode cX7_sortedPlaceOf 19 = .ok (.iload_n 1, 1) := by decide +kernel
theorem dX7_sortedPlaceOf_20 : decode cX7_sortedPlaceOf 20 = .ok (.laload, 1) := by decide +kernel
theorem dX7_sortedPlaceOf_21 : decode cX7_sortedPlaceOf 21 = .ok (.aload_n 0, 1) := by decide +kernel
theorem dX7_sortedPlaceOf_22 : decode cX7_sortedPlaceOf 22 = .ok (.getfield 13, 3) := by decide +kernel
theorem dX7_sortedPlaceOf_25 : decode cX7_sortedPlaceOf 25 = .ok (.iload_n 3, 1) := by decide +kernel
theorem dX7_sortedPlaceOf_26 : decode cX7_sortedPlaceOf 26 = .ok (.laload, 1) := by decide +kernel
theorem dX7_sortedPlaceOf_27 : decode cX7_sortedPlaceOf 27 = .ok (.invokestatic 82, 3) := by decide +kernel
theorem dX7_sortedPlaceOf_30 : decode cX7_sortedPlaceOf 30 = .ok (.ifCond .ne 7, 3) := by decide +kernel
theorem dX7_sortedPlaceOf_33 : decode cX7_sortedPlaceOf 33 = .ok (.iconst 1, 1) := by decide +kernel
theorem dX7_sortedPlaceOf_34 : decode cX7_sortedPlaceOf 34 = .ok (.goto 4, 3) := by decide +kernel
theorem dX7_sortedPlaceOf_37 : decode cX7_sortedPlaceOf 37 = .ok (.iconst 0, 1) := by decide +kernel
theorem dX7_sortedPlaceOf_38 : decode cX7_sortedPlaceOf 38 = .ok (.istore 4, 2) := by decide +kernel
theorem dX7_sortedPlaceOf_40 : decode cX7_sortedPlaceOf 40 = .ok (.iload 4, 2) := by decide +kernel
theorem dX7_sortedPlaceOf_42 : decode cX7_sortedPlaceOf 42 = .ok (.ifCond .ne 21, 3) := by decide +kernel
theorem dX7_sortedPlaceOf_45 : decode cX7_sortedPlaceOf 45 = .ok (.aload_n 0, 1) := by decide +kernel
theorem dX7_sortedPlaceOf_46 : decode cX7_sortedPlaceOf 46 = .ok (.getfield 13, 3) := by decide +kernel
theorem dX7_sortedPlaceOf_49 : decode cX7_sortedPlaceOf 49 = .ok (.iload_n 3, 1) := by decide +kernel
theorem dX7_sortedPlaceOf_50 : decode cX7_sortedPlaceOf 50 = .ok (.laload, 1) := by decide +kernel
theorem dX7_sortedPlaceOf_51 : decode cX7_sortedPlaceOf 51 = .ok (.aload_n 0, 1) := by decide +kernel
theorem dX7_sortedPlaceOf_52 : decode cX7_sortedPlaceOf 52 = .ok (.getfield 13, 3) := by decide +kernel
theorem dX7_sortedPlaceOf_55 : decode cX7_sortedPlaceOf 55 = .ok (.iload_n 1, 1) := by decide +kernel
theorem dX7_sortedPlaceOf_56 : decode cX7_sortedPlaceOf 56 = .ok (.laload, 1) := by decide +kernel
theorem dX7_sortedPlaceOf_57 : decode cX7_sortedPlaceOf 57 = .ok (.invokestatic 82, 3) := by decide +kernel
theorem dX7_sortedPlaceOf_60 : decode cX7_sortedPlaceOf 60 = .ok (.ifCond .eq 6, 3) := by decide +kernel
theorem dX7_sortedPlaceOf_63 : decode cX7_sortedPlaceOf 63 = .ok (.iinc 2 1, 3) := by decide +kernel
theorem dX7_sortedPlaceOf_66 : decode cX7_sortedPlaceOf 66 = .ok (.iinc 3 1, 3) := by decide +kernel
theorem dX7_sortedPlaceOf_69 : decode cX7_sortedPlaceOf 69 = .ok (.goto (-65), 3) := by decide +kernel
theorem dX7_sortedPlaceOf_72 : decode cX7_sortedPlaceOf 72 = .ok (.iload_n 2, 1) := by decide +kernel
theorem dX7_sortedPlaceOf_73 : decode cX7_sortedPlaceOf 73 = .ok (.ireturn, 1) := by decide +kernel
theorem dX7_sinkToItsPlace_0 : decode cX7_sinkToItsPlace 0 = .ok (.aload_n 0, 1) := by decide +kernel
theorem dX7_sinkToItsPlace_1 : decode cX7_sinkToItsPlace 1 = .ok (.getfield 9, 3) := by decide +kernel
theorem dX7_sinkToItsPlace_4 : decode cX7_sinkToItsPlace 4 = .ok (.iload_n 1, 1) := by decide +kernel
theorem dX7_sinkToItsPlace_5 : decode cX7_sinkToItsPlace 5 = .ok (.iaload, 1) := by decide +kernel
theorem dX7_sinkToItsPlace_6 : decode cX7_sinkToItsPlace 6 = .ok (.istore_n 2, 1) := by decide +kernel
theorem dX7_sinkToItsPlace_7 : decode cX7_sinkToItsPlace 7 = .ok (.aload_n 0, 1) := by decide +kernel
theorem dX7_sinkToItsPlace_8 : decode cX7_sinkToItsPlace 8 = .ok (.getfield 13, 3) := by decide +kernel
theorem dX7_sinkToItsPlace_11 : decode cX7_sinkToItsPlace 11 = .ok (.iload_n 1, 1) := by decide +kernel
theorem dX7_sinkToItsPlace_12 : decode cX7_sinkToItsPlace 12 = .ok (.laload, 1) := by decide +kernel
theorem dX7_sinkToItsPlace_13 : decode cX7_sinkToItsPlace 13 = .ok (.lstore_n 3, 1) := by decide +kernel
theorem dX7_sinkToItsPlace_14 : decode cX7_sinkToItsPlace 14 = .ok (.iload_n 1, 1) := by decide +kernel
theorem dX7_sinkToItsPlace_15 : decode cX7_sinkToItsPlace 15 = .ok (.istore 5, 2) := by decide +kernel
theorem dX7_sinkToItsPlace_17 : decode cX7_sinkToItsPlace 17 = .ok (.iload 5, 2) := by decide +kernel
theorem dX7_sinkToItsPlace_19 : decode cX7_sinkToItsPlace 19 = .ok (.ifCond .le 57, 3) := by decide +kernel
theorem dX7_sinkToItsPlace_22 : decode cX7_sinkToItsPlace 22 = .ok (.lload_n 3, 1) := by decide +kernel
theorem dX7_sinkToItsPlace_23 : decode cX7_sinkToItsPlace 23 = .ok (.aload_n 0, 1) := by decide +kernel
theorem dX7_sinkToItsPlace_24 : decode cX7_sinkToItsPlace 24 = .ok (.getfield 13, 3) := by decide +kernel
theorem dX7_sinkToItsPlace_27 : decode cX7_sinkToItsPlace 27 = .ok (.iload 5, 2) := by decide +kernel
theorem dX7_sinkToItsPlace_29 : decode cX7_sinkToItsPlace 29 = .ok (.iconst 1, 1) := by decide +kernel
theorem dX7_sinkToItsPlace_30 : decode cX7_sinkToItsPlace 30 = .ok (.isub, 1) := by decide +kernel
theorem dX7_sinkToItsPlace_31 : decode cX7_sinkToItsPlace 31 = .ok (.laload, 1) := by decide +kernel
theorem dX7_sinkToItsPlace_32 : decode cX7_sinkToItsPlace 32 = .ok (.invokestatic 82, 3) := by decide +kernel
theorem dX7_sinkToItsPlace_35 : decode cX7_sinkToItsPlace 35 = .ok (.ifCond .eq 41, 3) := by decide +kernel
theorem dX7_sinkToItsPlace_38 : decode cX7_sinkToItsPlace 38 = .ok (.aload_n 0, 1) := by decide +kernel
theorem dX7_sinkToItsPlace_39 : decode cX7_sinkToItsPlace 39 = .ok (.getfield 9, 3) := by decide +kernel
theorem dX7_sinkToItsPlace_42 : decode cX7_sinkToItsPlace 42 = .ok (.iload 5, 2) := by decide +kernel
theorem dX7_sinkToItsPlace_44 : decode cX7_sinkToItsPlace 44 = .ok (.aload_n 0, 1) := by decide +kernel
theorem dX7_sinkToItsPlace_45 : decode cX7_sinkToItsPlace 45 = .ok (.getfield 9, 3) := by decide +kernel
theorem dX7_sinkToItsPlace_48 : decode cX7_sinkToItsPlace 48 = .ok (.iload 5, 2) := by decide +kernel
theorem dX7_sinkToItsPlace_50 : decode cX7_sinkToItsPlace 50 = .ok (.iconst 1, 1) := by decide +kernel
theorem dX7_sinkToItsPlace_51 : decode cX7_sinkToItsPlace 51 = .ok (.isub, 1) := by decide +kernel
theorem dX7_sinkToItsPlace_52 : decode cX7_sinkToItsPlace 52 = .ok (.iaload, 1) := by decide +kernel
theorem dX7_sinkToItsPlace_53 : decode cX7_sinkToItsPlace 53 = .ok (.iastore, 1) := by decide +kernel
theorem dX7_sinkToItsPlace_54 : decode cX7_sinkToItsPlace 54 = .ok (.aload_n 0, 1) := by decide +kernel
theorem dX7_sinkToItsPlace_55 : decode cX7_sinkToItsPlace 55 = .ok (.getfield 13, 3) := by decide +kernel
theorem dX7_sinkToItsPlace_58 : decode cX7_sinkToItsPlace 58 = .ok (.iload 5, 2) := by decide +kernel
theorem dX7_sinkToItsPlace_60 : decode cX7_sinkToItsPlace 60 = .ok (.aload_n 0, 1) := by decide +kernel
theorem dX7_sinkToItsPlace_61 : decode cX7_sinkToItsPlace 61 = .ok (.getfield 13, 3) := by decide +kernel
theorem dX7_sinkToItsPlace_64 : decode cX7_sinkToItsPlace 64 = .ok (.iload 5, 2) := by decide +kernel
theorem dX7_sinkToItsPlace_66 : decode cX7_sinkToItsPlace 66 = .ok (.iconst 1, 1) := by decide +kernel
theorem dX7_sinkToItsPlace_67 : decode cX7_sinkToItsPlace 67 = .ok (.isub, 1) := by decide +kernel
theorem dX7_sinkToItsPlace_68 : decode cX7_sinkToItsPlace 68 = .ok (.laload, 1) := by decide +kernel
theorem dX7_sinkToItsPlace_69 : decode cX7_sinkToItsPlace 69 = .ok (.lastore, 1) := by decide +kernel
theorem dX7_sinkToItsPlace_70 : decode cX7_sinkToItsPlace 70 = .ok (.iinc 5 (-1), 3) := by decide +kernel
theorem dX7_sinkToItsPlace_73 : decode cX7_sinkToItsPlace 73 = .ok (.goto (-56), 3) := by decide +kernel
theorem dX7_sinkToItsPlace_76 : decode cX7_sinkToItsPlace 76 = .ok (.aload_n 0, 1) := by decide +kernel
theorem dX7_sinkToItsPlace_77 : decode cX7_sinkToItsPlace 77 = .ok (.getfield 9, 3) := by decide +kernel
theorem dX7_sinkToItsPlace_80 : decode cX7_sinkToItsPlace 80 = .ok (.iload 5, 2) := by decide +kernel
theorem dX7_sinkToItsPlace_82 : decode cX7_sinkToItsPlace 82 = .ok (.iload_n 2, 1) := by decide +kernel
theorem dX7_sinkToItsPlace_83 : decode cX7_sinkToItsPlace 83 = .ok (.iastore, 1) := by decide +kernel
theorem dX7_sinkToItsPlace_84 : decode cX7_sinkToItsPlace 84 = .ok (.aload_n 0, 1) := by decide +kernel
theorem dX7_sinkToItsPlace_85 : decode cX7_sinkToItsPlace 85 = .ok (.getfield 13, 3) := by decide +kernel
theorem dX7_sinkToItsPlace_88 : decode cX7_sinkToItsPlace 88 = .ok (.iload 5, 2) := by decide +kernel
theorem dX7_sinkToItsPlace_90 : decode cX7_sinkToItsPlace 90 = .ok (.lload_n 3, 1) := by decide +kernel
theorem dX7_sinkToItsPlace_91 : decode cX7_sinkToItsPlace 91 = .ok (.lastore, 1) := by decide +kernel
theorem dX7_sinkToItsPlace_92 : decode cX7_sinkToItsPlace 92 = .ok (.return_, 1) := by decide +kernel
theorem dX8_init_0 : decode cX8_init 0 = .ok (.aload_n 0, 1) := by decide +kernel
theorem dX8_init_1 : decode cX8_init 1 = .ok (.invokespecial 1, 3) := by decide +kernel
theorem dX8_init_4 : decode cX8_init 4 = .ok (.aload_n 0, 1) := by decide +kernel
theorem dX8_init_5 : decode cX8_init 5 = .ok (.bipush 8, 2) := by decide +kernel
theorem dX8_init_7 : decode cX8_init 7 = .ok (.newarray .int, 2) := by decide +kernel
theorem dX8_init_9 : decode cX8_init 9 = .ok (.putfield 9, 3) := by decide +kernel
theorem dX8_init_12 : decode cX8_init 12 = .ok (.aload_n 0, 1) := by decide +kernel
theorem dX8_init_13 : decode cX8_init 13 = .ok (.bipush 8, 2) := by decide +kernel
theorem dX8_init_15 : decode cX8_init 15 = .ok (.newarray .boolean, 2) := by decide +kernel
theorem dX8_init_17 : decode cX8_init 17 = .ok (.putfield 13, 3) := by decide +kernel
theorem dX8_init_20 : decode cX8_init 20 = .ok (.aload_n 0, 1) := by decide +kernel
theorem dX8_init_21 : decode cX8_init 21 = .ok (.bipush 8, 2) := by decide +kernel
theorem dX8_init_23 : decode cX8_init 23 = .ok (.newarray .boolean, 2) := by decide +kernel
theorem dX8_init_25 : decode cX8_init 25 = .ok (.putfield 17, 3) := by decide +kernel
theorem dX8_init_28 : decode cX8_init 28 = .ok (.aload_n 0, 1) := by decide +kernel
theorem dX8_init_29 : decode cX8_init 29 = .ok (.bipush 60, 2) := by decide +kernel
theorem dX8_init_31 : decode cX8_init 31 = .ok (.newarray .int, 2) := by decide +kernel
theorem dX8_init_33 : decode cX8_init 33 = .ok (.putfield 20, 3) := by decide +kernel
theorem dX8_init_36 : decode cX8_init 36 = .ok (.aload_n 0, 1) := by decide +kernel
theorem dX8_init_37 : decode cX8_init 37 = .ok (.bipush 60, 2) := by decide +kernel
theorem dX8_init_39 : decode cX8_init 39 = .ok (.newarray .boolean, 2) := by decide +kernel
theorem dX8_init_41 : decode cX8_init 41 = .ok (.putfield 23, 3) := by decide +kernel
theorem dX8_init_44 : decode cX8_init 44 = .ok (.return_, 1) := by decide +kernel
theorem dX8_thrown_0 : decode cX8_thrown 0 = .ok (.aload_n 0, 1) := by decide +kernel
theorem dX8_thrown_1 : decode cX8_thrown 1 = .ok (.getfield 26, 3) := by decide +kernel
theorem dX8_thrown_4 : decode cX8_thrown 4 = .ok (.ireturn, 1) := by decide +kernel
theorem dX8_is_0 : decode cX8_is 0 = .ok (.iload_n 0, 1) := by decide +kernel
theorem dX8_is_1 : decode cX8_is 1 = .ok (.ifCond .lt 13, 3) := by decide +kernel
theorem dX8_is_4 : decode cX8_is 4 = .ok (.iload_n 0, 1) := by decide +kernel
theorem dX8_is_5 : decode cX8_is 5 = .ok (.bipush 8, 2) := by decide +kernel
theorem dX8_is_7 : decode cX8_is 7 = .ok (.if_icmp .ge 7, 3) := by decide +kernel
theorem dX8_is_10 : decode cX8_is 10 = .ok (.iconst 1, 1) := by decide +kernel
theorem dX8_is_11 : decode cX8_is 11 = .ok (.goto 4, 3) := by decide +kernel
theorem dX8_is_14 : decode cX8_is 14 = .ok (.iconst 0, 1) := by decide +kernel
theorem dX8_is_15 : decode cX8_is 15 = .ok (.ireturn, 1) := by decide +kernel
theorem dX8_isPlace_0 : decode cX8_isPlace 0 = .ok (.aload_n 0, 1) := by decide +kernel
theorem dX8_isPlace_1 : decode cX8_isPlace 1 = .ok (.iload_n 1, 1) := by decide +kernel
theorem dX8_isPlace_2 : decode cX8_isPlace 2 = .ok (.invokestatic 30, 3) := by decide +kernel
theorem dX8_isPlace_5 : decode cX8_isPlace 5 = .ok (.ifCond .eq 7, 3) := by decide +kernel
theorem dX8_isPlace_8 : decode cX8_isPlace 8 = .ok (.iconst 0, 1) := by decide +kernel
theorem dX8_isPlace_9 : decode cX8_isPlace 9 = .ok (.goto 4, 3) := by decide +kernel
theorem dX8_isPlace_12 : decode cX8_isPlace 12 = .ok (.iconst 1, 1) := by decide +kernel
theorem dX8_isPlace_13 : decode cX8_isPlace 13 = .ok (.putfield 26, 3) := by decide +kernel
theorem dX8_isPlace_16 : decode cX8_isPlace 16 = .ok (.aload_n 0, 1) := by decide +kernel
theorem dX8_isPlace_17 : decode cX8_isPlace 17 = .ok (.getfield 26, 3) := by decide +kernel
theorem dX8_isPlace_20 : decode cX8_isPlace 20 = .ok (.ifCond .ne 7, 3) := by decide +kernel
theorem dX8_isPlace_23 : decode cX8_isPlace 23 = .ok (.iconst 1, 1) := by decide +kernel
theorem dX8_isPlace_24 : decode cX8_isPlace 24 = .ok (.goto 4, 3) := by decide +kernel
theorem dX8_isPlace_27 : decode cX8_isPlace 27 = .ok (.iconst 0, 1) := by decide +kernel
theorem dX8_isPlace_28 : decode cX8_isPlace 28 = .ok (.ireturn, 1) := by decide +kernel
theorem dX8_arePlaces_0 : decode cX8_arePlaces 0 = .ok (.aload_n 0, 1) := by decide +kernel
theorem dX8_arePlaces_1 : decode cX8_arePlaces 1 = .ok (.iload_n 1, 1) := by decide +kernel
theorem dX8_arePlaces_2 : decode cX8_arePlaces 2 = .ok (.invokestatic 30, 3) := by decide +kernel
theorem dX8_arePlaces_5 : decode cX8_arePlaces 5 = .ok (.ifCond .eq 14, 3) := by decide +kernel
theorem dX8_arePlaces_8 : decode cX8_arePlaces 8 = .ok (.iload_n 2, 1) := by decide +kernel
theorem dX8_arePlaces_9 : decode cX8_arePlaces 9 = .ok (.invokestatic 30, 3) := by decide +kernel
theorem dX8_arePlaces_12 : decode cX8_arePlaces 12 = .ok (.ifCond .eq 7, 3) := by decide +kernel
theorem dX8_arePlaces_15 : decode cX8_arePlaces 15 = .ok (.iconst 0, 1) := by decide +kernel
theorem dX8_arePlaces_16 : decode cX8_arePlaces 16 = .ok (.goto 4, 3) := by decide +kernel
theorem dX8_arePlaces_19 : decode cX8_arePlaces 19 = .ok (.iconst 1, 1) := by decide +kernel
theorem dX8_arePlaces_20 : decode cX8_arePlaces 20 = .ok (.putfield 26, 3) := by decide +kernel
theorem dX8_arePlaces_23 : decode cX8_arePlaces 23 = .ok (.aload_n 0, 1) := by decide +kernel
theorem dX8_arePlaces_24 : decode cX8_arePlaces 24 = .ok (.getfield 26, 3) := by decide +kernel
theorem dX8_arePlaces_27 : decode cX8_arePlaces 27 = .ok (.ifCond .ne 7, 3) := by decide +kernel
theorem dX8_arePlaces_30 : decode cX8_arePlaces 30 = .ok (.iconst 1, 1) := by decide +kernel
theorem dX8_arePlaces_31 : decode cX8_arePlaces 31 = .ok (.goto 4, 3) := by decide +kernel
theorem dX8_arePlaces_34 : decode cX8_arePlaces 34 = .ok (.iconst 0, 1) := by decide +kernel
theorem dX8_arePlaces_35 : decode cX8_arePlaces 35 = .ok (.ireturn, 1) := by decide +kernel
theorem dX8_root_0 : decode cX8_root 0 = .ok (.iconst 0, 1) := by decide +kernel
theorem dX8_root_1 : decode cX8_root 1 = .ok (.istore_n 2, 1) := by decide +kernel
theorem dX8_root_2 : decode cX8_root 2 = .ok (.ldc 34, 2) := by decide +kernel
theorem dX8_root_4 : decode cX8_root 4 = .ok (.istore_n 3, 1) := by decide +kernel
theorem dX8_root_5 : decode cX8_root 5 = .ok (.iload_n 3, 1) := by decide +kernel
theorem dX8_root_6 : decode cX8_root 6 = .ok (.ifCond .le 37, 3) := by decide +kernel
theorem dX8_root_9 : decode cX8_root 9 = .ok (.iload_n 2, 1) := by decide +kernel
theorem dX8_root_10 : decode cX8_root 10 = .ok (.iload_n 3, 1) := by decide +kernel
theorem dX8_root_11 : decode cX8_root 11 = .ok (.iadd, 1) := by decide +kernel
theorem dX8_root_12 : decode cX8_root 12 = .ok (.i2l, 1) := by decide +kernel
theorem dX8_root_13 : decode cX8_root 13 = .ok (.lstore 4, 2) := by decide +kernel
theorem dX8_root_15 : decode cX8_root 15 = .ok (.lload 4, 2) := by decide +kernel
theorem dX8_root_17 : decode cX8_root 17 = .ok (.lload 4, 2) := by decide +kernel
theorem dX8_root_19 : decode cX8_root 19 = .ok (.lmul, 1) := by decide +kernel
theorem dX8_root_20 : decode cX8_root 20 = .ok (.lload 4, 2) := by decide +kernel
theorem dX8_root_22 : decode cX8_root 22 = .ok (.lmul, 1) := by decide +kernel
theorem dX8_root_23 : decode cX8_root 23 = .ok (.lload_n 0, 1) := by decide +kernel
theorem dX8_root_24 : decode cX8_root 24 = .ok (.lcmp, 1) := by decide +kernel
theorem dX8_root_25 : decode cX8_root 25 = .ok (.ifCond .gt 9, 3) := by decide +kernel
theorem dX8_root_28 : decode cX8_root 28 = .ok (.lload 4, 2) := by decide +kernel
theorem dX8_root_30 : decode cX8_root 30 = .ok (.l2i, 1) := by decide +kernel
theorem dX8_root_31 : decode cX8_root 31 = .ok (.goto 4, 3) := by decide +kernel
theorem dX8_root_34 : decode cX8_root 34 = .ok (.iload_n 2, 1) := by decide +kernel
theorem dX8_root_35 : decode cX8_root 35 = .ok (.istore_n 2, 1) := by decide +kernel
theorem dX8_root_36 : decode cX8_root 36 = .ok (.iload_n 3, 1) := by decide +kernel
theorem dX8_root_37 : decode cX8_root 37 = .ok (.iconst 2, 1) := by decide +kernel
theorem dX8_root_38 : decode cX8_root 38 = .ok (.idiv, 1) := by decide +kernel
theorem dX8_root_39 : decode cX8_root 39 = .ok (.istore_n 3, 1) := by decide +kernel
theorem dX8_root_40 : decode cX8_root 40 = .ok (.goto (-35), 3) := by decide +kernel
theorem dX8_root_43 : decode cX8_root 43 = .ok (.iload_n 2, 1) := by decide +kernel
theorem dX8_root_44 : decode cX8_root 44 = .ok (.ireturn, 1) := by decide +kernel
theorem dX8_eighthsOf_0 : decode cX8_eighthsOf 0 = .ok (.iload_n 1, 1) := by decide +kernel
theorem dX8_eighthsOf_1 : decode cX8_eighthsOf 1 = .ok (.ifCond .eq 7, 3) := by decide +kernel
theorem dX8_eighthsOf_4 : decode cX8_eighthsOf 4 = .ok (.iload_n 0, 1) := by decide +kernel
theorem dX8_eighthsOf_5 : decode cX8_eighthsOf 5 = .ok (.goto 7, 3) := by decide +kernel
theorem dX8_eighthsOf_8 : decode cX8_eighthsOf 8 = .ok (.bipush 8, 2) := by decide +kernel
theorem dX8_eighthsOf_10 : decode cX8_eighthsOf 10 = .ok (.iload_n 0, 1) := by decide +kernel
theorem dX8_eighthsOf_11 : decode cX8_eighthsOf 11 = .ok (.imul, 1) := by decide +kernel
theorem dX8_eighthsOf_12 : decode cX8_eighthsOf 12 = .ok (.ireturn, 1) := by decide +kernel
theorem dX8_size_0 : decode cX8_size 0 = .ok (.aload_n 0, 1) := by decide +kernel
theorem dX8_size_1 : decode cX8_size 1 = .ok (.getfield 9, 3) := by decide +kernel
theorem dX8_size_4 : decode cX8_size 4 = .ok (.iload_n 1, 1) := by decide +kernel
theorem dX8_size_5 : decode cX8_size 5 = .ok (.iaload, 1) := by decide +kernel
theorem dX8_size_6 : decode cX8_size 6 = .ok (.aload_n 0, 1) := by decide +kernel
theorem dX8_size_7 : decode cX8_size 7 = .ok (.getfield 13, 3) := by decide +kernel
theorem dX8_size_10 : decode cX8_size 10 = .ok (.iload_n 1, 1) := by decide +kernel
theorem dX8_size_11 : decode cX8_size 11 = .ok (.baload, 1) := by decide +kernel
theorem dX8_size_12 : decode cX8_size 12 = .ok (.invokestatic 35, 3) := by decide +kernel
theorem dX8_size_15 : decode cX8_size 15 = .ok (.ireturn, 1) := by decide +kernel
theorem dX8_signed_0 : decode cX8_signed 0 = .ok (.aload_n 0, 1) := by decide +kernel
theorem dX8_signed_1 : decode cX8_signed 1 = .ok (.getfield 17, 3) := by decide +kernel
theorem dX8_signed_4 : decode cX8_signed 4 = .ok (.iload_n 1, 1) := by decide +kernel
theorem dX8_signed_5 : decode cX8_signed 5 = .ok (.baload, 1) := by decide +kernel
theorem dX8_signed_6 : decode cX8_signed 6 = .ok (.ifCond .eq 12, 3) := by decide +kernel
theorem dX8_signed_9 : decode cX8_signed 9 = .ok (.aload_n 0, 1) := by decide +kernel
theorem dX8_signed_10 : decode cX8_signed 10 = .ok (.iload_n 1, 1) := by decide +kernel
theorem dX8_signed_11 : decode cX8_signed 11 = .ok (.invokevirtual 39, 3) := by decide +kernel
theorem dX8_signed_14 : decode cX8_signed 14 = .ok (.ineg, 1) := by decide +kernel
theorem dX8_signed_15 : decode cX8_signed 15 = .ok (.goto 8, 3) := by decide +kernel
theorem dX8_signed_18 : decode cX8_signed 18 = .ok (.aload_n 0, 1) := by decide +kernel
theorem dX8_signed_19 : decode cX8_signed 19 = .ok (.iload_n 1, 1) := by decide +kernel
theorem dX8_signed_20 : decode cX8_signed 20 = .ok (.invokevirtual 39, 3) := by decide +kernel
theorem dX8_signed_23 : decode cX8_signed 23 = .ok (.ireturn, 1) := by decide +kernel
theorem dX8_fineOf_0 : decode cX8_fineOf 0 = .ok (.iload_n 0, 1) := by decide +kernel
theorem dX8_fineOf_1 : decode cX8_fineOf 1 = .ok (.i2l, 1) := by decide +kernel
theorem dX8_fineOf_2 : decode cX8_fineOf 2 = .ok (.bipush 27, 2) := by decide +kernel
theorem dX8_fineOf_4 : decode cX8_fineOf 4 = .ok (.lshl, 1) := by decide +kernel
theorem dX8_fineOf_5 : decode cX8_fineOf 5 = .ok (.invokestatic 43, 3) := by decide +kernel
theorem dX8_fineOf_8 : decode cX8_fineOf 8 = .ok (.ireturn, 1) := by decide +kernel
theorem dX8_fineAt_0 : decode cX8_fineAt 0 = .ok (.aload_n 0, 1) := by decide +kernel
theorem dX8_fineAt_1 : decode cX8_fineAt 1 = .ok (.getfield 17, 3) := by decide +kernel
theorem dX8_fineAt_4 : decode cX8_fineAt 4 = .ok (.iload_n 1, 1) := by decide +kernel
theorem dX8_fineAt_5 : decode cX8_fineAt 5 = .ok (.baload, 1) := by decide +kernel
theorem dX8_fineAt_6 : decode cX8_fineAt 6 = .ok (.ifCond .eq 15, 3) := by decide +kernel
theorem dX8_fineAt_9 : decode cX8_fineAt 9 = .ok (.aload_n 0, 1) := by decide +kernel
theorem dX8_fineAt_10 : decode cX8_fineAt 10 = .ok (.iload_n 1, 1) := by decide +kernel
theorem dX8_fineAt_11 : decode cX8_fineAt 11 = .ok (.invokevirtual 39, 3) := by decide +kernel
theorem dX8_fineAt_14 : decode cX8_fineAt 14 = .ok (.invokestatic 47, 3) := by decide +kernel
theorem dX8_fineAt_17 : decode cX8_fineAt 17 = .ok (.ineg, 1) := by decide +kernel
theorem dX8_fineAt_18 : decode cX8_fineAt 18 = .ok (.goto 11, 3) := by decide +kernel
theorem dX8_fineAt_21 : decode cX8_fineAt 21 = .ok (.aload_n 0, 1) := by decide +kernel
theorem dX8_fineAt_22 : decode cX8_fineAt 22 = .ok (.iload_n 1, 1) := by decide +kernel
theorem dX8_fineAt_23 : decode cX8_fineAt 23 = .ok (.invokevirtual 39, 3) := by decide +kernel
theorem dX8_fineAt_26 : decode cX8_fineAt 26 = .ok (.invokestatic 47, 3) := by decide +kernel
theorem dX8_fineAt_29 : decode cX8_fineAt 29 = .ok (.ireturn, 1) := by decide +kernel
theorem dX8_halves_0 : decode cX8_halves 0 = .ok (.iload_n 0, 1) := by decide +kernel
theorem dX8_halves_1 : decode cX8_halves 1 = .ok (.i2l, 1) := by decide +kernel
theorem dX8_halves_2 : decode cX8_halves 2 = .ok (.invokestatic 43, 3) := by decide +kernel
theorem dX8_halves_5 : decode cX8_halves 5 = .ok (.istore_n 1, 1) := by decide +kernel
theorem dX8_halves_6 : decode cX8_halves 6 = .ok (.iload_n 1, 1) := by decide +kernel
theorem dX8_halves_7 : decode cX8_halves 7 = .ok (.iload_n 1, 1) := by decide +kernel
theorem dX8_halves_8 : decode cX8_halves 8 = .ok (.imul, 1) := by decide +kernel
theorem dX8_halves_9 : decode cX8_halves 9 = .ok (.iload_n 1, 1) := by decide +kernel
theorem dX8_halves_10 : decode cX8_halves 10 = .ok (.imul, 1) := by decide +kernel
theorem dX8_halves_11 : decode cX8_halves 11 = .ok (.iload_n 0, 1) := by decide +kernel
theorem dX8_halves_12 : decode cX8_halves 12 = .ok (.if_icmp .ne 7, 3) := by decide +kernel
theorem dX8_halves_15 : decode cX8_halves 15 = .ok (.iload_n 1, 1) := by decide +kernel
theorem dX8_halves_16 : decode cX8_halves 16 = .ok (.goto 4, 3) := by decide +kernel
theorem dX8_halves_19 : decode cX8_halves 19 = .ok (.iconst (-1), 1) := by decide +kernel
theorem dX8_halves_20 : decode cX8_halves 20 = .ok (.ireturn, 1) := by decide +kernel
theorem dX8_write_0 : decode cX8_write 0 = .ok (.aload_n 0, 1) := by decide +kernel
theorem dX8_write_1 : decode cX8_write 1 = .ok (.getfield 9, 3) := by decide +kernel
theorem dX8_write_4 : decode cX8_write 4 = .ok (.iload_n 1, 1) := by decide +kernel
theorem dX8_write_5 : decode cX8_write 5 = .ok (.iload_n 2, 1) := by decide +kernel
theorem dX8_write_6 : decode cX8_write 6 = .ok (.iastore, 1) := by decide +kernel
theorem dX8_write_7 : decode cX8_write 7 = .ok (.aload_n 0, 1) := by decide +kernel
theorem dX8_write_8 : decode cX8_write 8 = .ok (.getfield 13, 3) := by decide +kernel
theorem dX8_write_11 : decode cX8_write 11 = .ok (.iload_n 1, 1) := by decide +kernel
theorem dX8_write_12 : decode cX8_write 12 = .ok (.iload_n 3, 1) := by decide +kernel
theorem dX8_write_13 : decode cX8_write 13 = .ok (.bastore, 1) := by decide +kernel
theorem dX8_write_14 : decode cX8_write 14 = .ok (.aload_n 0, 1) := by decide +kernel
theorem dX8_write_15 : decode cX8_write 15 = .ok (.getfield 17, 3) := by decide +kernel
theorem dX8_write_18 : decode cX8_write 18 = .ok (.iload_n 1, 1) := by decide +kernel
theorem dX8_write_19 : decode cX8_write 19 = .ok (.iload 4, 2) := by decide +kernel
theorem dX8_write_21 : decode cX8_write 21 = .ok (.bastore, 1) := by decide +kernel
theorem dX8_write_22 : decode cX8_write 22 = .ok (.return_, 1) := by decide +kernel
theorem dX8_reduced_0 : decode cX8_reduced 0 = .ok (.aload_n 0, 1) := by decide +kernel
theorem dX8_reduced_1 : decode cX8_reduced 1 = .ok (.lload_n 1, 1) := by decide +kernel
theorem dX8_reduced_2 : decode cX8_reduced 2 = .ok (.ldc2_w 50, 3) := by decide +kernel
theorem dX8_reduced_5 : decode cX8_reduced 5 = .ok (.lrem, 1) := by decide +kernel
theorem dX8_reduced_6 : decode cX8_reduced 6 = .ok (.lconst 0, 1) := by decide +kernel
theorem dX8_reduced_7 : decode cX8_reduced 7 = .ok (.lcmp, 1) := by decide +kernel
theorem dX8_reduced_8 : decode cX8_reduced 8 = .ok (.ifCond .eq 7, 3) := by decide +kernel
theorem dX8_reduced_11 : decode cX8_reduced 11 = .ok (.iconst 1, 1) := by decide +kernel
theorem dX8_reduced_12 : decode cX8_reduced 12 = .ok (.goto 4, 3) := by decide +kernel
theorem dX8_reduced_15 : decode cX8_reduced 15 = .ok (.iconst 0, 1) := by decide +kernel
theorem dX8_reduced_16 : decode cX8_reduced 16 = .ok (.putfield 52, 3) := by decide +kernel
theorem dX8_reduced_19 : decode cX8_reduced 19 = .ok (.aload_n 0, 1) := by decide +kernel
theorem dX8_reduced_20 : decode cX8_reduced 20 = .ok (.getfield 52, 3) := by decide +kernel
theorem dX8_reduced_23 : decode cX8_reduced 23 = .ok (.ifCond .eq 7, 3) := by decide +kernel
theorem dX8_reduced_26 : decode cX8_reduced 26 = .ok (.lload_n 1, 1) := by decide +kernel
theorem dX8_reduced_27 : decode cX8_reduced 27 = .ok (.goto 8, 3) := by decide +kernel
theorem dX8_reduced_30 : decode cX8_reduced 30 = .ok (.lload_n 1, 1) := by decide +kernel
theorem dX8_reduced_31 : decode cX8_reduced 31 = .ok (.ldc2_w 50, 3) := by decide +kernel
theorem dX8_reduced_34 : decode cX8_reduced 34 = .ok (.ldiv, 1) := by decide +kernel
theorem dX8_reduced_35 : decode cX8_reduced 35 = .ok (.lstore_n 3, 1) := by decide +kernel
theorem dX8_reduced_36 : decode cX8_reduced 36 = .ok (.aload_n 0, 1) := by decide +kernel
theorem dX8_reduced_37 : decode cX8_reduced 37 = .ok (.lload_n 3, 1) := by decide +kernel
theorem dX8_reduced_38 : decode cX8_reduced 38 = .ok (.ldc2_w 56, 3) := by decide +kernel
theorem dX8_reduced_41 : decode cX8_reduced 41 = .ok (.lcmp, 1) := by decide +kernel
theorem dX8_reduced_42 : decode cX8_reduced 42 = .ok (.ifCond .le 7, 3) := by decide +kernel
theorem dX8_reduced_45 : decode cX8_reduced 45 = .ok (.iconst 0, 1) := by decide +kernel
theorem dX8_reduced_46 : decode cX8_reduced 46 = .ok (.goto 5, 3) := by decide +kernel
theorem dX8_reduced_49 : decode cX8_reduced 49 = .ok (.lload_n 3, 1) := by decide +kernel
theorem dX8_reduced_50 : decode cX8_reduced 50 = .ok (.l2i, 1) := by decide +kernel
theorem dX8_reduced_51 : decode cX8_reduced 51 = .ok (.putfield 58, 3) := by decide +kernel
theorem dX8_reduced_54 : decode cX8_reduced 54 = .ok (.lload_n 3, 1) := by decide +kernel
theorem dX8_reduced_55 : decode cX8_reduced 55 = .ok (.ldc2_w 56, 3) := by decide +kernel
theorem dX8_reduced_58 : decode cX8_reduced 58 = .ok (.lcmp, 1) := by decide +kernel
theorem dX8_reduced_59 : decode cX8_reduced 59 = .ok (.ifCond .gt 7, 3) := by decide +kernel
theorem dX8_reduced_62 : decode cX8_reduced 62 = .ok (.iconst 1, 1) := by decide +kernel
theorem dX8_reduced_63 : decode cX8_reduced 63 = .ok (.goto 4, 3) := by decide +kernel
theorem dX8_reduced_66 : decode cX8_reduced 66 = .ok (.iconst 0, 1) := by decide +kernel
theorem dX8_reduced_67 : decode cX8_reduced 67 = .ok (.ireturn, 1) := by decide +kernel
theorem dX8_put_0 : decode cX8_put 0 = .ok (.aload_n 0, 1) := by decide +kernel
theorem dX8_put_1 : decode cX8_put 1 = .ok (.iload_n 1, 1) := by decide +kernel
theorem dX8_put_2 : decode cX8_put 2 = .ok (.invokestatic 30, 3) := by decide +kernel
theorem dX8_put_5 : decode cX8_put 5 = .ok (.ifCond .ne 7, 3) := by decide +kernel
theorem dX8_put_8 : decode cX8_put 8 = .ok (.iconst 1, 1) := by decide +kernel
theorem dX8_put_9 : decode cX8_put 9 = .ok (.goto 18, 3) := by decide +kernel
theorem dX8_put_12 : decode cX8_put 12 = .ok (.iload_n 2, 1) := by decide +kernel
theorem dX8_put_13 : decode cX8_put 13 = .ok (.ifCond .lt 9, 3) := by decide +kernel
theorem dX8_put_16 : decode cX8_put 16 = .ok (.iload_n 2, 1) := by decide +kernel
theorem dX8_put_17 : decode cX8_put 17 = .ok (.ldc 61, 2) := by decide +kernel
theorem dX8_put_19 : decode cX8_put 19 = .ok (.if_icmp .le 7, 3) := by decide +kernel
theorem dX8_put_22 : decode cX8_put 22 = .ok (.iconst 2, 1) := by decide +kernel
theorem dX8_put_23 : decode cX8_put 23 = .ok (.goto 4, 3) := by decide +kernel
theorem dX8_put_26 : decode cX8_put 26 = .ok (.iconst 0, 1) := by decide +kernel
theorem dX8_put_27 : decode cX8_put 27 = .ok (.putfield 26, 3) := by decide +kernel
theorem dX8_put_30 : decode cX8_put 30 = .ok (.aload_n 0, 1) := by decide +kernel
theorem dX8_put_31 : decode cX8_put 31 = .ok (.getfield 26, 3) := by decide +kernel
theorem dX8_put_34 : decode cX8_put 34 = .ok (.ifCond .le 5, 3) := by decide +kernel
theorem dX8_put_37 : decode cX8_put 37 = .ok (.iconst 0, 1) := by decide +kernel
theorem dX8_put_38 : decode cX8_put 38 = .ok (.ireturn, 1) := by decide +kernel
theorem dX8_put_39 : decode cX8_put 39 = .ok (.aload_n 0, 1) := by decide +kernel
theorem dX8_put_40 : decode cX8_put 40 = .ok (.iload_n 1, 1) := by decide +kernel
theorem dX8_put_41 : decode cX8_put 41 = .ok (.iload_n 2, 1) := by decide +kernel
theorem dX8_put_42 : decode cX8_put 42 = .ok (.iload_n 3, 1) := by decide +kernel
theorem dX8_put_43 : decode cX8_put 43 = .ok (.iload 4, 2) := by decide +kernel
theorem dX8_put_45 : decode cX8_put 45 = .ok (.invokevirtual 62, 3) := by decide +kernel
theorem dX8_put_48 : decode cX8_put 48 = .ok (.aload_n 0, 1) := by decide +kernel
theorem dX8_put_49 : decode cX8_put 49 = .ok (.iload_n 1, 1) := by decide +kernel
theorem dX8_put_50 : decode cX8_put 50 = .ok (.invokevirtual 66, 3) := by decide +kernel
theorem dX8_put_53 : decode cX8_put 53 = .ok (.ireturn, 1) := by decide +kernel
theorem dX8_volume_0 : decode cX8_volume 0 = .ok (.aload_n 0, 1) := by decide +kernel
theorem dX8_volume_1 : decode cX8_volume 1 = .ok (.iload_n 1, 1) := by decide +kernel
theorem dX8_volume_2 : decode cX8_volume 2 = .ok (.invokevirtual 69, 3) := by decide +kernel
theorem dX8_volume_5 : decode cX8_volume 5 = .ok (.ifCond .eq 11, 3) := by decide +kernel
theorem dX8_volume_8 : decode cX8_volume 8 = .ok (.aload_n 0, 1) := by decide +kernel
theorem dX8_volume_9 : decode cX8_volume 9 = .ok (.iload_n 1, 1) := by decide +kernel
theorem dX8_volume_10 : decode cX8_volume 10 = .ok (.invokevirtual 72, 3) := by decide +kernel
theorem dX8_volume_13 : decode cX8_volume 13 = .ok (.goto 4, 3) := by decide +kernel
theorem dX8_volume_16 : decode cX8_volume 16 = .ok (.iconst 0, 1) := by decide +kernel
theorem dX8_volume_17 : decode cX8_volume 17 = .ok (.ireturn, 1) := by decide +kernel
theorem dX8_kind_0 : decode cX8_kind 0 = .ok (.aload_n 0, 1) := by decide +kernel
theorem dX8_kind_1 : decode cX8_kind 1 = .ok (.iload_n 1, 1) := by decide +kernel
theorem dX8_kind_2 : decode cX8_kind 2 = .ok (.invokevirtual 69, 3) := by decide +kernel
theorem dX8_kind_5 : decode cX8_kind 5 = .ok (.ifCond .ne 7, 3) := by decide +kernel
theorem dX8_kind_8 : decode cX8_kind 8 = .ok (.iconst 0, 1) := by decide +kernel
theorem dX8_kind_9 : decode cX8_kind 9 = .ok (.goto 32, 3) := by decide +kernel
theorem dX8_kind_12 : decode cX8_kind 12 = .ok (.aload_n 0, 1) := by decide +kernel
theorem dX8_kind_13 : decode cX8_kind 13 = .ok (.getfield 17, 3) := by decide +kernel
theorem dX8_kind_16 : decode cX8_kind 16 = .ok (.iload_n 1, 1) := by decide +kernel
theorem dX8_kind_17 : decode cX8_kind 17 = .ok (.baload, 1) := by decide +kernel
theorem dX8_kind_18 : decode cX8_kind 18 = .ok (.ifCond .eq 7, 3) := by decide +kernel
theorem dX8_kind_21 : decode cX8_kind 21 = .ok (.iconst 2, 1) := by decide +kernel
theorem dX8_kind_22 : decode cX8_kind 22 = .ok (.goto 4, 3) := by decide +kernel
theorem dX8_kind_25 : decode cX8_kind 25 = .ok (.iconst 0, 1) := by decide +kernel
theorem dX8_kind_26 : decode cX8_kind 26 = .ok (.aload_n 0, 1) := by decide +kernel
theorem dX8_kind_27 : decode cX8_kind 27 = .ok (.getfield 13, 3) := by decide +kernel
theorem dX8_kind_30 : decode cX8_kind 30 = .ok (.iload_n 1, 1) := by decide +kernel
theorem dX8_kind_31 : decode cX8_kind 31 = .ok (.baload, 1) := by decide +kernel
theorem dX8_kind_32 : decode cX8_kind 32 = .ok (.ifCond .eq 7, 3) := by decide +kernel
theorem dX8_kind_35 : decode cX8_kind 35 = .ok (.iconst 1, 1) := by decide +kernel
theorem dX8_kind_36 : decode cX8_kind 36 = .ok (.goto 4, 3) := by decide +kernel
theorem dX8_kind_39 : decode cX8_kind 39 = .ok (.iconst 0, 1) := by decide +kernel
theorem dX8_kind_40 : decode cX8_kind 40 = .ok (.iadd, 1) := by decide +kernel
theorem dX8_kind_41 : decode cX8_kind 41 = .ok (.ireturn, 1) := by decide +kernel
theorem dX8_fine_0 : decode cX8_fine 0 = .ok (.aload_n 0, 1) := by decide +kernel
theorem dX8_fine_1 : decode cX8_fine 1 = .ok (.iload_n 1, 1) := by decide +kernel
theorem dX8_fine_2 : decode cX8_fine 2 = .ok (.invokevirtual 69, 3) := by decide +kernel
theorem dX8_fine_5 : decode cX8_fine 5 = .ok (.ifCond .eq 11, 3) := by decide +kernel
theorem dX8_fine_8 : decode cX8_fine 8 = .ok (.aload_n 0, 1) := by decide +kernel
theorem dX8_fine_9 : decode cX8_fine 9 = .ok (.iload_n 1, 1) := by decide +kernel
theorem dX8_fine_10 : decode cX8_fine 10 = .ok (.invokevirtual 66, 3) := by decide +kernel
theorem dX8_fine_13 : decode cX8_fine 13 = .ok (.goto 4, 3) := by decide +kernel
theorem dX8_fine_16 : decode cX8_fine 16 = .ok (.iconst 0, 1) := by decide +kernel
theorem dX8_fine_17 : decode cX8_fine 17 = .ok (.ireturn, 1) := by decide +kernel
theorem dX8_whole_0 : decode cX8_whole 0 = .ok (.aload_n 0, 1) := by decide +kernel
theorem dX8_whole_1 : decode cX8_whole 1 = .ok (.iload_n 1, 1) := by decide +kernel
theorem dX8_whole_2 : decode cX8_whole 2 = .ok (.invokevirtual 69, 3) := by decide +kernel
theorem dX8_whole_5 : decode cX8_whole 5 = .ok (.ifCond .eq 15, 3) := by decide +kernel
theorem dX8_whole_8 : decode cX8_whole 8 = .ok (.aload_n 0, 1) := by decide +kernel
theorem dX8_whole_9 : decode cX8_whole 9 = .ok (.iload_n 1, 1) := by decide +kernel
theorem dX8_whole_10 : decode cX8_whole 10 = .ok (.invokevirtual 66, 3) := by decide +kernel
theorem dX8_whole_13 : decode cX8_whole 13 = .ok (.sipush 1024, 3) := by decide +kernel
theorem dX8_whole_16 : decode cX8_whole 16 = .ok (.idiv, 1) := by decide +kernel
theorem dX8_whole_17 : decode cX8_whole 17 = .ok (.goto 4, 3) := by decide +kernel
theorem dX8_whole_20 : decode cX8_whole 20 = .ok (.iconst 0, 1) := by decide +kernel
theorem dX8_whole_21 : decode cX8_whole 21 = .ok (.ireturn, 1) := by decide +kernel
theorem dX8_coarse_0 : decode cX8_coarse 0 = .ok (.aload_n 0, 1) := by decide +kernel
theorem dX8_coarse_1 : decode cX8_coarse 1 = .ok (.iload_n 1, 1) := by decide +kernel
theorem dX8_coarse_2 : decode cX8_coarse 2 = .ok (.invokevirtual 69, 3) := by decide +kernel
theorem dX8_coarse_5 : decode cX8_coarse 5 = .ok (.ifCond .eq 16, 3) := by decide +kernel
theorem dX8_coarse_8 : decode cX8_coarse 8 = .ok (.aload_n 0, 1) := by decide +kernel
theorem dX8_coarse_9 : decode cX8_coarse 9 = .ok (.iload_n 1, 1) := by decide +kernel
theorem dX8_coarse_10 : decode cX8_coarse 10 = .ok (.invokevirtual 66, 3) := by decide +kernel
theorem dX8_coarse_13 : decode cX8_coarse 13 = .ok (.i2d, 1) := by decide +kernel
theorem dX8_coarse_14 : decode cX8_coarse 14 = .ok (.ldc2_w 75, 3) := by decide +kernel
theorem dX8_coarse_17 : decode cX8_coarse 17 = .ok (.ddiv, 1) := by decide +kernel
theorem dX8_coarse_18 : decode cX8_coarse 18 = .ok (.goto 4, 3) := by decide +kernel
theorem dX8_coarse_21 : decode cX8_coarse 21 = .ok (.dconst 0, 1) := by decide +kernel
theorem dX8_coarse_22 : decode cX8_coarse 22 = .ok (.dreturn, 1) := by decide +kernel
theorem dX8_isExact_0 : decode cX8_isExact 0 = .ok (.aload_n 0, 1) := by decide +kernel
theorem dX8_isExact_1 : decode cX8_isExact 1 = .ok (.iload_n 1, 1) := by decide +kernel
theorem dX8_isExact_2 : decode cX8_isExact 2 = .ok (.invokevirtual 69, 3) := by decide +kernel
theorem dX8_isExact_5 : decode cX8_isExact 5 = .ok (.ifCond .eq 18, 3) := by decide +kernel
theorem dX8_isExact_8 : decode cX8_isExact 8 = .ok (.aload_n 0, 1) := by decide +kernel
theorem dX8_isExact_9 : decode cX8_isExact 9 = .ok (.iload_n 1, 1) := by decide +kernel
theorem dX8_isExact_10 : decode cX8_isExact 10 = .ok (.invokevirtual 39, 3) := by decide +kernel
theorem dX8_isExact_13 : decode cX8_isExact 13 = .ok (.invokestatic 77, 3) := by decide +kernel
theorem dX8_isExact_16 : decode cX8_isExact 16 = .ok (.ifCond .lt 7, 3) := by decide +kernel
theorem dX8_isExact_19 : decode cX8_isExact 19 = .ok (.iconst 1, 1) := by decide +kernel
theorem dX8_isExact_20 : decode cX8_isExact 20 = .ok (.goto 4, 3) := by decide +kernel
theorem dX8_isExact_23 : decode cX8_isExact 23 = .ok (.iconst 0, 1) := by decide +kernel
theorem dX8_isExact_24 : decode cX8_isExact 24 = .ok (.ireturn, 1) := by decide +kernel
theorem dX8_bits_0 : decode cX8_bits 0 = .ok (.aload_n 0, 1) := by decide +kernel
theorem dX8_bits_1 : decode cX8_bits 1 = .ok (.iload_n 1, 1) := by decide +kernel
theorem dX8_bits_2 : decode cX8_bits 2 = .ok (.invokevirtual 69, 3) := by decide +kernel
theorem dX8_bits_5 : decode cX8_bits 5 = .ok (.ifCond .ne 5, 3) := by decide +kernel
theorem dX8_bits_8 : decode cX8_bits 8 = .ok (.lconst 0, 1) := by decide +kernel
theorem dX8_bits_9 : decode cX8_bits 9 = .ok (.lreturn, 1) := by decide +kernel
theorem dX8_bits_10 : decode cX8_bits 10 = .ok (.aload_n 0, 1) := by decide +kernel
theorem dX8_bits_11 : decode cX8_bits 11 = .ok (.iload_n 1, 1) := by decide +kernel
theorem dX8_bits_12 : decode cX8_bits 12 = .ok (.invokevirtual 39, 3) := by decide +kernel
theorem dX8_bits_15 : decode cX8_bits 15 = .ok (.invokestatic 77, 3) := by decide +kernel
theorem dX8_bits_18 : decode cX8_bits 18 = .ok (.istore_n 2, 1) := by decide +kernel
theorem dX8_bits_19 : decode cX8_bits 19 = .ok (.iload_n 2, 1) := by decide +kernel
theorem dX8_bits_20 : decode cX8_bits 20 = .ok (.ifCond .ge 10, 3) := by decide +kernel
theorem dX8_bits_23 : decode cX8_bits 23 = .ok (.aload_n 0, 1) := by decide +kernel
theorem dX8_bits_24 : decode cX8_bits 24 = .ok (.iconst 2, 1) := by decide +kernel
theorem dX8_bits_25 : decode cX8_bits 25 = .ok (.putfield 26, 3) := by decide +kernel
theorem dX8_bits_28 : decode cX8_bits 28 = .ok (.lconst 0, 1) := by decide +kernel
theorem dX8_bits_29 : decode cX8_bits 29 = .ok (.lreturn, 1) := by decide +kernel
theorem dX8_bits_30 : decode cX8_bits 30 = .ok (.aload_n 0, 1) := by decide +kernel
theorem dX8_bits_31 : decode cX8_bits 31 = .ok (.getfield 17, 3) := by decide +kernel
theorem dX8_bits_34 : decode cX8_bits 34 = .ok (.iload_n 1, 1) := by decide +kernel
theorem dX8_bits_35 : decode cX8_bits 35 = .ok (.baload, 1) := by decide +kernel
theorem dX8_bits_36 : decode cX8_bits 36 = .ok (.ifCond .eq 9, 3) := by decide +kernel
theorem dX8_bits_39 : decode cX8_bits 39 = .ok (.ldc2_w 80, 3) := by decide +kernel
theorem dX8_bits_42 : decode cX8_bits 42 = .ok (.goto 4, 3) := by decide +kernel
theorem dX8_bits_45 : decode cX8_bits 45 = .ok (.lconst 0, 1) := by decide +kernel
theorem dX8_bits_46 : decode cX8_bits 46 = .ok (.lstore_n 3, 1) := by decide +kernel
theorem dX8_bits_47 : decode cX8_bits 47 = .ok (.iload_n 2, 1) := by decide +kernel
theorem dX8_bits_48 : decode cX8_bits 48 = .ok (.ifCond .ne 5, 3) := by decide +kernel
theorem dX8_bits_51 : decode cX8_bits 51 = .ok (.lload_n 3, 1) := by decide +kernel
theorem dX8_bits_52 : decode cX8_bits 52 = .ok (.lreturn, 1) := by decide +kernel
theorem dX8_bits_53 : decode cX8_bits 53 = .ok (.iconst 0, 1) := by decide +kernel
theorem dX8_bits_54 : decode cX8_bits 54 = .ok (.istore 5, 2) := by decide +kernel
theorem dX8_bits_56 : decode cX8_bits 56 = .ok (.iload_n 2, 1) := by decide +kernel
theorem dX8_bits_57 : decode cX8_bits 57 = .ok (.iload 5, 2) := by decide +kernel
theorem dX8_bits_59 : decode cX8_bits 59 = .ok (.ishr, 1) := by decide +kernel
theorem dX8_bits_60 : decode cX8_bits 60 = .ok (.iconst 1, 1) := by decide +kernel
theorem dX8_bits_61 : decode cX8_bits 61 = .ok (.if_icmp .le 9, 3) := by decide +kernel
theorem dX8_bits_64 : decode cX8_bits 64 = .ok (.iinc 5 1, 3) := by decide +kernel
theorem dX8_bits_67 : decode cX8_bits 67 = .ok (.goto (-11), 3) := by decide +kernel
theorem dX8_bits_70 : decode cX8_bits 70 = .ok (.iload_n 2, 1) := by decide +kernel
theorem dX8_bits_71 : decode cX8_bits 71 = .ok (.i2l, 1) := by decide +kernel
theorem dX8_bits_72 : decode cX8_bits 72 = .ok (.bipush 52, 2) := by decide +kernel
theorem dX8_bits_74 : decode cX8_bits 74 = .ok (.iload 5, 2) := by decide +kernel
theorem dX8_bits_76 : decode cX8_bits 76 = .ok (.isub, 1) := by decide +kernel
theorem dX8_bits_77 : decode cX8_bits 77 = .ok (.lshl, 1) := by decide +kernel
theorem dX8_bits_78 : decode cX8_bits 78 = .ok (.ldc2_w 82, 3) := by decide +kernel
theorem dX8_bits_81 : decode cX8_bits 81 = .ok (.land, 1) := by decide +kernel
theorem dX8_bits_82 : decode cX8_bits 82 = .ok (.lstore 6, 2) := by decide +kernel
theorem dX8_bits_84 : decode cX8_bits 84 = .ok (.lload_n 3, 1) := by decide +kernel
theorem dX8_bits_85 : decode cX8_bits 85 = .ok (.sipush 1023, 3) := by decide +kernel
theorem dX8_bits_88 : decode cX8_bits 88 = .ok (.iload 5, 2) := by decide +kernel
theorem dX8_bits_90 : decode cX8_bits 90 = .ok (.iadd, 1) := by decide +kernel
theorem dX8_bits_91 : decode cX8_bits 91 = .ok (.iconst 1, 1) := by decide +kernel
theorem dX8_bits_92 : decode cX8_bits 92 = .ok (.isub, 1) := by decide +kernel
theorem dX8_bits_93 : decode cX8_bits 93 = .ok (.i2l, 1) := by decide +kernel
theorem dX8_bits_94 : decode cX8_bits 94 = .ok (.bipush 52, 2) := by decide +kernel
theorem dX8_bits_96 : decode cX8_bits 96 = .ok (.lshl, 1) := by decide +kernel
theorem dX8_bits_97 : decode cX8_bits 97 = .ok (.lor, 1) := by decide +kernel
theorem dX8_bits_98 : decode cX8_bits 98 = .ok (.lload 6, 2) := by decide +kernel
theorem dX8_bits_100 : decode cX8_bits 100 = .ok (.lor, 1) := by decide +kernel
theorem dX8_bits_101 : decode cX8_bits 101 = .ok (.lreturn, 1) := by decide +kernel
theorem dX8_order_0 : decode cX8_order 0 = .ok (.aload_n 0, 1) := by decide +kernel
theorem dX8_order_1 : decode cX8_order 1 = .ok (.iload_n 1, 1) := by decide +kernel
theorem dX8_order_2 : decode cX8_order 2 = .ok (.iload_n 2, 1) := by decide +kernel
theorem dX8_order_3 : decode cX8_order 3 = .ok (.invokevirtual 84, 3) := by decide +kernel
theorem dX8_order_6 : decode cX8_order 6 = .ok (.ifCond .ne 5, 3) := by decide +kernel
theorem dX8_order_9 : decode cX8_order 9 = .ok (.iconst 0, 1) := by decide +kernel
theorem dX8_order_10 : decode cX8_order 10 = .ok (.ireturn, 1) := by decide +kernel
theorem dX8_order_11 : decode cX8_order 11 = .ok (.aload_n 0, 1) := by decide +kernel
theorem dX8_order_12 : decode cX8_order 12 = .ok (.iload_n 1, 1) := by decide +kernel
theorem dX8_order_13 : decode cX8_order 13 = .ok (.invokevirtual 72, 3) := by decide +kernel
theorem dX8_order_16 : decode cX8_order 16 = .ok (.aload_n 0, 1) := by decide +kernel
theorem dX8_order_17 : decode cX8_order 17 = .ok (.iload_n 2, 1) := by decide +kernel
theorem dX8_order_18 : decode cX8_order 18 = .ok (.invokevirtual 72, 3) := by decide +kernel
theorem dX8_order_21 : decode cX8_order 21 = .ok (.if_icmp .ge 7, 3) := by decide +kernel
theorem dX8_order_24 : decode cX8_order 24 = .ok (.iconst (-1), 1) := by decide +kernel
theorem dX8_order_25 : decode cX8_order 25 = .ok (.goto 21, 3) := by decide +kernel
theorem dX8_order_28 : decode cX8_order 28 = .ok (.aload_n 0, 1) := by decide +kernel
theorem dX8_order_29 : decode cX8_order 29 = .ok (.iload_n 1, 1) := by decide +kernel
theorem dX8_order_30 : decode cX8_order 30 = .ok (.invokevirtual 72, 3) := by decide +kernel
theorem dX8_order_33 : decode cX8_order 33 = .ok (.aload_n 0, 1) := by decide +kernel
theorem dX8_order_34 : decode cX8_order 34 = .ok (.iload_n 2, 1) := by decide +kernel
theorem dX8_order_35 : decode cX8_order 35 = .ok (.invokevirtual 72, 3) := by decide +kernel
theorem dX8_order_38 : decode cX8_order 38 = .ok (.if_icmp .le 7, 3) := by decide +kernel
theorem dX8_order_41 : decode cX8_order 41 = .ok (.iconst 1, 1) := by decide +kernel
theorem dX8_order_42 : decode cX8_order 42 = .ok (.goto 4, 3) := by decide +kernel
theorem dX8_order_45 : decode cX8_order 45 = .ok (.iconst 0, 1) := by decide +kernel
theorem dX8_order_46 : decode cX8_order 46 = .ok (.ireturn, 1) := by decide +kernel
theorem dX8_grow_0 : decode cX8_grow 0 = .ok (.aload_n 0, 1) := by decide +kernel
theorem dX8_grow_1 : decode cX8_grow 1 = .ok (.iload_n 1, 1) := by decide +kernel
theorem dX8_grow_2 : decode cX8_grow 2 = .ok (.invokevirtual 69, 3) := by decide +kernel
theorem dX8_grow_5 : decode cX8_grow 5 = .ok (.ifCond .ne 5, 3) := by decide +kernel
theorem dX8_grow_8 : decode cX8_grow 8 = .ok (.iconst 0, 1) := by decide +kernel
theorem dX8_grow_9 : decode cX8_grow 9 = .ok (.ireturn, 1) := by decide +kernel
theorem dX8_grow_10 : decode cX8_grow 10 = .ok (.aload_n 0, 1) := by decide +kernel
theorem dX8_grow_11 : decode cX8_grow 11 = .ok (.getfield 9, 3) := by decide +kernel
theorem dX8_grow_14 : decode cX8_grow 14 = .ok (.iload_n 1, 1) := by decide +kernel
theorem dX8_grow_15 : decode cX8_grow 15 = .ok (.iaload, 1) := by decide +kernel
theorem dX8_grow_16 : decode cX8_grow 16 = .ok (.i2l, 1) := by decide +kernel
theorem dX8_grow_17 : decode cX8_grow 17 = .ok (.iload_n 2, 1) := by decide +kernel
theorem dX8_grow_18 : decode cX8_grow 18 = .ok (.i2l, 1) := by decide +kernel
theorem dX8_grow_19 : decode cX8_grow 19 = .ok (.ladd, 1) := by decide +kernel
theorem dX8_grow_20 : decode cX8_grow 20 = .ok (.lstore_n 3, 1) := by decide +kernel
theorem dX8_grow_21 : decode cX8_grow 21 = .ok (.lload_n 3, 1) := by decide +kernel
theorem dX8_grow_22 : decode cX8_grow 22 = .ok (.lconst 0, 1) := by decide +kernel
theorem dX8_grow_23 : decode cX8_grow 23 = .ok (.lcmp, 1) := by decide +kernel
theorem dX8_grow_24 : decode cX8_grow 24 = .ok (.ifCond .lt 11, 3) := by decide +kernel
theorem dX8_grow_27 : decode cX8_grow 27 = .ok (.lload_n 3, 1) := by decide +kernel
theorem dX8_grow_28 : decode cX8_grow 28 = .ok (.ldc2_w 56, 3) := by decide +kernel
theorem dX8_grow_31 : decode cX8_grow 31 = .ok (.lcmp, 1) := by decide +kernel
theorem dX8_grow_32 : decode cX8_grow 32 = .ok (.ifCond .le 10, 3) := by decide +kernel
theorem dX8_grow_35 : decode cX8_grow 35 = .ok (.aload_n 0, 1) := by decide +kernel
theorem dX8_grow_36 : decode cX8_grow 36 = .ok (.iconst 2, 1) := by decide +kernel
theorem dX8_grow_37 : decode cX8_grow 37 = .ok (.putfield 26, 3) := by decide +kernel
theorem dX8_grow_40 : decode cX8_grow 40 = .ok (.iconst 0, 1) := by decide +kernel
theorem dX8_grow_41 : decode cX8_grow 41 = .ok (.ireturn, 1) := by decide +kernel
theorem dX8_grow_42 : decode cX8_grow 42 = .ok (.aload_n 0, 1) := by decide +kernel
theorem dX8_grow_43 : decode cX8_grow 43 = .ok (.iload_n 1, 1) := by decide +kernel
theorem dX8_grow_44 : decode cX8_grow 44 = .ok (.invokevirtual 39, 3) := by decide +kernel
theorem dX8_grow_47 : decode cX8_grow 47 = .ok (.invokestatic 47, 3) := by decide +kernel
theorem dX8_grow_50 : decode cX8_grow 50 = .ok (.istore 5, 2) := by decide +kernel
theorem dX8_grow_52 : decode cX8_grow 52 = .ok (.aload_n 0, 1) := by decide +kernel
theorem dX8_grow_53 : decode cX8_grow 53 = .ok (.getfield 9, 3) := by decide +kernel
theorem dX8_grow_56 : decode cX8_grow 56 = .ok (.iload_n 1, 1) := by decide +kernel
theorem dX8_grow_57 : decode cX8_grow 57 = .ok (.lload_n 3, 1) := by decide +kernel
theorem dX8_grow_58 : decode cX8_grow 58 = .ok (.l2i, 1) := by decide +kernel
theorem dX8_grow_59 : decode cX8_grow 59 = .ok (.iastore, 1) := by decide +kernel
theorem dX8_grow_60 : decode cX8_grow 60 = .ok (.aload_n 0, 1) := by decide +kernel
theorem dX8_grow_61 : decode cX8_grow 61 = .ok (.iload_n 1, 1) := by decide +kernel
theorem dX8_grow_62 : decode cX8_grow 62 = .ok (.invokevirtual 39, 3) := by decide +kernel
theorem dX8_grow_65 : decode cX8_grow 65 = .ok (.invokestatic 47, 3) := by decide +kernel
theorem dX8_grow_68 : decode cX8_grow 68 = .ok (.iload 5, 2) := by decide +kernel
theorem dX8_grow_70 : decode cX8_grow 70 = .ok (.isub, 1) := by decide +kernel
theorem dX8_grow_71 : decode cX8_grow 71 = .ok (.ireturn, 1) := by decide +kernel
theorem dX8_sort_0 : decode cX8_sort 0 = .ok (.aload_n 0, 1) := by decide +kernel
theorem dX8_sort_1 : decode cX8_sort 1 = .ok (.iconst 0, 1) := by decide +kernel
theorem dX8_sort_2 : decode cX8_sort 2 = .ok (.putfield 26, 3) := by decide +kernel
theorem dX8_sort_5 : decode cX8_sort 5 = .ok (.bipush 8, 2) := by decide +kernel
theorem dX8_sort_7 : decode cX8_sort 7 = .ok (.newarray .int, 2) := by decide +kernel
theorem dX8_sort_9 : decode cX8_sort 9 = .ok (.astore_n 1, 1) := by decide +kernel
theorem dX8_sort_10 : decode cX8_sort 10 = .ok (.bipush 8, 2) := by decide +kernel
theorem dX8_sort_12 : decode cX8_sort 12 = .ok (.newarray .boolean, 2) := by decide +kernel
theorem dX8_sort_14 : decode cX8_sort 14 = .ok (.astore_n 2, 1) := by decide +kernel
theorem dX8_sort_15 : decode cX8_sort 15 = .ok (.bipush 8, 2) := by decide +kernel
theorem dX8_sort_17 : decode cX8_sort 17 = .ok (.newarray .boolean, 2) := by decide +kernel
theorem dX8_sort_19 : decode cX8_sort 19 = .ok (.astore_n 3, 1) := by decide +kernel
theorem dX8_sort_20 : decode cX8_sort 20 = .ok (.bipush 8, 2) := by decide +kernel
theorem dX8_sort_22 : decode cX8_sort 22 = .ok (.newarray .int, 2) := by decide +kernel
theorem dX8_sort_24 : decode cX8_sort 24 = .ok (.astore 4, 2) := by decide +kernel
theorem dX8_sort_26 : decode cX8_sort 26 = .ok (.iconst 0, 1) := by decide +kernel
theorem dX8_sort_27 : decode cX8_sort 27 = .ok (.istore 5, 2) := by decide +kernel
theorem dX8_sort_29 : decode cX8_sort 29 = .ok (.iload 5, 2) := by decide +kernel
theorem dX8_sort_31 : decode cX8_sort 31 = .ok (.bipush 8, 2) := by decide +kernel
theorem dX8_sort_33 : decode cX8_sort 33 = .ok (.if_icmp .ge 108, 3) := by decide +kernel
theorem dX8_sort_36 : decode cX8_sort 36 = .ok (.aload_n 1, 1) := by decide +kernel
theorem dX8_sort_37 : decode cX8_sort 37 = .ok (.iload 5, 2) := by decide +kernel
theorem dX8_sort_39 : decode cX8_sort 39 = .ok (.aload_n 0, 1) := by decide +kernel
theorem dX8_sort_40 : decode cX8_sort 40 = .ok (.getfield 9, 3) := by decide +kernel
theorem dX8_sort_43 : decode cX8_sort 43 = .ok (.iload 5, 2) := by decide +kernel
theorem dX8_sort_45 : decode cX8_sort 45 = .ok (.iaload, 1) := by decide +kernel
theorem dX8_sort_46 : decode cX8_sort 46 = .ok (.iastore, 1) := by decide +kernel
theorem dX8_sort_47 : decode cX8_sort 47 = .ok (.aload_n 2, 1) := by decide +kernel
theorem dX8_sort_48 : decode cX8_sort 48 = .ok (.iload 5, 2) := by decide +kernel
theorem dX8_sort_50 : decode cX8_sort 50 = .ok (.aload_n 0, 1) := by decide +kernel
theorem dX8_sort_51 : decode cX8_sort 51 = .ok (.getfield 13, 3) := by decide +kernel
theorem dX8_sort_54 : decode cX8_sort 54 = .ok (.iload 5, 2) := by decide +kernel
theorem dX8_sort_56 : decode cX8_sort 56 = .ok (.baload, 1) := by decide +kernel
theorem dX8_sort_57 : decode cX8_sort 57 = .ok (.bastore, 1) := by decide +kernel
theorem dX8_sort_58 : decode cX8_sort 58 = .ok (.aload_n 3, 1) := by decide +kernel
theorem dX8_sort_59 : decode cX8_sort 59 = .ok (.iload 5, 2) := by decide +kernel
theorem dX8_sort_61 : decode cX8_sort 61 = .ok (.aload_n 0, 1) := by decide +kernel
theorem dX8_sort_62 : decode cX8_sort 62 = .ok (.getfield 17, 3) := by decide +kernel
theorem dX8_sort_65 : decode cX8_sort 65 = .ok (.iload 5, 2) := by decide +kernel
theorem dX8_sort_67 : decode cX8_sort 67 = .ok (.baload, 1) := by decide +kernel
theorem dX8_sort_68 : decode cX8_sort 68 = .ok (.bastore, 1) := by decide +kernel
theorem dX8_sort_69 : decode cX8_sort 69 = .ok (.iconst 0, 1) := by decide +kernel
theorem dX8_sort_70 : decode cX8_sort 70 = .ok (.istore 6, 2) := by decide +kernel
theorem dX8_sort_72 : decode cX8_sort 72 = .ok (.iload 6, 2) := by decide +kernel
theorem dX8_sort_74 : decode cX8_sort 74 = .ok (.bipush 8, 2) := by decide +kernel
theorem dX8_sort_76 : decode cX8_sort 76 = .ok (.if_icmp .ge 59, 3) := by decide +kernel
theorem dX8_sort_79 : decode cX8_sort 79 = .ok (.aload 4, 2) := by decide +kernel
theorem dX8_sort_81 : decode cX8_sort 81 = .ok (.iload 5, 2) := by decide +kernel
theorem dX8_sort_83 : decode cX8_sort 83 = .ok (.dup2, 1) := by decide +kernel
theorem dX8_sort_84 : decode cX8_sort 84 = .ok (.iaload, 1) := by decide +kernel
theorem dX8_sort_85 : decode cX8_sort 85 = .ok (.aload_n 0, 1) := by decide +kernel
theorem dX8_sort_86 : decode cX8_sort 86 = .ok (.iload 6, 2) := by decide +kernel
theorem dX8_sort_88 : decode cX8_sort 88 = .ok (.invokevirtual 72, 3) := by decide +kernel
theorem dX8_sort_91 : decode cX8_sort 91 = .ok (.aload_n 0, 1) := by decide +kernel
theorem dX8_sort_92 : decode cX8_sort 92 = .ok (.iload 5, 2) := by decide +kernel
theorem dX8_sort_94 : decode cX8_sort 94 = .ok (.invokevirtual 72, 3) := by decide +kernel
theorem dX8_sort_97 : decode cX8_sort 97 = .ok (.if_icmp .lt 25, 3) := by decide +kernel
theorem dX8_sort_100 : decode cX8_sort 100 = .ok (.aload_n 0, 1) := by decide +kernel
theorem dX8_sort_101 : decode cX8_sort 101 = .ok (.iload 6, 2) := by decide +kernel
theorem dX8_sort_103 : decode cX8_sort 103 = .ok (.invokevirtual 72, 3) := by decide +kernel
theorem dX8_sort_106 : decode cX8_sort 106 = .ok (.aload_n 0, 1) := by decide +kernel
theorem dX8_sort_107 : decode cX8_sort 107 = .ok (.iload 5, 2) := by decide +kernel
theorem dX8_sort_109 : decode cX8_sort 109 = .ok (.invokevirtual 72, 3) := by decide +kernel
theorem dX8_sort_112 : decode cX8_sort 112 = .ok (.if_icmp .ne 14, 3) := by decide +kernel
theorem dX8_sort_115 : decode cX8_sort 115 = .ok (.iload 6, 2) := by decide +kernel
theorem dX8_sort_117 : decode cX8_sort 117 = .ok (.iload 5, 2) := by decide +kernel
theorem dX8_sort_119 : decode cX8_sort 119 = .ok (.if_icmp .ge 7, 3) := by decide +kernel
theorem dX8_sort_122 : decode cX8_sort 122 = .ok (.iconst 1, 1) := by decide +kernel
theorem dX8_sort_123 : decode cX8_sort 123 = .ok (.goto 4, 3) := by decide +kernel
theorem dX8_sort_126 : decode cX8_sort 126 = .ok (.iconst 0, 1) := by decide +kernel
theorem dX8_sort_127 : decode cX8_sort 127 = .ok (.iadd, 1) := by decide +kernel
theorem dX8_sort_128 : decode cX8_sort 128 = .ok (.iastore, 1) := by decide +kernel
theorem dX8_sort_129 : decode cX8_sort 129 = .ok (.iinc 6 1, 3) := by decide +kernel
theorem dX8_sort_132 : decode cX8_sort 132 = .ok (.goto (-60), 3) := by decide +kernel
theorem dX8_sort_135 : decode cX8_sort 135 = .ok (.iinc 5 1, 3) := by decide +kernel
theorem dX8_sort_138 : decode cX8_sort 138 = .ok (.goto (-109), 3) := by decide +kernel
theorem dX8_sort_141 : decode cX8_sort 141 = .ok (.iconst 0, 1) := by decide +kernel
theorem dX8_sort_142 : decode cX8_sort 142 = .ok (.istore 5, 2) := by decide +kernel
theorem dX8_sort_144 : decode cX8_sort 144 = .ok (.iconst 0, 1) := by decide +kernel
theorem dX8_sort_145 : decode cX8_sort 145 = .ok (.istore 6, 2) := by decide +kernel
theorem dX8_sort_147 : decode cX8_sort 147 = .ok (.iload 6, 2) := by decide +kernel
theorem dX8_sort_149 : decode cX8_sort 149 = .ok (.bipush 8, 2) := by decide +kernel
theorem dX8_sort_151 : decode cX8_sort 151 = .ok (.if_icmp .ge 50, 3) := by decide +kernel
theorem dX8_sort_154 : decode cX8_sort 154 = .ok (.aload_n 0, 1) := by decide +kernel
theorem dX8_sort_155 : decode cX8_sort 155 = .ok (.aload 4, 2) := by decide +kernel
theorem dX8_sort_157 : decode cX8_sort 157 = .ok (.iload 6, 2) := by decide +kernel
theorem dX8_sort_159 : decode cX8_sort 159 = .ok (.iaload, 1) := by decide +kernel
theorem dX8_sort_160 : decode cX8_sort 160 = .ok (.aload_n 1, 1) := by decide +kernel
theorem dX8_sort_161 : decode cX8_sort 161 = .ok (.iload 6, 2) := by decide +kernel
theorem dX8_sort_163 : decode cX8_sort 163 = .ok (.iaload, 1) := by decide +kernel
theorem dX8_sort_164 : decode cX8_sort 164 = .ok (.aload_n 2, 1) := by decide +kernel
theorem dX8_sort_165 : decode cX8_sort 165 = .ok (.iload 6, 2) := by decide +kernel
theorem dX8_sort_167 : decode cX8_sort 167 = .ok (.baload, 1) := by decide +kernel
theorem dX8_sort_168 : decode cX8_sort 168 = .ok (.aload_n 3, 1) := by decide +kernel
theorem dX8_sort_169 : decode cX8_sort 169 = .ok (.iload 6, 2) := by decide +kernel
theorem dX8_sort_171 : decode cX8_sort 171 = .ok (.baload, 1) := by decide +kernel
theorem dX8_sort_172 : decode cX8_sort 172 = .ok (.invokevirtual 62, 3) := by decide +kernel
theorem dX8_sort_175 : decode cX8_sort 175 = .ok (.iload 5, 2) := by decide +kernel
theorem dX8_sort_177 : decode cX8_sort 177 = .ok (.aload 4, 2) := by decide +kernel
theorem dX8_sort_179 : decode cX8_sort 179 = .ok (.iload 6, 2) := by decide +kernel
theorem dX8_sort_181 : decode cX8_sort 181 = .ok (.iaload, 1) := by decide +kernel
theorem dX8_sort_182 : decode cX8_sort 182 = .ok (.iload 6, 2) := by decide +kernel
theorem dX8_sort_184 : decode cX8_sort 184 = .ok (.if_icmp .ne 7, 3) := by decide +kernel
theorem dX8_sort_187 : decode cX8_sort 187 = .ok (.iconst 0, 1) := by decide +kernel
theorem dX8_sort_188 : decode cX8_sort 188 = .ok (.goto 4, 3) := by decide +kernel
theorem dX8_sort_191 : decode cX8_sort 191 = .ok (.iconst 1, 1) := by decide +kernel
theorem dX8_sort_192 : decode cX8_sort 192 = .ok (.iadd, 1) := by decide +kernel
theorem dX8_sort_193 : decode cX8_sort 193 = .ok (.istore 5, 2) := by decide +kernel
theorem dX8_sort_195 : decode cX8_sort 195 = .ok (.iinc 6 1, 3) := by decide +kernel
theorem dX8_sort_198 : decode cX8_sort 198 = .ok (.goto (-51), 3) := by decide +kernel
theorem dX8_sort_201 : decode cX8_sort 201 = .ok (.iload 5, 2) := by decide +kernel
theorem dX8_sort_203 : decode cX8_sort 203 = .ok (.ireturn, 1) := by decide +kernel
theorem dX8_opposite_0 : decode cX8_opposite 0 = .ok (.aload_n 0, 1) := by decide +kernel
theorem dX8_opposite_1 : decode cX8_opposite 1 = .ok (.iload_n 1, 1) := by decide +kernel
theorem dX8_opposite_2 : decode cX8_opposite 2 = .ok (.iload_n 2, 1) := by decide +kernel
theorem dX8_opposite_3 : decode cX8_opposite 3 = .ok (.invokevirtual 84, 3) := by decide +kernel
theorem dX8_opposite_6 : decode cX8_opposite 6 = .ok (.ifCond .ne 5, 3) := by decide +kernel
theorem dX8_opposite_9 : decode cX8_opposite 9 = .ok (.iconst 0, 1) := by decide +kernel
theorem dX8_opposite_10 : decode cX8_opposite 10 = .ok (.ireturn, 1) := by decide +kernel
theorem dX8_opposite_11 : decode cX8_opposite 11 = .ok (.aload_n 0, 1) := by decide +kernel
theorem dX8_opposite_12 : decode cX8_opposite 12 = .ok (.iload_n 2, 1) := by decide +kernel
theorem dX8_opposite_13 : decode cX8_opposite 13 = .ok (.aload_n 0, 1) := by decide +kernel
theorem dX8_opposite_14 : decode cX8_opposite 14 = .ok (.getfield 9, 3) := by decide +kernel
theorem dX8_opposite_17 : decode cX8_opposite 17 = .ok (.iload_n 1, 1) := by decide +kernel
theorem dX8_opposite_18 : decode cX8_opposite 18 = .ok (.iaload, 1) := by decide +kernel
theorem dX8_opposite_19 : decode cX8_opposite 19 = .ok (.aload_n 0, 1) := by decide +kernel
theorem dX8_opposite_20 : decode cX8_opposite 20 = .ok (.getfield 13, 3) := by decide +kernel
theorem dX8_opposite_23 : decode cX8_opposite 23 = .ok (.iload_n 1, 1) := by decide +kernel
theorem dX8_opposite_24 : decode cX8_opposite 24 = .ok (.baload, 1) := by decide +kernel
theorem dX8_opposite_25 : decode cX8_opposite 25 = .ok (.aload_n 0, 1) := by decide +kernel
theorem dX8_opposite_26 : decode cX8_opposite 26 = .ok (.getfield 17, 3) := by decide +kernel
theorem dX8_opposite_29 : decode cX8_opposite 29 = .ok (.iload_n 1, 1) := by decide +kernel
theorem dX8_opposite_30 : decode cX8_opposite 30 = .ok (.baload, 1) := by decide +kernel
theorem dX8_opposite_31 : decode cX8_opposite 31 = .ok (.ifCond .ne 7, 3) := by decide +kernel
theorem dX8_opposite_34 : decode cX8_opposite 34 = .ok (.iconst 1, 1) := by decide +kernel
theorem dX8_opposite_35 : decode cX8_opposite 35 = .ok (.goto 4, 3) := by decide +kernel
theorem dX8_opposite_38 : decode cX8_opposite 38 = .ok (.iconst 0, 1) := by decide +kernel
theorem dX8_opposite_39 : decode cX8_opposite 39 = .ok (.invokevirtual 62, 3) := by decide +kernel
theorem dX8_opposite_42 : decode cX8_opposite 42 = .ok (.iconst 1, 1) := by decide +kernel
theorem dX8_opposite_43 : decode cX8_opposite 43 = .ok (.ireturn, 1) := by decide +kernel
theorem dX8_eightfold_0 : decode cX8_eightfold 0 = .ok (.aload_n 0, 1) := by decide +kernel
theorem dX8_eightfold_1 : decode cX8_eightfold 1 = .ok (.iload_n 1, 1) := by decide +kernel
theorem dX8_eightfold_2 : decode cX8_eightfold 2 = .ok (.iload_n 2, 1) := by decide +kernel
theorem dX8_eightfold_3 : decode cX8_eightfold 3 = .ok (.invokevirtual 84, 3) := by decide +kernel
theorem dX8_eightfold_6 : decode cX8_eightfold 6 = .ok (.ifCond .ne 5, 3) := by decide +kernel
theorem dX8_eightfold_9 : decode cX8_eightfold 9 = .ok (.iconst 0, 1) := by decide +kernel
theorem dX8_eightfold_10 : decode cX8_eightfold 10 = .ok (.ireturn, 1) := by decide +kernel
theorem dX8_eightfold_11 : decode cX8_eightfold 11 = .ok (.aload_n 0, 1) := by decide +kernel
theorem dX8_eightfold_12 : decode cX8_eightfold 12 = .ok (.getfield 13, 3) := by decide +kernel
theorem dX8_eightfold_15 : decode cX8_eightfold 15 = .ok (.iload_n 1, 1) := by decide +kernel
theorem dX8_eightfold_16 : decode cX8_eightfold 16 = .ok (.baload, 1) := by decide +kernel
theorem dX8_eightfold_17 : decode cX8_eightfold 17 = .ok (.ifCond .eq 12, 3) := by decide +kernel
theorem dX8_eightfold_20 : decode cX8_eightfold 20 = .ok (.aload_n 0, 1) := by decide +kernel
theorem dX8_eightfold_21 : decode cX8_eightfold 21 = .ok (.getfield 9, 3) := by decide +kernel
theorem dX8_eightfold_24 : decode cX8_eightfold 24 = .ok (.iload_n 1, 1) := by decide +kernel
theorem dX8_eightfold_25 : decode cX8_eightfold 25 = .ok (.iaload, 1) := by decide +kernel
theorem dX8_eightfold_26 : decode cX8_eightfold 26 = .ok (.goto 12, 3) := by decide +kernel
theorem dX8_eightfold_29 : decode cX8_eightfold 29 = .ok (.bipush 8, 2) := by decide +kernel
theorem dX8_eightfold_31 : decode cX8_eightfold 31 = .ok (.aload_n 0, 1) := by decide +kernel
theorem dX8_eightfold_32 : decode cX8_eightfold 32 = .ok (.getfield 9, 3) := by decide +kernel
theorem dX8_eightfold_35 : decode cX8_eightfold 35 = .ok (.iload_n 1, 1) := by decide +kernel
theorem dX8_eightfold_36 : decode cX8_eightfold 36 = .ok (.iaload, 1) := by decide +kernel
theorem dX8_eightfold_37 : decode cX8_eightfold 37 = .ok (.imul, 1) := by decide +kernel
theorem dX8_eightfold_38 : decode cX8_eightfold 38 = .ok (.istore_n 3, 1) := by decide +kernel
theorem dX8_eightfold_39 : decode cX8_eightfold 39 = .ok (.iload_n 3, 1) := by decide +kernel
theorem dX8_eightfold_40 : decode cX8_eightfold 40 = .ok (.ldc 61, 2) := by decide +kernel
theorem dX8_eightfold_42 : decode cX8_eightfold 42 = .ok (.if_icmp .le 10, 3) := by decide +kernel
theorem dX8_eightfold_45 : decode cX8_eightfold 45 = .ok (.aload_n 0, 1) := by decide +kernel
theorem dX8_eightfold_46 : decode cX8_eightfold 46 = .ok (.iconst 2, 1) := by decide +kernel
theorem dX8_eightfold_47 : decode cX8_eightfold 47 = .ok (.putfield 26, 3) := by decide +kernel
theorem dX8_eightfold_50 : decode cX8_eightfold 50 = .ok (.iconst 0, 1) := by decide +kernel
theorem dX8_eightfold_51 : decode cX8_eightfold 51 = .ok (.ireturn, 1) := by decide +kernel
theorem dX8_eightfold_52 : decode cX8_eightfold 52 = .ok (.aload_n 0, 1) := by decide +kernel
theorem dX8_eightfold_53 : decode cX8_eightfold 53 = .ok (.iload_n 2, 1) := by decide +kernel
theorem dX8_eightfold_54 : decode cX8_eightfold 54 = .ok (.iload_n 3, 1) := by decide +kernel
theorem dX8_eightfold_55 : decode cX8_eightfold 55 = .ok (.iconst 0, 1) := by decide +kernel
theorem dX8_eightfold_56 : decode cX8_eightfold 56 = .ok (.aload_n 0, 1) := by decide +kernel
theorem dX8_eightfold_57 : decode cX8_eightfold 57 = .ok (.getfield 17, 3) := by decide +kernel
theorem dX8_eightfold_60 : decode cX8_eightfold 60 = .ok (.iload_n 1, 1) := by decide +kernel
theorem dX8_eightfold_61 : decode cX8_eightfold 61 = .ok (.baload, 1) := by decide +kernel
theorem dX8_eightfold_62 : decode cX8_eightfold 62 = .ok (.invokevirtual 62, 3) := by decide +kernel
theorem dX8_eightfold_65 : decode cX8_eightfold 65 = .ok (.iconst 1, 1) := by decide +kernel
theorem dX8_eightfold_66 : decode cX8_eightfold 66 = .ok (.ireturn, 1) := by decide +kernel
theorem dX8_eighth_0 : decode cX8_eighth 0 = .ok (.aload_n 0, 1) := by decide +kernel
theorem dX8_eighth_1 : decode cX8_eighth 1 = .ok (.iload_n 1, 1) := by decide +kernel
theorem dX8_eighth_2 : decode cX8_eighth 2 = .ok (.iload_n 2, 1) := by decide +kernel
theorem dX8_eighth_3 : decode cX8_eighth 3 = .ok (.invokevirtual 84, 3) := by decide +kernel
theorem dX8_eighth_6 : decode cX8_eighth 6 = .ok (.ifCond .ne 5, 3) := by decide +kernel
theorem dX8_eighth_9 : decode cX8_eighth 9 = .ok (.iconst 0, 1) := by decide +kernel
theorem dX8_eighth_10 : decode cX8_eighth 10 = .ok (.ireturn, 1) := by decide +kernel
theorem dX8_eighth_11 : decode cX8_eighth 11 = .ok (.aload_n 0, 1) := by decide +kernel
theorem dX8_eighth_12 : decode cX8_eighth 12 = .ok (.getfield 13, 3) := by decide +kernel
theorem dX8_eighth_15 : decode cX8_eighth 15 = .ok (.iload_n 1, 1) := by decide +kernel
theorem dX8_eighth_16 : decode cX8_eighth 16 = .ok (.baload, 1) := by decide +kernel
theorem dX8_eighth_17 : decode cX8_eighth 17 = .ok (.ifCond .eq 22, 3) := by decide +kernel
theorem dX8_eighth_20 : decode cX8_eighth 20 = .ok (.aload_n 0, 1) := by decide +kernel
theorem dX8_eighth_21 : decode cX8_eighth 21 = .ok (.getfield 9, 3) := by decide +kernel
theorem dX8_eighth_24 : decode cX8_eighth 24 = .ok (.iload_n 1, 1) := by decide +kernel
theorem dX8_eighth_25 : decode cX8_eighth 25 = .ok (.iaload, 1) := by decide +kernel
theorem dX8_eighth_26 : decode cX8_eighth 26 = .ok (.bipush 8, 2) := by decide +kernel
theorem dX8_eighth_28 : decode cX8_eighth 28 = .ok (.irem, 1) := by decide +kernel
theorem dX8_eighth_29 : decode cX8_eighth 29 = .ok (.ifCond .eq 10, 3) := by decide +kernel
theorem dX8_eighth_32 : decode cX8_eighth 32 = .ok (.aload_n 0, 1) := by decide +kernel
theorem dX8_eighth_33 : decode cX8_eighth 33 = .ok (.iconst 2, 1) := by decide +kernel
theorem dX8_eighth_34 : decode cX8_eighth 34 = .ok (.putfield 26, 3) := by decide +kernel
theorem dX8_eighth_37 : decode cX8_eighth 37 = .ok (.iconst 0, 1) := by decide +kernel
theorem dX8_eighth_38 : decode cX8_eighth 38 = .ok (.ireturn, 1) := by decide +kernel
theorem dX8_eighth_39 : decode cX8_eighth 39 = .ok (.aload_n 0, 1) := by decide +kernel
theorem dX8_eighth_40 : decode cX8_eighth 40 = .ok (.iload_n 2, 1) := by decide +kernel
theorem dX8_eighth_41 : decode cX8_eighth 41 = .ok (.aload_n 0, 1) := by decide +kernel
theorem dX8_eighth_42 : decode cX8_eighth 42 = .ok (.getfield 13, 3) := by decide +kernel
theorem dX8_eighth_45 : decode cX8_eighth 45 = .ok (.iload_n 1, 1) := by decide +kernel
theorem dX8_eighth_46 : decode cX8_eighth 46 = .ok (.baload, 1) := by decide +kernel
theorem dX8_eighth_47 : decode cX8_eighth 47 = .ok (.ifCond .eq 15, 3) := by decide +kernel
theorem dX8_eighth_50 : decode cX8_eighth 50 = .ok (.aload_n 0, 1) := by decide +kernel
theorem dX8_eighth_51 : decode cX8_eighth 51 = .ok (.getfield 9, 3) := by decide +kernel
theorem dX8_eighth_54 : decode cX8_eighth 54 = .ok (.iload_n 1, 1) := by decide +kernel
theorem dX8_eighth_55 : decode cX8_eighth 55 = .ok (.iaload, 1) := by decide +kernel
theorem dX8_eighth_56 : decode cX8_eighth 56 = .ok (.bipush 8, 2) := by decide +kernel
theorem dX8_eighth_58 : decode cX8_eighth 58 = .ok (.idiv, 1) := by decide +kernel
theorem dX8_eighth_59 : decode cX8_eighth 59 = .ok (.goto 9, 3) := by decide +kernel
theorem dX8_eighth_62 : decode cX8_eighth 62 = .ok (.aload_n 0, 1) := by decide +kernel
theorem dX8_eighth_63 : decode cX8_eighth 63 = .ok (.getfield 9, 3) := by decide +kernel
theorem dX8_eighth_66 : decode cX8_eighth 66 = .ok (.iload_n 1, 1) := by decide +kernel
theorem dX8_eighth_67 : decode cX8_eighth 67 = .ok (.iaload, 1) := by decide +kernel
theorem dX8_eighth_68 : decode cX8_eighth 68 = .ok (.iconst 1, 1) := by decide +kernel
theorem dX8_eighth_69 : decode cX8_eighth 69 = .ok (.aload_n 0, 1) := by decide +kernel
theorem dX8_eighth_70 : decode cX8_eighth 70 = .ok (.getfield 17, 3) := by decide +kernel
theorem dX8_eighth_73 : decode cX8_eighth 73 = .ok (.iload_n 1, 1) := by decide +kernel
theorem dX8_eighth_74 : decode cX8_eighth 74 = .ok (.baload, 1) := by decide +kernel
theorem dX8_eighth_75 : decode cX8_eighth 75 = .ok (.invokevirtual 62, 3) := by decide +kernel
theorem dX8_eighth_78 : decode cX8_eighth 78 = .ok (.iconst 1, 1) := by decide +kernel
theorem dX8_eighth_79 : decode cX8_eighth 79 = .ok (.ireturn, 1) := by decide +kernel
theorem dX8_isNear_0 : decode cX8_isNear 0 = .ok (.aload_n 0, 1) := by decide +kernel
theorem dX8_isNear_1 : decode cX8_isNear 1 = .ok (.iload_n 1, 1) := by decide +kernel
theorem dX8_isNear_2 : decode cX8_isNear 2 = .ok (.invokevirtual 69, 3) := by decide +kernel
theorem dX8_isNear_5 : decode cX8_isNear 5 = .ok (.ireturn, 1) := by decide +kernel
theorem dX8_multiply_0 : decode cX8_multiply 0 = .ok (.aload_n 0, 1) := by decide +kernel
theorem dX8_multiply_1 : decode cX8_multiply 1 = .ok (.iload_n 1, 1) := by decide +kernel
theorem dX8_multiply_2 : decode cX8_multiply 2 = .ok (.invokestatic 30, 3) := by decide +kernel
theorem dX8_multiply_5 : decode cX8_multiply 5 = .ok (.ifCond .eq 21, 3) := by decide +kernel
theorem dX8_multiply_8 : decode cX8_multiply 8 = .ok (.iload_n 2, 1) := by decide +kernel
theorem dX8_multiply_9 : decode cX8_multiply 9 = .ok (.invokestatic 30, 3) := by decide +kernel
theorem dX8_multiply_12 : decode cX8_multiply 12 = .ok (.ifCond .eq 14, 3) := by decide +kernel
theorem dX8_multiply_15 : decode cX8_multiply 15 = .ok (.iload_n 3, 1) := by decide +kernel
theorem dX8_multiply_16 : decode cX8_multiply 16 = .ok (.invokestatic 30, 3) := by decide +kernel
theorem dX8_multiply_19 : decode cX8_multiply 19 = .ok (.ifCond .eq 7, 3) := by decide +kernel
theorem dX8_multiply_22 : decode cX8_multiply 22 = .ok (.iconst 0, 1) := by decide +kernel
theorem dX8_multiply_23 : decode cX8_multiply 23 = .ok (.goto 4, 3) := by decide +kernel
theorem dX8_multiply_26 : decode cX8_multiply 26 = .ok (.iconst 1, 1) := by decide +kernel
theorem dX8_multiply_27 : decode cX8_multiply 27 = .ok (.putfield 26, 3) := by decide +kernel
theorem dX8_multiply_30 : decode cX8_multiply 30 = .ok (.aload_n 0, 1) := by decide +kernel
theorem dX8_multiply_31 : decode cX8_multiply 31 = .ok (.getfield 26, 3) := by decide +kernel
theorem dX8_multiply_34 : decode cX8_multiply 34 = .ok (.ifCond .le 5, 3) := by decide +kernel
theorem dX8_multiply_37 : decode cX8_multiply 37 = .ok (.iconst 0, 1) := by decide +kernel
theorem dX8_multiply_38 : decode cX8_multiply 38 = .ok (.ireturn, 1) := by decide +kernel
theorem dX8_multiply_39 : decode cX8_multiply 39 = .ok (.aload_n 0, 1) := by decide +kernel
theorem dX8_multiply_40 : decode cX8_multiply 40 = .ok (.iload_n 1, 1) := by decide +kernel
theorem dX8_multiply_41 : decode cX8_multiply 41 = .ok (.invokevirtual 39, 3) := by decide +kernel
theorem dX8_multiply_44 : decode cX8_multiply 44 = .ok (.i2l, 1) := by decide +kernel
theorem dX8_multiply_45 : decode cX8_multiply 45 = .ok (.aload_n 0, 1) := by decide +kernel
theorem dX8_multiply_46 : decode cX8_multiply 46 = .ok (.iload_n 2, 1) := by decide +kernel
theorem dX8_multiply_47 : decode cX8_multiply 47 = .ok (.invokevirtual 39, 3) := by decide +kernel
theorem dX8_multiply_50 : decode cX8_multiply 50 = .ok (.i2l, 1) := by decide +kernel
theorem dX8_multiply_51 : decode cX8_multiply 51 = .ok (.lmul, 1) := by decide +kernel
theorem dX8_multiply_52 : decode cX8_multiply 52 = .ok (.lstore 4, 2) := by decide +kernel
theorem dX8_multiply_54 : decode cX8_multiply 54 = .ok (.lload 4, 2) := by decide +kernel
theorem dX8_multiply_56 : decode cX8_multiply 56 = .ok (.ldc2_w 50, 3) := by decide +kernel
theorem dX8_multiply_59 : decode cX8_multiply 59 = .ok (.lrem, 1) := by decide +kernel
theorem dX8_multiply_60 : decode cX8_multiply 60 = .ok (.lconst 0, 1) := by decide +kernel
theorem dX8_multiply_61 : decode cX8_multiply 61 = .ok (.lcmp, 1) := by decide +kernel
theorem dX8_multiply_62 : decode cX8_multiply 62 = .ok (.ifCond .ne 16, 3) := by decide +kernel
theorem dX8_multiply_65 : decode cX8_multiply 65 = .ok (.aload_n 0, 1) := by decide +kernel
theorem dX8_multiply_66 : decode cX8_multiply 66 = .ok (.lload 4, 2) := by decide +kernel
theorem dX8_multiply_68 : decode cX8_multiply 68 = .ok (.ldc2_w 50, 3) := by decide +kernel
theorem dX8_multiply_71 : decode cX8_multiply 71 = .ok (.ldiv, 1) := by decide +kernel
theorem dX8_multiply_72 : decode cX8_multiply 72 = .ok (.invokevirtual 88, 3) := by decide +kernel
theorem dX8_multiply_75 : decode cX8_multiply 75 = .ok (.ifCond .ne 10, 3) := by decide +kernel
theorem dX8_multiply_78 : decode cX8_multiply 78 = .ok (.aload_n 0, 1) := by decide +kernel
theorem dX8_multiply_79 : decode cX8_multiply 79 = .ok (.iconst 2, 1) := by decide +kernel
theorem dX8_multiply_80 : decode cX8_multiply 80 = .ok (.putfield 26, 3) := by decide +kernel
theorem dX8_multiply_83 : decode cX8_multiply 83 = .ok (.iconst 0, 1) := by decide +kernel
theorem dX8_multiply_84 : decode cX8_multiply 84 = .ok (.ireturn, 1) := by decide +kernel
theorem dX8_multiply_85 : decode cX8_multiply 85 = .ok (.aload_n 0, 1) := by decide +kernel
theorem dX8_multiply_86 : decode cX8_multiply 86 = .ok (.iload_n 3, 1) := by decide +kernel
theorem dX8_multiply_87 : decode cX8_multiply 87 = .ok (.aload_n 0, 1) := by decide +kernel
theorem dX8_multiply_88 : decode cX8_multiply 88 = .ok (.getfield 58, 3) := by decide +kernel
theorem dX8_multiply_91 : decode cX8_multiply 91 = .ok (.aload_n 0, 1) := by decide +kernel
theorem dX8_multiply_92 : decode cX8_multiply 92 = .ok (.getfield 52, 3) := by decide +kernel
theorem dX8_multiply_95 : decode cX8_multiply 95 = .ok (.aload_n 0, 1) := by decide +kernel
theorem dX8_multiply_96 : decode cX8_multiply 96 = .ok (.getfield 17, 3) := by decide +kernel
theorem dX8_multiply_99 : decode cX8_multiply 99 = .ok (.iload_n 1, 1) := by decide +kernel
theorem dX8_multiply_100 : decode cX8_multiply 100 = .ok (.baload, 1) := by decide +kernel
theorem dX8_multiply_101 : decode cX8_multiply 101 = .ok (.aload_n 0, 1) := by decide +kernel
theorem dX8_multiply_102 : decode cX8_multiply 102 = .ok (.getfield 17, 3) := by decide +kernel
theorem dX8_multiply_105 : decode cX8_multiply 105 = .ok (.iload_n 2, 1) := by decide +kernel
theorem dX8_multiply_106 : decode cX8_multiply 106 = .ok (.baload, 1) := by decide +kernel
theorem dX8_multiply_107 : decode cX8_multiply 107 = .ok (.if_icmp .eq 7, 3) := by decide +kernel
theorem dX8_multiply_110 : decode cX8_multiply 110 = .ok (.iconst 1, 1) := by decide +kernel
theorem dX8_multiply_111 : decode cX8_multiply 111 = .ok (.goto 4, 3) := by decide +kernel
theorem dX8_multiply_114 : decode cX8_multiply 114 = .ok (.iconst 0, 1) := by decide +kernel
theorem dX8_multiply_115 : decode cX8_multiply 115 = .ok (.invokevirtual 62, 3) := by decide +kernel
theorem dX8_multiply_118 : decode cX8_multiply 118 = .ok (.iconst 1, 1) := by decide +kernel
theorem dX8_multiply_119 : decode cX8_multiply 119 = .ok (.ireturn, 1) := by decide +kernel
theorem dX8_add_0 : decode cX8_add 0 = .ok (.aload_n 0, 1) := by decide +kernel
theorem dX8_add_1 : decode cX8_add 1 = .ok (.iload_n 1, 1) := by decide +kernel
theorem dX8_add_2 : decode cX8_add 2 = .ok (.invokestatic 30, 3) := by decide +kernel
theorem dX8_add_5 : decode cX8_add 5 = .ok (.ifCond .eq 21, 3) := by decide +kernel
theorem dX8_add_8 : decode cX8_add 8 = .ok (.iload_n 2, 1) := by decide +kernel
theorem dX8_add_9 : decode cX8_add 9 = .ok (.invokestatic 30, 3) := by decide +kernel
theorem dX8_add_12 : decode cX8_add 12 = .ok (.ifCond .eq 14, 3) := by decide +kernel
theorem dX8_add_15 : decode cX8_add 15 = .ok (.iload_n 3, 1) := by decide +kernel
theorem dX8_add_16 : decode cX8_add 16 = .ok (.invokestatic 30, 3) := by decide +kernel
theorem dX8_add_19 : decode cX8_add 19 = .ok (.ifCond .eq 7, 3) := by decide +kernel
theorem dX8_add_22 : decode cX8_add 22 = .ok (.iconst 0, 1) := by decide +kernel
theorem dX8_add_23 : decode cX8_add 23 = .ok (.goto 4, 3) := by decide +kernel
theorem dX8_add_26 : decode cX8_add 26 = .ok (.iconst 1, 1) := by decide +kernel
theorem dX8_add_27 : decode cX8_add 27 = .ok (.putfield 26, 3) := by decide +kernel
theorem dX8_add_30 : decode cX8_add 30 = .ok (.aload_n 0, 1) := by decide +kernel
theorem dX8_add_31 : decode cX8_add 31 = .ok (.getfield 26, 3) := by decide +kernel
theorem dX8_add_34 : decode cX8_add 34 = .ok (.ifCond .le 5, 3) := by decide +kernel
theorem dX8_add_37 : decode cX8_add 37 = .ok (.iconst 0, 1) := by decide +kernel
theorem dX8_add_38 : decode cX8_add 38 = .ok (.ireturn, 1) := by decide +kernel
theorem dX8_add_39 : decode cX8_add 39 = .ok (.aload_n 0, 1) := by decide +kernel
theorem dX8_add_40 : decode cX8_add 40 = .ok (.getfield 17, 3) := by decide +kernel
theorem dX8_add_43 : decode cX8_add 43 = .ok (.iload_n 1, 1) := by decide +kernel
theorem dX8_add_44 : decode cX8_add 44 = .ok (.baload, 1) := by decide +kernel
theorem dX8_add_45 : decode cX8_add 45 = .ok (.ifCond .ne 30, 3) := by decide +kernel
theorem dX8_add_48 : decode cX8_add 48 = .ok (.aload_n 0, 1) := by decide +kernel
theorem dX8_add_49 : decode cX8_add 49 = .ok (.getfield 17, 3) := by decide +kernel
theorem dX8_add_52 : decode cX8_add 52 = .ok (.iload_n 2, 1) := by decide +kernel
theorem dX8_add_53 : decode cX8_add 53 = .ok (.baload, 1) := by decide +kernel
theorem dX8_add_54 : decode cX8_add 54 = .ok (.ifCond .ne 21, 3) := by decide +kernel
theorem dX8_add_57 : decode cX8_add 57 = .ok (.aload_n 0, 1) := by decide +kernel
theorem dX8_add_58 : decode cX8_add 58 = .ok (.getfield 9, 3) := by decide +kernel
theorem dX8_add_61 : decode cX8_add 61 = .ok (.iload_n 1, 1) := by decide +kernel
theorem dX8_add_62 : decode cX8_add 62 = .ok (.iaload, 1) := by decide +kernel
theorem dX8_add_63 : decode cX8_add 63 = .ok (.ifCond .eq 12, 3) := by decide +kernel
theorem dX8_add_66 : decode cX8_add 66 = .ok (.aload_n 0, 1) := by decide +kernel
theorem dX8_add_67 : decode cX8_add 67 = .ok (.getfield 9, 3) := by decide +kernel
theorem dX8_add_70 : decode cX8_add 70 = .ok (.iload_n 2, 1) := by decide +kernel
theorem dX8_add_71 : decode cX8_add 71 = .ok (.iaload, 1) := by decide +kernel
theorem dX8_add_72 : decode cX8_add 72 = .ok (.ifCond .ne 10, 3) := by decide +kernel
theorem dX8_add_75 : decode cX8_add 75 = .ok (.aload_n 0, 1) := by decide +kernel
theorem dX8_add_76 : decode cX8_add 76 = .ok (.iconst 2, 1) := by decide +kernel
theorem dX8_add_77 : decode cX8_add 77 = .ok (.putfield 26, 3) := by decide +kernel
theorem dX8_add_80 : decode cX8_add 80 = .ok (.iconst 0, 1) := by decide +kernel
theorem dX8_add_81 : decode cX8_add 81 = .ok (.ireturn, 1) := by decide +kernel
theorem dX8_add_82 : decode cX8_add 82 = .ok (.aload_n 0, 1) := by decide +kernel
theorem dX8_add_83 : decode cX8_add 83 = .ok (.aload_n 0, 1) := by decide +kernel
theorem dX8_add_84 : decode cX8_add 84 = .ok (.iload_n 1, 1) := by decide +kernel
theorem dX8_add_85 : decode cX8_add 85 = .ok (.invokevirtual 39, 3) := by decide +kernel
theorem dX8_add_88 : decode cX8_add 88 = .ok (.i2l, 1) := by decide +kernel
theorem dX8_add_89 : decode cX8_add 89 = .ok (.aload_n 0, 1) := by decide +kernel
theorem dX8_add_90 : decode cX8_add 90 = .ok (.iload_n 2, 1) := by decide +kernel
theorem dX8_add_91 : decode cX8_add 91 = .ok (.invokevirtual 39, 3) := by decide +kernel
theorem dX8_add_94 : decode cX8_add 94 = .ok (.i2l, 1) := by decide +kernel
theorem dX8_add_95 : decode cX8_add 95 = .ok (.ladd, 1) := by decide +kernel
theorem dX8_add_96 : decode cX8_add 96 = .ok (.invokevirtual 88, 3) := by decide +kernel
theorem dX8_add_99 : decode cX8_add 99 = .ok (.ifCond .ne 10, 3) := by decide +kernel
theorem dX8_add_102 : decode cX8_add 102 = .ok (.aload_n 0, 1) := by decide +kernel
theorem dX8_add_103 : decode cX8_add 103 = .ok (.iconst 3, 1) := by decide +kernel
theorem dX8_add_104 : decode cX8_add 104 = .ok (.putfield 26, 3) := by decide +kernel
theorem dX8_add_107 : decode cX8_add 107 = .ok (.iconst 0, 1) := by decide +kernel
theorem dX8_add_108 : decode cX8_add 108 = .ok (.ireturn, 1) := by decide +kernel
theorem dX8_add_109 : decode cX8_add 109 = .ok (.aload_n 0, 1) := by decide +kernel
theorem dX8_add_110 : decode cX8_add 110 = .ok (.iload_n 3, 1) := by decide +kernel
theorem dX8_add_111 : decode cX8_add 111 = .ok (.aload_n 0, 1) := by decide +kernel
theorem dX8_add_112 : decode cX8_add 112 = .ok (.getfield 58, 3) := by decide +kernel
theorem dX8_add_115 : decode cX8_add 115 = .ok (.aload_n 0, 1) := by decide +kernel
theorem dX8_add_116 : decode cX8_add 116 = .ok (.getfield 52, 3) := by decide +kernel
theorem dX8_add_119 : decode cX8_add 119 = .ok (.iconst 0, 1) := by decide +kernel
theorem dX8_add_120 : decode cX8_add 120 = .ok (.invokevirtual 62, 3) := by decide +kernel
theorem dX8_add_123 : decode cX8_add 123 = .ok (.iconst 1, 1) := by decide +kernel
theorem dX8_add_124 : decode cX8_add 124 = .ok (.ireturn, 1) := by decide +kernel
theorem dX8_find_0 : decode cX8_find 0 = .ok (.aload_n 0, 1) := by decide +kernel
theorem dX8_find_1 : decode cX8_find 1 = .ok (.iconst 0, 1) := by decide +kernel
theorem dX8_find_2 : decode cX8_find 2 = .ok (.putfield 26, 3) := by decide +kernel
theorem dX8_find_5 : decode cX8_find 5 = .ok (.iload_n 1, 1) := by decide +kernel
theorem dX8_find_6 : decode cX8_find 6 = .ok (.ifCond .gt 5, 3) := by decide +kernel
theorem dX8_find_9 : decode cX8_find 9 = .ok (.iconst 0, 1) := by decide +kernel
theorem dX8_find_10 : decode cX8_find 10 = .ok (.ireturn, 1) := by decide +kernel
theorem dX8_find_11 : decode cX8_find 11 = .ok (.iload_n 1, 1) := by decide +kernel
theorem dX8_find_12 : decode cX8_find 12 = .ok (.ldc 92, 2) := by decide +kernel
theorem dX8_find_14 : decode cX8_find 14 = .ok (.if_icmp .le 10, 3) := by decide +kernel
theorem dX8_find_17 : decode cX8_find 17 = .ok (.aload_n 0, 1) := by decide +kernel
theorem dX8_find_18 : decode cX8_find 18 = .ok (.iconst 1, 1) := by decide +kernel
theorem dX8_find_19 : decode cX8_find 19 = .ok (.putfield 26, 3) := by decide +kernel
theorem dX8_find_22 : decode cX8_find 22 = .ok (.iconst 0, 1) := by decide +kernel
theorem dX8_find_23 : decode cX8_find 23 = .ok (.ireturn, 1) := by decide +kernel
theorem dX8_find_24 : decode cX8_find 24 = .ok (.iload_n 1, 1) := by decide +kernel
theorem dX8_find_25 : decode cX8_find 25 = .ok (.i2l, 1) := by decide +kernel
theorem dX8_find_26 : decode cX8_find 26 = .ok (.iload_n 1, 1) := by decide +kernel
theorem dX8_find_27 : decode cX8_find 27 = .ok (.i2l, 1) := by decide +kernel
theorem dX8_find_28 : decode cX8_find 28 = .ok (.lmul, 1) := by decide +kernel
theorem dX8_find_29 : decode cX8_find 29 = .ok (.iload_n 1, 1) := by decide +kernel
theorem dX8_find_30 : decode cX8_find 30 = .ok (.i2l, 1) := by decide +kernel
theorem dX8_find_31 : decode cX8_find 31 = .ok (.lmul, 1) := by decide +kernel
theorem dX8_find_32 : decode cX8_find 32 = .ok (.lstore_n 3, 1) := by decide +kernel
theorem dX8_find_33 : decode cX8_find 33 = .ok (.iload_n 2, 1) := by decide +kernel
theorem dX8_find_34 : decode cX8_find 34 = .ok (.ifCond .eq 9, 3) := by decide +kernel
theorem dX8_find_37 : decode cX8_find 37 = .ok (.ldc2_w 93, 3) := by decide +kernel
theorem dX8_find_40 : decode cX8_find 40 = .ok (.goto 6, 3) := by decide +kernel
theorem dX8_find_43 : decode cX8_find 43 = .ok (.ldc2_w 95, 3) := by decide +kernel
theorem dX8_find_46 : decode cX8_find 46 = .ok (.lstore 5, 2) := by decide +kernel
theorem dX8_find_48 : decode cX8_find 48 = .ok (.lload_n 3, 1) := by decide +kernel
theorem dX8_find_49 : decode cX8_find 49 = .ok (.lload 5, 2) := by decide +kernel
theorem dX8_find_51 : decode cX8_find 51 = .ok (.ladd, 1) := by decide +kernel
theorem dX8_find_52 : decode cX8_find 52 = .ok (.lconst 1, 1) := by decide +kernel
theorem dX8_find_53 : decode cX8_find 53 = .ok (.lsub, 1) := by decide +kernel
theorem dX8_find_54 : decode cX8_find 54 = .ok (.lload 5, 2) := by decide +kernel
theorem dX8_find_56 : decode cX8_find 56 = .ok (.ldiv, 1) := by decide +kernel
theorem dX8_find_57 : decode cX8_find 57 = .ok (.lstore 7, 2) := by decide +kernel
theorem dX8_find_59 : decode cX8_find 59 = .ok (.aload_n 0, 1) := by decide +kernel
theorem dX8_find_60 : decode cX8_find 60 = .ok (.lload 7, 2) := by decide +kernel
theorem dX8_find_62 : decode cX8_find 62 = .ok (.ldc2_w 56, 3) := by decide +kernel
theorem dX8_find_65 : decode cX8_find 65 = .ok (.lcmp, 1) := by decide +kernel
theorem dX8_find_66 : decode cX8_find 66 = .ok (.ifCond .le 7, 3) := by decide +kernel
theorem dX8_find_69 : decode cX8_find 69 = .ok (.iconst 1, 1) := by decide +kernel
theorem dX8_find_70 : decode cX8_find 70 = .ok (.goto 4, 3) := by decide +kernel
theorem dX8_find_73 : decode cX8_find 73 = .ok (.iconst 0, 1) := by decide +kernel
theorem dX8_find_74 : decode cX8_find 74 = .ok (.putfield 26, 3) := by decide +kernel
theorem dX8_find_77 : decode cX8_find 77 = .ok (.aload_n 0, 1) := by decide +kernel
theorem dX8_find_78 : decode cX8_find 78 = .ok (.getfield 26, 3) := by decide +kernel
theorem dX8_find_81 : decode cX8_find 81 = .ok (.ifCond .le 7, 3) := by decide +kernel
theorem dX8_find_84 : decode cX8_find 84 = .ok (.iconst 0, 1) := by decide +kernel
theorem dX8_find_85 : decode cX8_find 85 = .ok (.goto 6, 3) := by decide +kernel
theorem dX8_find_88 : decode cX8_find 88 = .ok (.lload 7, 2) := by decide +kernel
theorem dX8_find_90 : decode cX8_find 90 = .ok (.l2i, 1) := by decide +kernel
theorem dX8_find_91 : decode cX8_find 91 = .ok (.ireturn, 1) := by decide +kernel
theorem dX8_areCounts_0 : decode cX8_areCounts 0 = .ok (.iload_n 2, 1) := by decide +kernel
theorem dX8_areCounts_1 : decode cX8_areCounts 1 = .ok (.ifCond .lt 36, 3) := by decide +kernel
theorem dX8_areCounts_4 : decode cX8_areCounts 4 = .ok (.iload_n 2, 1) := by decide +kernel
theorem dX8_areCounts_5 : decode cX8_areCounts 5 = .ok (.sipush 256, 3) := by decide +kernel
theorem dX8_areCounts_8 : decode cX8_areCounts 8 = .ok (.if_icmp .gt 29, 3) := by decide +kernel
theorem dX8_areCounts_11 : decode cX8_areCounts 11 = .ok (.iload_n 2, 1) := by decide +kernel
theorem dX8_areCounts_12 : decode cX8_areCounts 12 = .ok (.ifCond .eq 21, 3) := by decide +kernel
theorem dX8_areCounts_15 : decode cX8_areCounts 15 = .ok (.iload_n 1, 1) := by decide +kernel
theorem dX8_areCounts_16 : decode cX8_areCounts 16 = .ok (.ifCond .lt 21, 3) := by decide +kernel
theorem dX8_areCounts_19 : decode cX8_areCounts 19 = .ok (.iload_n 1, 1) := by decide +kernel
theorem dX8_areCounts_20 : decode cX8_areCounts 20 = .ok (.i2l, 1) := by decide +kernel
theorem dX8_areCounts_21 : decode cX8_areCounts 21 = .ok (.iload_n 2, 1) := by decide +kernel
theorem dX8_areCounts_22 : decode cX8_areCounts 22 = .ok (.i2l, 1) := by decide +kernel
theorem dX8_areCounts_23 : decode cX8_areCounts 23 = .ok (.ladd, 1) := by decide +kernel
theorem dX8_areCounts_24 : decode cX8_areCounts 24 = .ok (.lconst 1, 1) := by decide +kernel
theorem dX8_areCounts_25 : decode cX8_areCounts 25 = .ok (.lsub, 1) := by decide +kernel
theorem dX8_areCounts_26 : decode cX8_areCounts 26 = .ok (.ldc2_w 56, 3) := by decide +kernel
theorem dX8_areCounts_29 : decode cX8_areCounts 29 = .ok (.lcmp, 1) := by decide +kernel
theorem dX8_areCounts_30 : decode cX8_areCounts 30 = .ok (.ifCond .gt 7, 3) := by decide +kernel
theorem dX8_areCounts_33 : decode cX8_areCounts 33 = .ok (.iconst 1, 1) := by decide +kernel
theorem dX8_areCounts_34 : decode cX8_areCounts 34 = .ok (.goto 4, 3) := by decide +kernel
theorem dX8_areCounts_37 : decode cX8_areCounts 37 = .ok (.iconst 0, 1) := by decide +kernel
theorem dX8_areCounts_38 : decode cX8_areCounts 38 = .ok (.istore_n 3, 1) := by decide +kernel
theorem dX8_areCounts_39 : decode cX8_areCounts 39 = .ok (.aload_n 0, 1) := by decide +kernel
theorem dX8_areCounts_40 : decode cX8_areCounts 40 = .ok (.iload_n 3, 1) := by decide +kernel
theorem dX8_areCounts_41 : decode cX8_areCounts 41 = .ok (.ifCond .eq 7, 3) := by decide +kernel
theorem dX8_areCounts_44 : decode cX8_areCounts 44 = .ok (.iconst 0, 1) := by decide +kernel
theorem dX8_areCounts_45 : decode cX8_areCounts 45 = .ok (.goto 4, 3) := by decide +kernel
theorem dX8_areCounts_48 : decode cX8_areCounts 48 = .ok (.iconst 1, 1) := by decide +kernel
theorem dX8_areCounts_49 : decode cX8_areCounts 49 = .ok (.putfield 26, 3) := by decide +kernel
theorem dX8_areCounts_52 : decode cX8_areCounts 52 = .ok (.iload_n 3, 1) := by decide +kernel
theorem dX8_areCounts_53 : decode cX8_areCounts 53 = .ok (.ireturn, 1) := by decide +kernel
theorem dX8_sum_0 : decode cX8_sum 0 = .ok (.iconst 0, 1) := by decide +kernel
theorem dX8_sum_1 : decode cX8_sum 1 = .ok (.istore_n 3, 1) := by decide +kernel
theorem dX8_sum_2 : decode cX8_sum 2 = .ok (.aload_n 0, 1) := by decide +kernel
theorem dX8_sum_3 : decode cX8_sum 3 = .ok (.iload_n 1, 1) := by decide +kernel
theorem dX8_sum_4 : decode cX8_sum 4 = .ok (.iload_n 2, 1) := by decide +kernel
theorem dX8_sum_5 : decode cX8_sum 5 = .ok (.invokevirtual 97, 3) := by decide +kernel
theorem dX8_sum_8 : decode cX8_sum 8 = .ok (.ifCond .eq 31, 3) := by decide +kernel
theorem dX8_sum_11 : decode cX8_sum 11 = .ok (.iconst 0, 1) := by decide +kernel
theorem dX8_sum_12 : decode cX8_sum 12 = .ok (.istore 4, 2) := by decide +kernel
theorem dX8_sum_14 : decode cX8_sum 14 = .ok (.iload 4, 2) := by decide +kernel
theorem dX8_sum_16 : decode cX8_sum 16 = .ok (.iload_n 2, 1) := by decide +kernel
theorem dX8_sum_17 : decode cX8_sum 17 = .ok (.if_icmp .ge 22, 3) := by decide +kernel
theorem dX8_sum_20 : decode cX8_sum 20 = .ok (.iload_n 3, 1) := by decide +kernel
theorem dX8_sum_21 : decode cX8_sum 21 = .ok (.bipush 8, 2) := by decide +kernel
theorem dX8_sum_23 : decode cX8_sum 23 = .ok (.iload_n 1, 1) := by decide +kernel
theorem dX8_sum_24 : decode cX8_sum 24 = .ok (.iload 4, 2) := by decide +kernel
theorem dX8_sum_26 : decode cX8_sum 26 = .ok (.iadd, 1) := by decide +kernel
theorem dX8_sum_27 : decode cX8_sum 27 = .ok (.imul, 1) := by decide +kernel
theorem dX8_sum_28 : decode cX8_sum 28 = .ok (.invokestatic 47, 3) := by decide +kernel
theorem dX8_sum_31 : decode cX8_sum 31 = .ok (.iadd, 1) := by decide +kernel
theorem dX8_sum_32 : decode cX8_sum 32 = .ok (.istore_n 3, 1) := by decide +kernel
theorem dX8_sum_33 : decode cX8_sum 33 = .ok (.iinc 4 1, 3) := by decide +kernel
theorem dX8_sum_36 : decode cX8_sum 36 = .ok (.goto (-22), 3) := by decide +kernel
theorem dX8_sum_39 : decode cX8_sum 39 = .ok (.iload_n 3, 1) := by decide +kernel
theorem dX8_sum_40 : decode cX8_sum 40 = .ok (.ireturn, 1) := by decide +kernel
theorem dX8_exact_0 : decode cX8_exact 0 = .ok (.iconst 0, 1) := by decide +kernel
theorem dX8_exact_1 : decode cX8_exact 1 = .ok (.istore_n 3, 1) := by decide +kernel
theorem dX8_exact_2 : decode cX8_exact 2 = .ok (.aload_n 0, 1) := by decide +kernel
theorem dX8_exact_3 : decode cX8_exact 3 = .ok (.iload_n 1, 1) := by decide +kernel
theorem dX8_exact_4 : decode cX8_exact 4 = .ok (.iload_n 2, 1) := by decide +kernel
theorem dX8_exact_5 : decode cX8_exact 5 = .ok (.invokevirtual 97, 3) := by decide +kernel
theorem dX8_exact_8 : decode cX8_exact 8 = .ok (.ifCond .eq 36, 3) := by decide +kernel
theorem dX8_exact_11 : decode cX8_exact 11 = .ok (.iconst 0, 1) := by decide +kernel
theorem dX8_exact_12 : decode cX8_exact 12 = .ok (.istore 4, 2) := by decide +kernel
theorem dX8_exact_14 : decode cX8_exact 14 = .ok (.iload 4, 2) := by decide +kernel
theorem dX8_exact_16 : decode cX8_exact 16 = .ok (.iload_n 2, 1) := by decide +kernel
theorem dX8_exact_17 : decode cX8_exact 17 = .ok (.if_icmp .ge 27, 3) := by decide +kernel
theorem dX8_exact_20 : decode cX8_exact 20 = .ok (.iload_n 3, 1) := by decide +kernel
theorem dX8_exact_21 : decode cX8_exact 21 = .ok (.iload_n 1, 1) := by decide +kernel
theorem dX8_exact_22 : decode cX8_exact 22 = .ok (.iload 4, 2) := by decide +kernel
theorem dX8_exact_24 : decode cX8_exact 24 = .ok (.iadd, 1) := by decide +kernel
theorem dX8_exact_25 : decode cX8_exact 25 = .ok (.invokestatic 77, 3) := by decide +kernel
theorem dX8_exact_28 : decode cX8_exact 28 = .ok (.ifCond .lt 7, 3) := by decide +kernel
theorem dX8_exact_31 : decode cX8_exact 31 = .ok (.iconst 1, 1) := by decide +kernel
theorem dX8_exact_32 : decode cX8_exact 32 = .ok (.goto 4, 3) := by decide +kernel
theorem dX8_exact_35 : decode cX8_exact 35 = .ok (.iconst 0, 1) := by decide +kernel
theorem dX8_exact_36 : decode cX8_exact 36 = .ok (.iadd, 1) := by decide +kernel
theorem dX8_exact_37 : decode cX8_exact 37 = .ok (.istore_n 3, 1) := by decide +kernel
theorem dX8_exact_38 : decode cX8_exact 38 = .ok (.iinc 4 1, 3) := by decide +kernel
theorem dX8_exact_41 : decode cX8_exact 41 = .ok (.goto (-27), 3) := by decide +kernel
theorem dX8_exact_44 : decode cX8_exact 44 = .ok (.iload_n 3, 1) := by decide +kernel
theorem dX8_exact_45 : decode cX8_exact 45 = .ok (.ireturn, 1) := by decide +kernel
theorem dX8_laidFine_0 : decode cX8_laidFine 0 = .ok (.aload_n 0, 1) := by decide +kernel
theorem dX8_laidFine_1 : decode cX8_laidFine 1 = .ok (.getfield 20, 3) := by decide +kernel
theorem dX8_laidFine_4 : decode cX8_laidFine 4 = .ok (.iload_n 1, 1) := by decide +kernel
theorem dX8_laidFine_5 : decode cX8_laidFine 5 = .ok (.iaload, 1) := by decide +kernel
theorem dX8_laidFine_6 : decode cX8_laidFine 6 = .ok (.aload_n 0, 1) := by decide +kernel
theorem dX8_laidFine_7 : decode cX8_laidFine 7 = .ok (.getfield 23, 3) := by decide +kernel
theorem dX8_laidFine_10 : decode cX8_laidFine 10 = .ok (.iload_n 1, 1) := by decide +kernel
theorem dX8_laidFine_11 : decode cX8_laidFine 11 = .ok (.baload, 1) := by decide +kernel
theorem dX8_laidFine_12 : decode cX8_laidFine 12 = .ok (.invokestatic 35, 3) := by decide +kernel
theorem dX8_laidFine_15 : decode cX8_laidFine 15 = .ok (.invokestatic 47, 3) := by decide +kernel
theorem dX8_laidFine_18 : decode cX8_laidFine 18 = .ok (.ireturn, 1) := by decide +kernel
theorem dX8_height_0 : decode cX8_height 0 = .ok (.iconst 0, 1) := by decide +kernel
theorem dX8_height_1 : decode cX8_height 1 = .ok (.istore_n 1, 1) := by decide +kernel
theorem dX8_height_2 : decode cX8_height 2 = .ok (.iconst 0, 1) := by decide +kernel
theorem dX8_height_3 : decode cX8_height 3 = .ok (.istore_n 2, 1) := by decide +kernel
theorem dX8_height_4 : decode cX8_height 4 = .ok (.iload_n 2, 1) := by decide +kernel
theorem dX8_height_5 : decode cX8_height 5 = .ok (.aload_n 0, 1) := by decide +kernel
theorem dX8_height_6 : decode cX8_height 6 = .ok (.getfield 100, 3) := by decide +kernel
theorem dX8_height_9 : decode cX8_height 9 = .ok (.if_icmp .ge 17, 3) := by decide +kernel
theorem dX8_height_12 : decode cX8_height 12 = .ok (.iload_n 1, 1) := by decide +kernel
theorem dX8_height_13 : decode cX8_height 13 = .ok (.aload_n 0, 1) := by decide +kernel
theorem dX8_height_14 : decode cX8_height 14 = .ok (.iload_n 2, 1) := by decide +kernel
theorem dX8_height_15 : decode cX8_height 15 = .ok (.invokevirtual 103, 3) := by decide +kernel
theorem dX8_height_18 : decode cX8_height 18 = .ok (.iadd, 1) := by decide +kernel
theorem dX8_height_19 : decode cX8_height 19 = .ok (.istore_n 1, 1) := by decide +kernel
theorem dX8_height_20 : decode cX8_height 20 = .ok (.iinc 2 1, 3) := by decide +kernel
theorem dX8_height_23 : decode cX8_height 23 = .ok (.goto (-19), 3) := by decide +kernel
theorem dX8_height_26 : decode cX8_height 26 = .ok (.iload_n 1, 1) := by decide +kernel
theorem dX8_height_27 : decode cX8_height 27 = .ok (.ireturn, 1) := by decide +kernel
theorem dX8_lay_0 : decode cX8_lay 0 = .ok (.aload_n 0, 1) := by decide +kernel
theorem dX8_lay_1 : decode cX8_lay 1 = .ok (.iload_n 1, 1) := by decide +kernel
theorem dX8_lay_2 : decode cX8_lay 2 = .ok (.invokestatic 30, 3) := by decide +kernel
theorem dX8_lay_5 : decode cX8_lay 5 = .ok (.ifCond .ne 7, 3) := by decide +kernel
theorem dX8_lay_8 : decode cX8_lay 8 = .ok (.iconst 1, 1) := by decide +kernel
theorem dX8_lay_9 : decode cX8_lay 9 = .ok (.goto 39, 3) := by decide +kernel
theorem dX8_lay_12 : decode cX8_lay 12 = .ok (.aload_n 0, 1) := by decide +kernel
theorem dX8_lay_13 : decode cX8_lay 13 = .ok (.getfield 17, 3) := by decide +kernel
theorem dX8_lay_16 : decode cX8_lay 16 = .ok (.iload_n 1, 1) := by decide +kernel
theorem dX8_lay_17 : decode cX8_lay 17 = .ok (.baload, 1) := by decide +kernel
theorem dX8_lay_18 : decode cX8_lay 18 = .ok (.ifCond .ne 12, 3) := by decide +kernel
theorem dX8_lay_21 : decode cX8_lay 21 = .ok (.aload_n 0, 1) := by decide +kernel
theorem dX8_lay_22 : decode cX8_lay 22 = .ok (.getfield 9, 3) := by decide +kernel
theorem dX8_lay_25 : decode cX8_lay 25 = .ok (.iload_n 1, 1) := by decide +kernel
theorem dX8_lay_26 : decode cX8_lay 26 = .ok (.iaload, 1) := by decide +kernel
theorem dX8_lay_27 : decode cX8_lay 27 = .ok (.ifCond .ne 7, 3) := by decide +kernel
theorem dX8_lay_30 : decode cX8_lay 30 = .ok (.iconst 2, 1) := by decide +kernel
theorem dX8_lay_31 : decode cX8_lay 31 = .ok (.goto 17, 3) := by decide +kernel
theorem dX8_lay_34 : decode cX8_lay 34 = .ok (.aload_n 0, 1) := by decide +kernel
theorem dX8_lay_35 : decode cX8_lay 35 = .ok (.getfield 100, 3) := by decide +kernel
theorem dX8_lay_38 : decode cX8_lay 38 = .ok (.bipush 60, 2) := by decide +kernel
theorem dX8_lay_40 : decode cX8_lay 40 = .ok (.if_icmp .ne 7, 3) := by decide +kernel
theorem dX8_lay_43 : decode cX8_lay 43 = .ok (.iconst 3, 1) := by decide +kernel
theorem dX8_lay_44 : decode cX8_lay 44 = .ok (.goto 4, 3) := by decide +kernel
theorem dX8_lay_47 : decode cX8_lay 47 = .ok (.iconst 0, 1) := by decide +kernel
theorem dX8_lay_48 : decode cX8_lay 48 = .ok (.putfield 26, 3) := by decide +kernel
theorem dX8_lay_51 : decode cX8_lay 51 = .ok (.aload_n 0, 1) := by decide +kernel
theorem dX8_lay_52 : decode cX8_lay 52 = .ok (.getfield 26, 3) := by decide +kernel
theorem dX8_lay_55 : decode cX8_lay 55 = .ok (.ifCond .le 5, 3) := by decide +kernel
theorem dX8_lay_58 : decode cX8_lay 58 = .ok (.iconst 0, 1) := by decide +kernel
theorem dX8_lay_59 : decode cX8_lay 59 = .ok (.ireturn, 1) := by decide +kernel
theorem dX8_lay_60 : decode cX8_lay 60 = .ok (.aload_n 0, 1) := by decide +kernel
theorem dX8_lay_61 : decode cX8_lay 61 = .ok (.getfield 20, 3) := by decide +kernel
theorem dX8_lay_64 : decode cX8_lay 64 = .ok (.aload_n 0, 1) := by decide +kernel
theorem dX8_lay_65 : decode cX8_lay 65 = .ok (.getfield 100, 3) := by decide +kernel
theorem dX8_lay_68 : decode cX8_lay 68 = .ok (.aload_n 0, 1) := by decide +kernel
theorem dX8_lay_69 : decode cX8_lay 69 = .ok (.getfield 9, 3) := by decide +kernel
theorem dX8_lay_72 : decode cX8_lay 72 = .ok (.iload_n 1, 1) := by decide +kernel
theorem dX8_lay_73 : decode cX8_lay 73 = .ok (.iaload, 1) := by decide +kernel
theorem dX8_lay_74 : decode cX8_lay 74 = .ok (.iastore, 1) := by decide +kernel
theorem dX8_lay_75 : decode cX8_lay 75 = .ok (.aload_n 0, 1) := by decide +kernel
theorem dX8_lay_76 : decode cX8_lay 76 = .ok (.getfield 23, 3) := by decide +kernel
theorem dX8_lay_79 : decode cX8_lay 79 = .ok (.aload_n 0, 1) := by decide +kernel
theorem dX8_lay_80 : decode cX8_lay 80 = .ok (.getfield 100, 3) := by decide +kernel
theorem dX8_lay_83 : decode cX8_lay 83 = .ok (.aload_n 0, 1) := by decide +kernel
theorem dX8_lay_84 : decode cX8_lay 84 = .ok (.getfield 13, 3) := by decide +kernel
theorem dX8_lay_87 : decode cX8_lay 87 = .ok (.iload_n 1, 1) := by decide +kernel
theorem dX8_lay_88 : decode cX8_lay 88 = .ok (.baload, 1) := by decide +kernel
theorem dX8_lay_89 : decode cX8_lay 89 = .ok (.bastore, 1) := by decide +kernel
theorem dX8_lay_90 : decode cX8_lay 90 = .ok (.aload_n 0, 1) := by decide +kernel
theorem dX8_lay_91 : decode cX8_lay 91 = .ok (.dup, 1) := by decide +kernel
theorem dX8_lay_92 : decode cX8_lay 92 = .ok (.getfield 100, 3) := by decide +kernel
theorem dX8_lay_95 : decode cX8_lay 95 = .ok (.iconst 1, 1) := by decide +kernel
theorem dX8_lay_96 : decode cX8_lay 96 = .ok (.iadd, 1) := by decide +kernel
theorem dX8_lay_97 : decode cX8_lay 97 = .ok (.putfield 100, 3) := by decide +kernel
theorem dX8_lay_100 : decode cX8_lay 100 = .ok (.aload_n 0, 1) := by decide +kernel
theorem dX8_lay_101 : decode cX8_lay 101 = .ok (.invokevirtual 106, 3) := by decide +kernel
theorem dX8_lay_104 : decode cX8_lay 104 = .ok (.ireturn, 1) := by decide +kernel
theorem dX8_lift_0 : decode cX8_lift 0 = .ok (.aload_n 0, 1) := by decide +kernel
theorem dX8_lift_1 : decode cX8_lift 1 = .ok (.iload_n 1, 1) := by decide +kernel
theorem dX8_lift_2 : decode cX8_lift 2 = .ok (.invokestatic 30, 3) := by decide +kernel
theorem dX8_lift_5 : decode cX8_lift 5 = .ok (.ifCond .ne 7, 3) := by decide +kernel
theorem dX8_lift_8 : decode cX8_lift 8 = .ok (.iconst 1, 1) := by decide +kernel
theorem dX8_lift_9 : decode cX8_lift 9 = .ok (.goto 15, 3) := by decide +kernel
theorem dX8_lift_12 : decode cX8_lift 12 = .ok (.aload_n 0, 1) := by decide +kernel
theorem dX8_lift_13 : decode cX8_lift 13 = .ok (.getfield 100, 3) := by decide +kernel
theorem dX8_lift_16 : decode cX8_lift 16 = .ok (.ifCond .ne 7, 3) := by decide +kernel
theorem dX8_lift_19 : decode cX8_lift 19 = .ok (.iconst 2, 1) := by decide +kernel
theorem dX8_lift_20 : decode cX8_lift 20 = .ok (.goto 4, 3) := by decide +kernel
theorem dX8_lift_23 : decode cX8_lift 23 = .ok (.iconst 0, 1) := by decide +kernel
theorem dX8_lift_24 : decode cX8_lift 24 = .ok (.putfield 26, 3) := by decide +kernel
theorem dX8_lift_27 : decode cX8_lift 27 = .ok (.aload_n 0, 1) := by decide +kernel
theorem dX8_lift_28 : decode cX8_lift 28 = .ok (.getfield 26, 3) := by decide +kernel
theorem dX8_lift_31 : decode cX8_lift 31 = .ok (.ifCond .le 5, 3) := by decide +kernel
theorem dX8_lift_34 : decode cX8_lift 34 = .ok (.iconst 0, 1) := by decide +kernel
theorem dX8_lift_35 : decode cX8_lift 35 = .ok (.ireturn, 1) := by decide +kernel
theorem dX8_lift_36 : decode cX8_lift 36 = .ok (.aload_n 0, 1) := by decide +kernel
theorem dX8_lift_37 : decode cX8_lift 37 = .ok (.dup, 1) := by decide +kernel
theorem dX8_lift_38 : decode cX8_lift 38 = .ok (.getfield 100, 3) := by decide +kernel
theorem dX8_lift_41 : decode cX8_lift 41 = .ok (.iconst 1, 1) := by decide +kernel
theorem dX8_lift_42 : decode cX8_lift 42 = .ok (.isub, 1) := by decide +kernel
theorem dX8_lift_43 : decode cX8_lift 43 = .ok (.putfield 100, 3) := by decide +kernel
theorem dX8_lift_46 : decode cX8_lift 46 = .ok (.aload_n 0, 1) := by decide +kernel
theorem dX8_lift_47 : decode cX8_lift 47 = .ok (.iload_n 1, 1) := by decide +kernel
theorem dX8_lift_48 : decode cX8_lift 48 = .ok (.aload_n 0, 1) := by decide +kernel
theorem dX8_lift_49 : decode cX8_lift 49 = .ok (.getfield 20, 3) := by decide +kernel
theorem dX8_lift_52 : decode cX8_lift 52 = .ok (.aload_n 0, 1) := by decide +kernel
theorem dX8_lift_53 : decode cX8_lift 53 = .ok (.getfield 100, 3) := by decide +kernel
theorem dX8_lift_56 : decode cX8_lift 56 = .ok (.iaload, 1) := by decide +kernel
theorem dX8_lift_57 : decode cX8_lift 57 = .ok (.aload_n 0, 1) := by decide +kernel
theorem dX8_lift_58 : decode cX8_lift 58 = .ok (.getfield 23, 3) := by decide +kernel
theorem dX8_lift_61 : decode cX8_lift 61 = .ok (.aload_n 0, 1) := by decide +kernel
theorem dX8_lift_62 : decode cX8_lift 62 = .ok (.getfield 100, 3) := by decide +kernel
theorem dX8_lift_65 : decode cX8_lift 65 = .ok (.baload, 1) := by decide +kernel
theorem dX8_lift_66 : decode cX8_lift 66 = .ok (.iconst 0, 1) := by decide +kernel
theorem dX8_lift_67 : decode cX8_lift 67 = .ok (.invokevirtual 62, 3) := by decide +kernel
theorem dX8_lift_70 : decode cX8_lift 70 = .ok (.aload_n 0, 1) := by decide +kernel
theorem dX8_lift_71 : decode cX8_lift 71 = .ok (.invokevirtual 106, 3) := by decide +kernel
theorem dX8_lift_74 : decode cX8_lift 74 = .ok (.ireturn, 1) := by decide +kernel
theorem dX8_under_0 : decode cX8_under 0 = .ok (.aload_n 0, 1) := by decide +kernel
theorem dX8_under_1 : decode cX8_under 1 = .ok (.iconst 0, 1) := by decide +kernel
theorem dX8_under_2 : decode cX8_under 2 = .ok (.putfield 26, 3) := by decide +kernel
theorem dX8_under_5 : decode cX8_under 5 = .ok (.iconst 0, 1) := by decide +kernel
theorem dX8_under_6 : decode cX8_under 6 = .ok (.istore_n 2, 1) := by decide +kernel
theorem dX8_under_7 : decode cX8_under 7 = .ok (.lconst 0, 1) := by decide +kernel
theorem dX8_under_8 : decode cX8_under 8 = .ok (.lstore_n 3, 1) := by decide +kernel
theorem dX8_under_9 : decode cX8_under 9 = .ok (.iconst 0, 1) := by decide +kernel
theorem dX8_under_10 : decode cX8_under 10 = .ok (.istore 5, 2) := by decide +kernel
theorem dX8_under_12 : decode cX8_under 12 = .ok (.iload 5, 2) := by decide +kernel
theorem dX8_under_14 : decode cX8_under 14 = .ok (.aload_n 0, 1) := by decide +kernel
theorem dX8_under_15 : decode cX8_under 15 = .ok (.getfield 100, 3) := by decide +kernel
theorem dX8_under_18 : decode cX8_under 18 = .ok (.if_icmp .ge 35, 3) := by decide +kernel
theorem dX8_under_21 : decode cX8_under 21 = .ok (.lload_n 3, 1) := by decide +kernel
theorem dX8_under_22 : decode cX8_under 22 = .ok (.aload_n 0, 1) := by decide +kernel
theorem dX8_under_23 : decode cX8_under 23 = .ok (.iload 5, 2) := by decide +kernel
theorem dX8_under_25 : decode cX8_under 25 = .ok (.invokevirtual 103, 3) := by decide +kernel
theorem dX8_under_28 : decode cX8_under 28 = .ok (.i2l, 1) := by decide +kernel
theorem dX8_under_29 : decode cX8_under 29 = .ok (.ladd, 1) := by decide +kernel
theorem dX8_under_30 : decode cX8_under 30 = .ok (.lstore_n 3, 1) := by decide +kernel
theorem dX8_under_31 : decode cX8_under 31 = .ok (.lload_n 3, 1) := by decide +kernel
theorem dX8_under_32 : decode cX8_under 32 = .ok (.iload_n 1, 1) := by decide +kernel
theorem dX8_under_33 : decode cX8_under 33 = .ok (.i2l, 1) := by decide +kernel
theorem dX8_under_34 : decode cX8_under 34 = .ok (.lcmp, 1) := by decide +kernel
theorem dX8_under_35 : decode cX8_under 35 = .ok (.ifCond .gt 10, 3) := by decide +kernel
theorem dX8_under_38 : decode cX8_under 38 = .ok (.iload 5, 2) := by decide +kernel
theorem dX8_under_40 : decode cX8_under 40 = .ok (.iconst 1, 1) := by decide +kernel
theorem dX8_under_41 : decode cX8_under 41 = .ok (.iadd, 1) := by decide +kernel
theorem dX8_under_42 : decode cX8_under 42 = .ok (.goto 4, 3) := by decide +kernel
theorem dX8_under_45 : decode cX8_under 45 = .ok (.iload_n 2, 1) := by decide +kernel
theorem dX8_under_46 : decode cX8_under 46 = .ok (.istore_n 2, 1) := by decide +kernel
theorem dX8_under_47 : decode cX8_under 47 = .ok (.iinc 5 1, 3) := by decide +kernel
theorem dX8_under_50 : decode cX8_under 50 = .ok (.goto (-38), 3) := by decide +kernel
theorem dX8_under_53 : decode cX8_under 53 = .ok (.iload_n 2, 1) := by decide +kernel
theorem dX8_under_54 : decode cX8_under 54 = .ok (.ireturn, 1) := by decide +kernel
theorem dX8_melt_0 : decode cX8_melt 0 = .ok (.aload_n 0, 1) := by decide +kernel
theorem dX8_melt_1 : decode cX8_melt 1 = .ok (.iload_n 1, 1) := by decide +kernel
theorem dX8_melt_2 : decode cX8_melt 2 = .ok (.invokestatic 30, 3) := by decide +kernel
theorem dX8_melt_5 : decode cX8_melt 5 = .ok (.ifCond .ne 7, 3) := by decide +kernel
theorem dX8_melt_8 : decode cX8_melt 8 = .ok (.iconst 1, 1) := by decide +kernel
theorem dX8_melt_9 : decode cX8_melt 9 = .ok (.goto 15, 3) := by decide +kernel
theorem dX8_melt_12 : decode cX8_melt 12 = .ok (.aload_n 0, 1) := by decide +kernel
theorem dX8_melt_13 : decode cX8_melt 13 = .ok (.getfield 100, 3) := by decide +kernel
theorem dX8_melt_16 : decode cX8_melt 16 = .ok (.ifCond .ne 7, 3) := by decide +kernel
theorem dX8_melt_19 : decode cX8_melt 19 = .ok (.iconst 2, 1) := by decide +kernel
theorem dX8_melt_20 : decode cX8_melt 20 = .ok (.goto 4, 3) := by decide +kernel
theorem dX8_melt_23 : decode cX8_melt 23 = .ok (.iconst 0, 1) := by decide +kernel
theorem dX8_melt_24 : decode cX8_melt 24 = .ok (.putfield 26, 3) := by decide +kernel
theorem dX8_melt_27 : decode cX8_melt 27 = .ok (.aload_n 0, 1) := by decide +kernel
theorem dX8_melt_28 : decode cX8_melt 28 = .ok (.getfield 26, 3) := by decide +kernel
theorem dX8_melt_31 : decode cX8_melt 31 = .ok (.ifCond .le 5, 3) := by decide +kernel
theorem dX8_melt_34 : decode cX8_melt 34 = .ok (.iconst 0, 1) := by decide +kernel
theorem dX8_melt_35 : decode cX8_melt 35 = .ok (.ireturn, 1) := by decide +kernel
theorem dX8_melt_36 : decode cX8_melt 36 = .ok (.lconst 0, 1) := by decide +kernel
theorem dX8_melt_37 : decode cX8_melt 37 = .ok (.lstore_n 2, 1) := by decide +kernel
theorem dX8_melt_38 : decode cX8_melt 38 = .ok (.iconst 0, 1) := by decide +kernel
theorem dX8_melt_39 : decode cX8_melt 39 = .ok (.istore 4, 2) := by decide +kernel
theorem dX8_melt_41 : decode cX8_melt 41 = .ok (.iload 4, 2) := by decide +kernel
theorem dX8_melt_43 : decode cX8_melt 43 = .ok (.aload_n 0, 1) := by decide +kernel
theorem dX8_melt_44 : decode cX8_melt 44 = .ok (.getfield 100, 3) := by decide +kernel
theorem dX8_melt_47 : decode cX8_melt 47 = .ok (.if_icmp .ge 30, 3) := by decide +kernel
theorem dX8_melt_50 : decode cX8_melt 50 = .ok (.lload_n 2, 1) := by decide +kernel
theorem dX8_melt_51 : decode cX8_melt 51 = .ok (.aload_n 0, 1) := by decide +kernel
theorem dX8_melt_52 : decode cX8_melt 52 = .ok (.getfield 20, 3) := by decide +kernel
theorem dX8_melt_55 : decode cX8_melt 55 = .ok (.iload 4, 2) := by decide +kernel
theorem dX8_melt_57 : decode cX8_melt 57 = .ok (.iaload, 1) := by decide +kernel
theorem dX8_melt_58 : decode cX8_melt 58 = .ok (.aload_n 0, 1) := by decide +kernel
theorem dX8_melt_59 : decode cX8_melt 59 = .ok (.getfield 23, 3) := by decide +kernel
theorem dX8_melt_62 : decode cX8_melt 62 = .ok (.iload 4, 2) := by decide +kernel
theorem dX8_melt_64 : decode cX8_melt 64 = .ok (.baload, 1) := by decide +kernel
theorem dX8_melt_65 : decode cX8_melt 65 = .ok (.invokestatic 35, 3) := by decide +kernel
theorem dX8_melt_68 : decode cX8_melt 68 = .ok (.i2l, 1) := by decide +kernel
theorem dX8_melt_69 : decode cX8_melt 69 = .ok (.ladd, 1) := by decide +kernel
theorem dX8_melt_70 : decode cX8_melt 70 = .ok (.lstore_n 2, 1) := by decide +kernel
theorem dX8_melt_71 : decode cX8_melt 71 = .ok (.iinc 4 1, 3) := by decide +kernel
theorem dX8_melt_74 : decode cX8_melt 74 = .ok (.goto (-33), 3) := by decide +kernel
theorem dX8_melt_77 : decode cX8_melt 77 = .ok (.aload_n 0, 1) := by decide +kernel
theorem dX8_melt_78 : decode cX8_melt 78 = .ok (.lload_n 2, 1) := by decide +kernel
theorem dX8_melt_79 : decode cX8_melt 79 = .ok (.invokevirtual 88, 3) := by decide +kernel
theorem dX8_melt_82 : decode cX8_melt 82 = .ok (.ifCond .ne 10, 3) := by decide +kernel
theorem dX8_melt_85 : decode cX8_melt 85 = .ok (.aload_n 0, 1) := by decide +kernel
theorem dX8_melt_86 : decode cX8_melt 86 = .ok (.iconst 3, 1) := by decide +kernel
theorem dX8_melt_87 : decode cX8_melt 87 = .ok (.putfield 26, 3) := by decide +kernel
theorem dX8_melt_90 : decode cX8_melt 90 = .ok (.iconst 0, 1) := by decide +kernel
theorem dX8_melt_91 : decode cX8_melt 91 = .ok (.ireturn, 1) := by decide +kernel
theorem dX8_melt_92 : decode cX8_melt 92 = .ok (.aload_n 0, 1) := by decide +kernel
theorem dX8_melt_93 : decode cX8_melt 93 = .ok (.invokevirtual 106, 3) := by decide +kernel
theorem dX8_melt_96 : decode cX8_melt 96 = .ok (.istore 4, 2) := by decide +kernel
theorem dX8_melt_98 : decode cX8_melt 98 = .ok (.aload_n 0, 1) := by decide +kernel
theorem dX8_melt_99 : decode cX8_melt 99 = .ok (.iconst 0, 1) := by decide +kernel
theorem dX8_melt_100 : decode cX8_melt 100 = .ok (.putfield 100, 3) := by decide +kernel
theorem dX8_melt_103 : decode cX8_melt 103 = .ok (.aload_n 0, 1) := by decide +kernel
theorem dX8_melt_104 : decode cX8_melt 104 = .ok (.iload_n 1, 1) := by decide +kernel
theorem dX8_melt_105 : decode cX8_melt 105 = .ok (.aload_n 0, 1) := by decide +kernel
theorem dX8_melt_106 : decode cX8_melt 106 = .ok (.getfield 58, 3) := by decide +kernel
theorem dX8_melt_109 : decode cX8_melt 109 = .ok (.aload_n 0, 1) := by decide +kernel
theorem dX8_melt_110 : decode cX8_melt 110 = .ok (.getfield 52, 3) := by decide +kernel
theorem dX8_melt_113 : decode cX8_melt 113 = .ok (.iconst 0, 1) := by decide +kernel
theorem dX8_melt_114 : decode cX8_melt 114 = .ok (.invokevirtual 62, 3) := by decide +kernel
theorem dX8_melt_117 : decode cX8_melt 117 = .ok (.iload 4, 2) := by decide +kernel
theorem dX8_melt_119 : decode cX8_melt 119 = .ok (.aload_n 0, 1) := by decide +kernel
theorem dX8_melt_120 : decode cX8_melt 120 = .ok (.iload_n 1, 1) := by decide +kernel
theorem dX8_melt_121 : decode cX8_melt 121 = .ok (.invokevirtual 66, 3) := by decide +kernel
theorem dX8_melt_124 : decode cX8_melt 124 = .ok (.isub, 1) := by decide +kernel
theorem dX8_melt_125 : decode cX8_melt 125 = .ok (.ireturn, 1) := by decide +kernel
theorem dX8_upperShare_0 : decode cX8_upperShare 0 = .ok (.aload_n 0, 1) := by decide +kernel
theorem dX8_upperShare_1 : decode cX8_upperShare 1 = .ok (.iconst 0, 1) := by decide +kernel
theorem dX8_upperShare_2 : decode cX8_upperShare 2 = .ok (.putfield 26, 3) := by decide +kernel
theorem dX8_upperShare_5 : decode cX8_upperShare 5 = .ok (.aload_n 0, 1) := by decide +kernel
theorem dX8_upperShare_6 : decode cX8_upperShare 6 = .ok (.getfield 100, 3) := by decide +kernel
theorem dX8_upperShare_9 : decode cX8_upperShare 9 = .ok (.ifCond .ne 7, 3) := by decide +kernel
theorem dX8_upperShare_12 : decode cX8_upperShare 12 = .ok (.fconst 0, 1) := by decide +kernel
theorem dX8_upperShare_13 : decode cX8_upperShare 13 = .ok (.goto 20, 3) := by decide +kernel
theorem dX8_upperShare_16 : decode cX8_upperShare 16 = .ok (.aload_n 0, 1) := by decide +kernel
theorem dX8_upperShare_17 : decode cX8_upperShare 17 = .ok (.aload_n 0, 1) := by decide +kernel
theorem dX8_upperShare_18 : decode cX8_upperShare 18 = .ok (.getfield 100, 3) := by decide +kernel
theorem dX8_upperShare_21 : decode cX8_upperShare 21 = .ok (.iconst 1, 1) := by decide +kernel
theorem dX8_upperShare_22 : decode cX8_upperShare 22 = .ok (.isub, 1) := by decide +kernel
theorem dX8_upperShare_23 : decode cX8_upperShare 23 = .ok (.invokevirtual 103, 3) := by decide +kernel
theorem dX8_upperShare_26 : decode cX8_upperShare 26 = .ok (.i2f, 1) := by decide +kernel
theorem dX8_upperShare_27 : decode cX8_upperShare 27 = .ok (.aload_n 0, 1) := by decide +kernel
theorem dX8_upperShare_28 : decode cX8_upperShare 28 = .ok (.invokevirtual 106, 3) := by decide +kernel
theorem dX8_upperShare_31 : decode cX8_upperShare 31 = .ok (.i2f, 1) := by decide +kernel
theorem dX8_upperShare_32 : decode cX8_upperShare 32 = .ok (.fdiv, 1) := by decide +kernel
theorem dX8_upperShare_33 : decode cX8_upperShare 33 = .ok (.freturn, 1) := by decide +kernel
theorem dX8_checksum_0 : decode cX8_checksum 0 = .ok (.aload_n 0, 1) := by decide +kernel
theorem dX8_checksum_1 : decode cX8_checksum 1 = .ok (.iconst 0, 1) := by decide +kernel
theorem dX8_checksum_2 : decode cX8_checksum 2 = .ok (.putfield 26, 3) := by decide +kernel
theorem dX8_checksum_5 : decode cX8_checksum 5 = .ok (.ldc2_w 110, 3) := by decide +kernel
theorem dX8_checksum_8 : decode cX8_checksum 8 = .ok (.lstore_n 1, 1) := by decide +kernel
theorem dX8_checksum_9 : decode cX8_checksum 9 = .ok (.iconst 0, 1) := by decide +kernel
theorem dX8_checksum_10 : decode cX8_checksum 10 = .ok (.istore_n 3, 1) := by decide +kernel
theorem dX8_checksum_11 : decode cX8_checksum 11 = .ok (.iload_n 3, 1) := by decide +kernel
theorem dX8_checksum_12 : decode cX8_checksum 12 = .ok (.bipush 8, 2) := by decide +kernel
theorem dX8_checksum_14 : decode cX8_checksum 14 = .ok (.if_icmp .ge 73, 3) := by decide +kernel
theorem dX8_checksum_17 : decode cX8_checksum 17 = .ok (.ldc2_w 112, 3) := by decide +kernel
theorem dX8_checksum_20 : decode cX8_checksum 20 = .ok (.lload_n 1, 1) := by decide +kernel
theorem dX8_checksum_21 : decode cX8_checksum 21 = .ok (.lmul, 1) := by decide +kernel
theorem dX8_checksum_22 : decode cX8_checksum 22 = .ok (.aload_n 0, 1) := by decide +kernel
theorem dX8_checksum_23 : decode cX8_checksum 23 = .ok (.iload_n 3, 1) := by decide +kernel
theorem dX8_checksum_24 : decode cX8_checksum 24 = .ok (.invokevirtual 72, 3) := by decide +kernel
theorem dX8_checksum_27 : decode cX8_checksum 27 = .ok (.i2l, 1) := by decide +kernel
theorem dX8_checksum_28 : decode cX8_checksum 28 = .ok (.ladd, 1) := by decide +kernel
theorem dX8_checksum_29 : decode cX8_checksum 29 = .ok (.lstore_n 1, 1) := by decide +kernel
theorem dX8_checksum_30 : decode cX8_checksum 30 = .ok (.ldc2_w 112, 3) := by decide +kernel
theorem dX8_checksum_33 : decode cX8_checksum 33 = .ok (.lload_n 1, 1) := by decide +kernel
theorem dX8_checksum_34 : decode cX8_checksum 34 = .ok (.lmul, 1) := by decide +kernel
theorem dX8_checksum_35 : decode cX8_checksum 35 = .ok (.aload_n 0, 1) := by decide +kernel
theorem dX8_checksum_36 : decode cX8_checksum 36 = .ok (.getfield 17, 3) := by decide +kernel
theorem dX8_checksum_39 : decode cX8_checksum 39 = .ok (.iload_n 3, 1) := by decide +kernel
theorem dX8_checksum_40 : decode cX8_checksum 40 = .ok (.baload, 1) := by decide +kernel
theorem dX8_checksum_41 : decode cX8_checksum 41 = .ok (.ifCond .eq 7, 3) := by decide +kernel
theorem dX8_checksum_44 : decode cX8_checksum 44 = .ok (.iconst 2, 1) := by decide +kernel
theorem dX8_checksum_45 : decode cX8_checksum 45 = .ok (.goto 4, 3) := by decide +kernel
theorem dX8_checksum_48 : decode cX8_checksum 48 = .ok (.iconst 0, 1) := by decide +kernel
theorem dX8_checksum_49 : decode cX8_checksum 49 = .ok (.i2l, 1) := by decide +kernel
theorem dX8_checksum_50 : decode cX8_checksum 50 = .ok (.ladd, 1) := by decide +kernel
theorem dX8_checksum_51 : decode cX8_checksum 51 = .ok (.aload_n 0, 1) := by decide +kernel
theorem dX8_checksum_52 : decode cX8_checksum 52 = .ok (.getfield 13, 3) := by decide +kernel
theorem dX8_checksum_55 : decode cX8_checksum 55 = .ok (.iload_n 3, 1) := by decide +kernel
theorem dX8_checksum_56 : decode cX8_checksum 56 = .ok (.baload, 1) := by decide +kernel
theorem dX8_checksum_57 : decode cX8_checksum 57 = .ok (.ifCond .eq 7, 3) := by decide +kernel
theorem dX8_checksum_60 : decode cX8_checksum 60 = .ok (.iconst 1, 1) := by decide +kernel
theorem dX8_checksum_61 : decode cX8_checksum 61 = .ok (.goto 4, 3) := by decide +kernel
theorem dX8_checksum_64 : decode cX8_checksum 64 = .ok (.iconst 0, 1) := by decide +kernel
theorem dX8_checksum_65 : decode cX8_checksum 65 = .ok (.i2l, 1) := by decide +kernel
theorem dX8_checksum_66 : decode cX8_checksum 66 = .ok (.ladd, 1) := by decide +kernel
theorem dX8_checksum_67 : decode cX8_checksum 67 = .ok (.lstore_n 1, 1) := by decide +kernel
theorem dX8_checksum_68 : decode cX8_checksum 68 = .ok (.ldc2_w 112, 3) := by decide +kernel
theorem dX8_checksum_71 : decode cX8_checksum 71 = .ok (.lload_n 1, 1) := by decide +kernel
theorem dX8_checksum_72 : decode cX8_checksum 72 = .ok (.lmul, 1) := by decide +kernel
theorem dX8_checksum_73 : decode cX8_checksum 73 = .ok (.aload_n 0, 1) := by decide +kernel
theorem dX8_checksum_74 : decode cX8_checksum 74 = .ok (.iload_n 3, 1) := by decide +kernel
theorem dX8_checksum_75 : decode cX8_checksum 75 = .ok (.invokevirtual 66, 3) := by decide +kernel
theorem dX8_checksum_78 : decode cX8_checksum 78 = .ok (.i2l, 1) := by decide +kernel
theorem dX8_checksum_79 : decode cX8_checksum 79 = .ok (.ladd, 1) := by decide +kernel
theorem dX8_checksum_80 : decode cX8_checksum 80 = .ok (.lstore_n 1, 1) := by decide +kernel
theorem dX8_checksum_81 : decode cX8_checksum 81 = .ok (.iinc 3 1, 3) := by decide +kernel
theorem dX8_checksum_84 : decode cX8_checksum 84 = .ok (.goto (-73), 3) := by decide +kernel
theorem dX8_checksum_87 : decode cX8_checksum 87 = .ok (.ldc2_w 112, 3) := by decide +kernel
theorem dX8_checksum_90 : decode cX8_checksum 90 = .ok (.lload_n 1, 1) := by decide +kernel
theorem dX8_checksum_91 : decode cX8_checksum 91 = .ok (.lmul, 1) := by decide +kernel
theorem dX8_checksum_92 : decode cX8_checksum 92 = .ok (.aload_n 0, 1) := by decide +kernel
theorem dX8_checksum_93 : decode cX8_checksum 93 = .ok (.getfield 100, 3) := by decide +kernel
theorem dX8_checksum_96 : decode cX8_checksum 96 = .ok (.i2l, 1) := by decide +kernel
theorem dX8_checksum_97 : decode cX8_checksum 97 = .ok (.ladd, 1) := by decide +kernel
theorem dX8_checksum_98 : decode cX8_checksum 98 = .ok (.lstore_n 1, 1) := by decide +kernel
theorem dX8_checksum_99 : decode cX8_checksum 99 = .ok (.iconst 0, 1) := by decide +kernel
theorem dX8_checksum_100 : decode cX8_checksum 100 = .ok (.istore_n 3, 1) := by decide +kernel
theorem dX8_checksum_101 : decode cX8_checksum 101 = .ok (.iload_n 3, 1) := by decide +kernel
theorem dX8_checksum_102 : decode cX8_checksum 102 = .ok (.aload_n 0, 1) := by decide +kernel
theorem dX8_checksum_103 : decode cX8_checksum 103 = .ok (.getfield 100, 3) := by decide +kernel
theorem dX8_checksum_106 : decode cX8_checksum 106 = .ok (.if_icmp .ge 54, 3) := by decide +kernel
theorem dX8_checksum_109 : decode cX8_checksum 109 = .ok (.ldc2_w 112, 3) := by decide +kernel
theorem dX8_checksum_112 : decode cX8_checksum 112 = .ok (.lload_n 1, 1) := by decide +kernel
theorem dX8_checksum_113 : decode cX8_checksum 113 = .ok (.lmul, 1) := by decide +kernel
theorem dX8_checksum_114 : decode cX8_checksum 114 = .ok (.aload_n 0, 1) := by decide +kernel
theorem dX8_checksum_115 : decode cX8_checksum 115 = .ok (.getfield 20, 3) := by decide +kernel
theorem dX8_checksum_118 : decode cX8_checksum 118 = .ok (.iload_n 3, 1) := by decide +kernel
theorem dX8_checksum_119 : decode cX8_checksum 119 = .ok (.iaload, 1) := by decide +kernel
theorem dX8_checksum_120 : decode cX8_checksum 120 = .ok (.aload_n 0, 1) := by decide +kernel
theorem dX8_checksum_121 : decode cX8_checksum 121 = .ok (.getfield 23, 3) := by decide +kernel
theorem dX8_checksum_124 : decode cX8_checksum 124 = .ok (.iload_n 3, 1) := by decide +kernel
theorem dX8_checksum_125 : decode cX8_checksum 125 = .ok (.baload, 1) := by decide +kernel
theorem dX8_checksum_126 : decode cX8_checksum 126 = .ok (.invokestatic 35, 3) := by decide +kernel
theorem dX8_checksum_129 : decode cX8_checksum 129 = .ok (.i2l, 1) := by decide +kernel
theorem dX8_checksum_130 : decode cX8_checksum 130 = .ok (.ladd, 1) := by decide +kernel
theorem dX8_checksum_131 : decode cX8_checksum 131 = .ok (.lstore_n 1, 1) := by decide +kernel
theorem dX8_checksum_132 : decode cX8_checksum 132 = .ok (.ldc2_w 112, 3) := by decide +kernel
theorem dX8_checksum_135 : decode cX8_checksum 135 = .ok (.lload_n 1, 1) := by decide +kernel
theorem dX8_checksum_136 : decode cX8_checksum 136 = .ok (.lmul, 1) := by decide +kernel
theorem dX8_checksum_137 : decode cX8_checksum 137 = .ok (.aload_n 0, 1) := by decide +kernel
theorem dX8_checksum_138 : decode cX8_checksum 138 = .ok (.getfield 23, 3) := by decide +kernel
theorem dX8_checksum_141 : decode cX8_checksum 141 = .ok (.iload_n 3, 1) := by decide +kernel
theorem dX8_checksum_142 : decode cX8_checksum 142 = .ok (.baload, 1) := by decide +kernel
theorem dX8_checksum_143 : decode cX8_checksum 143 = .ok (.ifCond .eq 7, 3) := by decide +kernel
theorem dX8_checksum_146 : decode cX8_checksum 146 = .ok (.iconst 1, 1) := by decide +kernel
theorem dX8_checksum_147 : decode cX8_checksum 147 = .ok (.goto 4, 3) := by decide +kernel
theorem dX8_checksum_150 : decode cX8_checksum 150 = .ok (.iconst 0, 1) := by decide +kernel
theorem dX8_checksum_151 : decode cX8_checksum 151 = .ok (.i2l, 1) := by decide +kernel
theorem dX8_checksum_152 : decode cX8_checksum 152 = .ok (.ladd, 1) := by decide +kernel
theorem dX8_checksum_153 : decode cX8_checksum 153 = .ok (.lstore_n 1, 1) := by decide +kernel
theorem dX8_checksum_154 : decode cX8_checksum 154 = .ok (.iinc 3 1, 3) := by decide +kernel
theorem dX8_checksum_157 : decode cX8_checksum 157 = .ok (.goto (-56), 3) := by decide +kernel
theorem dX8_checksum_160 : decode cX8_checksum 160 = .ok (.lload_n 1, 1) := by decide +kernel
theorem dX8_checksum_161 : decode cX8_checksum 161 = .ok (.lreturn, 1) := by decide +kernel
theorem dX8_isSound_0 : decode cX8_isSound 0 = .ok (.aload_n 0, 1) := by decide +kernel
theorem dX8_isSound_1 : decode cX8_isSound 1 = .ok (.iconst 0, 1) := by decide +kernel
theorem dX8_isSound_2 : decode cX8_isSound 2 = .ok (.putfield 26, 3) := by decide +kernel
theorem dX8_isSound_5 : decode cX8_isSound 5 = .ok (.iconst 1, 1) := by decide +kernel
theorem dX8_isSound_6 : decode cX8_isSound 6 = .ok (.ireturn, 1) := by decide +kernel
theorem dL_put_0 : decode cL_put 0 = .ok (.aload 5, 2) := by decide +kernel
theorem dL_put_2 : decode cL_put 2 = .ok (.iconst 0, 1) := by decide +kernel
theorem dL_put_3 : decode cL_put 3 = .ok (.aload_n 0, 1) := by decide +kernel
theorem dL_put_4 : decode cL_put 4 = .ok (.iload_n 1, 1) := by decide +kernel
theorem dL_put_5 : decode cL_put 5 = .ok (.iload_n 2, 1) := by decide +kernel
theorem dL_put_6 : decode cL_put 6 = .ok (.iload_n 3, 1) := by decide +kernel
theorem dL_put_7 : decode cL_put 7 = .ok (.iload 4, 2) := by decide +kernel
theorem dL_put_9 : decode cL_put 9 = .ok (.invokevirtual 7, 3) := by decide +kernel
theorem dL_put_12 : decode cL_put 12 = .ok (.i2l, 1) := by decide +kernel
theorem dL_put_13 : decode cL_put 13 = .ok (.lastore, 1) := by decide +kernel
theorem dL_put_14 : decode cL_put 14 = .ok (.goto 11, 3) := by decide +kernel
theorem dL_put_17 : decode cL_put 17 = .ok (.astore 6, 2) := by decide +kernel
theorem dL_put_19 : decode cL_put 19 = .ok (.iconst 1, 1) := by decide +kernel
theorem dL_put_20 : decode cL_put 20 = .ok (.ireturn, 1) := by decide +kernel
theorem dL_put_21 : decode cL_put 21 = .ok (.astore 6, 2) := by decide +kernel
theorem dL_put_23 : decode cL_put 23 = .ok (.iconst 2, 1) := by decide +kernel
theorem dL_put_24 : decode cL_put 24 = .ok (.ireturn, 1) := by decide +kernel
theorem dL_put_25 : decode cL_put 25 = .ok (.iconst 0, 1) := by decide +kernel
theorem dL_put_26 : decode cL_put 26 = .ok (.ireturn, 1) := by decide +kernel
theorem dL_volume_0 : decode cL_volume 0 = .ok (.aload_n 2, 1) := by decide +kernel
theorem dL_volume_1 : decode cL_volume 1 = .ok (.iconst 0, 1) := by decide +kernel
theorem dL_volume_2 : decode cL_volume 2 = .ok (.aload_n 0, 1) := by decide +kernel
theorem dL_volume_3 : decode cL_volume 3 = .ok (.iload_n 1, 1) := by decide +kernel
theorem dL_volume_4 : decode cL_volume 4 = .ok (.invokevirtual 17, 3) := by decide +kernel
theorem dL_volume_7 : decode cL_volume 7 = .ok (.i2l, 1) := by decide +kernel
theorem dL_volume_8 : decode cL_volume 8 = .ok (.lastore, 1) := by decide +kernel
theorem dL_volume_9 : decode cL_volume 9 = .ok (.goto 6, 3) := by decide +kernel
theorem dL_volume_12 : decode cL_volume 12 = .ok (.astore_n 3, 1) := by decide +kernel
theorem dL_volume_13 : decode cL_volume 13 = .ok (.iconst 1, 1) := by decide +kernel
theorem dL_volume_14 : decode cL_volume 14 = .ok (.ireturn, 1) := by decide +kernel
theorem dL_volume_15 : decode cL_volume 15 = .ok (.iconst 0, 1) := by decide +kernel
theorem dL_volume_16 : decode cL_volume 16 = .ok (.ireturn, 1) := by decide +kernel
theorem dL_kind_0 : decode cL_kind 0 = .ok (.aload_n 2, 1) := by decide +kernel
theorem dL_kind_1 : decode cL_kind 1 = .ok (.iconst 0, 1) := by decide +kernel
theorem dL_kind_2 : decode cL_kind 2 = .ok (.aload_n 0, 1) := by decide +kernel
theorem dL_kind_3 : decode cL_kind 3 = .ok (.iload_n 1, 1) := by decide +kernel
theorem dL_kind_4 : decode cL_kind 4 = .ok (.invokevirtual 21, 3) := by decide +kernel
theorem dL_kind_7 : decode cL_kind 7 = .ok (.i2l, 1) := by decide +kernel
theorem dL_kind_8 : decode cL_kind 8 = .ok (.lastore, 1) := by decide +kernel
theorem dL_kind_9 : decode cL_kind 9 = .ok (.goto 6, 3) := by decide +kernel
theorem dL_kind_12 : decode cL_kind 12 = .ok (.astore_n 3, 1) := by decide +kernel
theorem dL_kind_13 : decode cL_kind 13 = .ok (.iconst 1, 1) := by decide +kernel
theorem dL_kind_14 : decode cL_kind 14 = .ok (.ireturn, 1) := by decide +kernel
theorem dL_kind_15 : decode cL_kind 15 = .ok (.iconst 0, 1) := by decide +kernel
theorem dL_kind_16 : decode cL_kind 16 = .ok (.ireturn, 1) := by decide +kernel
theorem dL_fine_0 : decode cL_fine 0 = .ok (.aload_n 2, 1) := by decide +kernel
theorem dL_fine_1 : decode cL_fine 1 = .ok (.iconst 0, 1) := by decide +kernel
theorem dL_fine_2 : decode cL_fine 2 = .ok (.aload_n 0, 1) := by decide +kernel
theorem dL_fine_3 : decode cL_fine 3 = .ok (.iload_n 1, 1) := by decide +kernel
theorem dL_fine_4 : decode cL_fine 4 = .ok (.invokevirtual 24, 3) := by decide +kernel
theorem dL_fine_7 : decode cL_fine 7 = .ok (.i2l, 1) := by decide +kernel
theorem dL_fine_8 : decode cL_fine 8 = .ok (.lastore, 1) := by decide +kernel
theorem dL_fine_9 : decode cL_fine 9 = .ok (.goto 6, 3) := by decide +kernel
theorem dL_fine_12 : decode cL_fine 12 = .ok (.astore_n 3, 1) := by decide +kernel
theorem dL_fine_13 : decode cL_fine 13 = .ok (.iconst 1, 1) := by decide +kernel
theorem dL_fine_14 : decode cL_fine 14 = .ok (.ireturn, 1) := by decide +kernel
theorem dL_fine_15 : decode cL_fine 15 = .ok (.iconst 0, 1) := by decide +kernel
theorem dL_fine_16 : decode cL_fine 16 = .ok (.ireturn, 1) := by decide +kernel
theorem dL_whole_0 : decode cL_whole 0 = .ok (.aload_n 2, 1) := by decide +kernel
theorem dL_whole_1 : decode cL_whole 1 = .ok (.iconst 0, 1) := by decide +kernel
theorem dL_whole_2 : decode cL_whole 2 = .ok (.aload_n 0, 1) := by decide +kernel
theorem dL_whole_3 : decode cL_whole 3 = .ok (.iload_n 1, 1) := by decide +kernel
theorem dL_whole_4 : decode cL_whole 4 = .ok (.invokevirtual 27, 3) := by decide +kernel
theorem dL_whole_7 : decode cL_whole 7 = .ok (.i2l, 1) := by decide +kernel
theorem dL_whole_8 : decode cL_whole 8 = .ok (.lastore, 1) := by decide +kernel
theorem dL_whole_9 : decode cL_whole 9 = .ok (.goto 6, 3) := by decide +kernel
theorem dL_whole_12 : decode cL_whole 12 = .ok (.astore_n 3, 1) := by decide +kernel
theorem dL_whole_13 : decode cL_whole 13 = .ok (.iconst 1, 1) := by decide +kernel
theorem dL_whole_14 : decode cL_whole 14 = .ok (.ireturn, 1) := by decide +kernel
theorem dL_whole_15 : decode cL_whole 15 = .ok (.iconst 0, 1) := by decide +kernel
theorem dL_whole_16 : decode cL_whole 16 = .ok (.ireturn, 1) := by decide +kernel
theorem dL_coarse_0 : decode cL_coarse 0 = .ok (.aload_n 2, 1) := by decide +kernel
theorem dL_coarse_1 : decode cL_coarse 1 = .ok (.iconst 0, 1) := by decide +kernel
theorem dL_coarse_2 : decode cL_coarse 2 = .ok (.aload_n 0, 1) := by decide +kernel
theorem dL_coarse_3 : decode cL_coarse 3 = .ok (.iload_n 1, 1) := by decide +kernel
theorem dL_coarse_4 : decode cL_coarse 4 = .ok (.invokevirtual 30, 3) := by decide +kernel
theorem dL_coarse_7 : decode cL_coarse 7 = .ok (.dastore, 1) := by decide +kernel
theorem dL_coarse_8 : decode cL_coarse 8 = .ok (.goto 6, 3) := by decide +kernel
theorem dL_coarse_11 : decode cL_coarse 11 = .ok (.astore_n 3, 1) := by decide +kernel
theorem dL_coarse_12 : decode cL_coarse 12 = .ok (.iconst 1, 1) := by decide +kernel
theorem dL_coarse_13 : decode cL_coarse 13 = .ok (.ireturn, 1) := by decide +kernel
theorem dL_coarse_14 : decode cL_coarse 14 = .ok (.iconst 0, 1) := by decide +kernel
theorem dL_coarse_15 : decode cL_coarse 15 = .ok (.ireturn, 1) := by decide +kernel
theorem dL_isExact_0 : decode cL_isExact 0 = .ok (.aload_n 2, 1) := by decide +kernel
theorem dL_isExact_1 : decode cL_isExact 1 = .ok (.iconst 0, 1) := by decide +kernel
theorem dL_isExact_2 : decode cL_isExact 2 = .ok (.aload_n 0, 1) := by decide +kernel
theorem dL_isExact_3 : decode cL_isExact 3 = .ok (.iload_n 1, 1) := by decide +kernel
theorem dL_isExact_4 : decode cL_isExact 4 = .ok (.invokevirtual 34, 3) := by decide +kernel
theorem dL_isExact_7 : decode cL_isExact 7 = .ok (.ifCond .eq 7, 3) := by decide +kernel
theorem dL_isExact_10 : decode cL_isExact 10 = .ok (.lconst 1, 1) := by decide +kernel
theorem dL_isExact_11 : decode cL_isExact 11 = .ok (.goto 4, 3) := by decide +kernel
theorem dL_isExact_14 : decode cL_isExact 14 = .ok (.lconst 0, 1) := by decide +kernel
theorem dL_isExact_15 : decode cL_isExact 15 = .ok (.lastore, 1) := by decide +kernel
theorem dL_isExact_16 : decode cL_isExact 16 = .ok (.goto 6, 3) := by decide +kernel
theorem dL_isExact_19 : decode cL_isExact 19 = .ok (.astore_n 3, 1) := by decide +kernel
theorem dL_isExact_20 : decode cL_isExact 20 = .ok (.iconst 1, 1) := by decide +kernel
theorem dL_isExact_21 : decode cL_isExact 21 = .ok (.ireturn, 1) := by decide +kernel
theorem dL_isExact_22 : decode cL_isExact 22 = .ok (.iconst 0, 1) := by decide +kernel
theorem dL_isExact_23 : decode cL_isExact 23 = .ok (.ireturn, 1) := by decide +kernel
theorem dL_bits_0 : decode cL_bits 0 = .ok (.aload_n 2, 1) := by decide +kernel
theorem dL_bits_1 : decode cL_bits 1 = .ok (.iconst 0, 1) := by decide +kernel
theorem dL_bits_2 : decode cL_bits 2 = .ok (.aload_n 0, 1) := by decide +kernel
theorem dL_bits_3 : decode cL_bits 3 = .ok (.iload_n 1, 1) := by decide +kernel
theorem dL_bits_4 : decode cL_bits 4 = .ok (.invokevirtual 38, 3) := by decide +kernel
theorem dL_bits_7 : decode cL_bits 7 = .ok (.lastore, 1) := by decide +kernel
theorem dL_bits_8 : decode cL_bits 8 = .ok (.goto 9, 3) := by decide +kernel
theorem dL_bits_11 : decode cL_bits 11 = .ok (.astore_n 3, 1) := by decide +kernel
theorem dL_bits_12 : decode cL_bits 12 = .ok (.iconst 1, 1) := by decide +kernel
theorem dL_bits_13 : decode cL_bits 13 = .ok (.ireturn, 1) := by decide +kernel
theorem dL_bits_14 : decode cL_bits 14 = .ok (.astore_n 3, 1) := by decide +kernel
theorem dL_bits_15 : decode cL_bits 15 = .ok (.iconst 2, 1) := by decide +kernel
theorem dL_bits_16 : decode cL_bits 16 = .ok (.ireturn, 1) := by decide +kernel
theorem dL_bits_17 : decode cL_bits 17 = .ok (.iconst 0, 1) := by decide +kernel
theorem dL_bits_18 : decode cL_bits 18 = .ok (.ireturn, 1) := by decide +kernel
theorem dL_order_0 : decode cL_order 0 = .ok (.aload_n 3, 1) := by decide +kernel
theorem dL_order_1 : decode cL_order 1 = .ok (.iconst 0, 1) := by decide +kernel
theorem dL_order_2 : decode cL_order 2 = .ok (.aload_n 0, 1) := by decide +kernel
theorem dL_order_3 : decode cL_order 3 = .ok (.iload_n 1, 1) := by decide +kernel
theorem dL_order_4 : decode cL_order 4 = .ok (.iload_n 2, 1) := by decide +kernel
theorem dL_order_5 : decode cL_order 5 = .ok (.invokevirtual 44, 3) := by decide +kernel
theorem dL_order_8 : decode cL_order 8 = .ok (.i2l, 1) := by decide +kernel
theorem dL_order_9 : decode cL_order 9 = .ok (.lastore, 1) := by decide +kernel
theorem dL_order_10 : decode cL_order 10 = .ok (.goto 7, 3) := by decide +kernel
theorem dL_order_13 : decode cL_order 13 = .ok (.astore 4, 2) := by decide +kernel
theorem dL_order_15 : decode cL_order 15 = .ok (.iconst 1, 1) := by decide +kernel
theorem dL_order_16 : decode cL_order 16 = .ok (.ireturn, 1) := by decide +kernel
theorem dL_order_17 : decode cL_order 17 = .ok (.iconst 0, 1) := by decide +kernel
theorem dL_order_18 : decode cL_order 18 = .ok (.ireturn, 1) := by decide +kernel
theorem dL_grow_0 : decode cL_grow 0 = .ok (.aload_n 3, 1) := by decide +kernel
theorem dL_grow_1 : decode cL_grow 1 = .ok (.iconst 0, 1) := by decide +kernel
theorem dL_grow_2 : decode cL_grow 2 = .ok (.aload_n 0, 1) := by decide +kernel
theorem dL_grow_3 : decode cL_grow 3 = .ok (.iload_n 1, 1) := by decide +kernel
theorem dL_grow_4 : decode cL_grow 4 = .ok (.iload_n 2, 1) := by decide +kernel
theorem dL_grow_5 : decode cL_grow 5 = .ok (.invokevirtual 48, 3) := by decide +kernel
theorem dL_grow_8 : decode cL_grow 8 = .ok (.i2l, 1) := by decide +kernel
theorem dL_grow_9 : decode cL_grow 9 = .ok (.lastore, 1) := by decide +kernel
theorem dL_grow_10 : decode cL_grow 10 = .ok (.goto 11, 3) := by decide +kernel
theorem dL_grow_13 : decode cL_grow 13 = .ok (.astore 4, 2) := by decide +kernel
theorem dL_grow_15 : decode cL_grow 15 = .ok (.iconst 1, 1) := by decide +kernel
theorem dL_grow_16 : decode cL_grow 16 = .ok (.ireturn, 1) := by decide +kernel
theorem dL_grow_17 : decode cL_grow 17 = .ok (.astore 4, 2) := by decide +kernel
theorem dL_grow_19 : decode cL_grow 19 = .ok (.iconst 2, 1) := by decide +kernel
theorem dL_grow_20 : decode cL_grow 20 = .ok (.ireturn, 1) := by decide +kernel
theorem dL_grow_21 : decode cL_grow 21 = .ok (.iconst 0, 1) := by decide +kernel
theorem dL_grow_22 : decode cL_grow 22 = .ok (.ireturn, 1) := by decide +kernel
theorem dL_opposite_0 : decode cL_opposite 0 = .ok (.aload_n 3, 1) := by decide +kernel
theorem dL_opposite_1 : decode cL_opposite 1 = .ok (.iconst 0, 1) := by decide +kernel
theorem dL_opposite_2 : decode cL_opposite 2 = .ok (.aload_n 0, 1) := by decide +kernel
theorem dL_opposite_3 : decode cL_opposite 3 = .ok (.iload_n 1, 1) := by decide +kernel
theorem dL_opposite_4 : decode cL_opposite 4 = .ok (.iload_n 2, 1) := by decide +kernel
theorem dL_opposite_5 : decode cL_opposite 5 = .ok (.invokevirtual 51, 3) := by decide +kernel
theorem dL_opposite_8 : decode cL_opposite 8 = .ok (.ifCond .eq 7, 3) := by decide +kernel
theorem dL_opposite_11 : decode cL_opposite 11 = .ok (.lconst 1, 1) := by decide +kernel
theorem dL_opposite_12 : decode cL_opposite 12 = .ok (.goto 4, 3) := by decide +kernel
theorem dL_opposite_15 : decode cL_opposite 15 = .ok (.lconst 0, 1) := by decide +kernel
theorem dL_opposite_16 : decode cL_opposite 16 = .ok (.lastore, 1) := by decide +kernel
theorem dL_opposite_17 : decode cL_opposite 17 = .ok (.goto 7, 3) := by decide +kernel
theorem dL_opposite_20 : decode cL_opposite 20 = .ok (.astore 4, 2) := by decide +kernel
theorem dL_opposite_22 : decode cL_opposite 22 = .ok (.iconst 1, 1) := by decide +kernel
theorem dL_opposite_23 : decode cL_opposite 23 = .ok (.ireturn, 1) := by decide +kernel
theorem dL_opposite_24 : decode cL_opposite 24 = .ok (.iconst 0, 1) := by decide +kernel
theorem dL_opposite_25 : decode cL_opposite 25 = .ok (.ireturn, 1) := by decide +kernel
theorem dL_eightfold_0 : decode cL_eightfold 0 = .ok (.aload_n 3, 1) := by decide +kernel
theorem dL_eightfold_1 : decode cL_eightfold 1 = .ok (.iconst 0, 1) := by decide +kernel
theorem dL_eightfold_2 : decode cL_eightfold 2 = .ok (.aload_n 0, 1) := by decide +kernel
theorem dL_eightfold_3 : decode cL_eightfold 3 = .ok (.iload_n 1, 1) := by decide +kernel
theorem dL_eightfold_4 : decode cL_eightfold 4 = .ok (.iload_n 2, 1) := by decide +kernel
theorem dL_eightfold_5 : decode cL_eightfold 5 = .ok (.invokevirtual 55, 3) := by decide +kernel
theorem dL_eightfold_8 : decode cL_eightfold 8 = .ok (.ifCond .eq 7, 3) := by decide +kernel
theorem dL_eightfold_11 : decode cL_eightfold 11 = .ok (.lconst 1, 1) := by decide +kernel
theorem dL_eightfold_12 : decode cL_eightfold 12 = .ok (.goto 4, 3) := by decide +kernel
theorem dL_eightfold_15 : decode cL_eightfold 15 = .ok (.lconst 0, 1) := by decide +kernel
theorem dL_eightfold_16 : decode cL_eightfold 16 = .ok (.lastore, 1) := by decide +kernel
theorem dL_eightfold_17 : decode cL_eightfold 17 = .ok (.goto 11, 3) := by decide +kernel
theorem dL_eightfold_20 : decode cL_eightfold 20 = .ok (.astore 4, 2) := by decide +kernel
theorem dL_eightfold_22 : decode cL_eightfold 22 = .ok (.iconst 1, 1) := by decide +kernel
theorem dL_eightfold_23 : decode cL_eightfold 23 = .ok (.ireturn, 1) := by decide +kernel
theorem dL_eightfold_24 : decode cL_eightfold 24 = .ok (.astore 4, 2) := by decide +kernel
theorem dL_eightfold_26 : decode cL_eightfold 26 = .ok (.iconst 2, 1) := by decide +kernel
theorem dL_eightfold_27 : decode cL_eightfold 27 = .ok (.ireturn, 1) := by decide +kernel
theorem dL_eightfold_28 : decode cL_eightfold 28 = .ok (.iconst 0, 1) := by decide +kernel
theorem dL_eightfold_29 : decode cL_eightfold 29 = .ok (.ireturn, 1) := by decide +kernel
theorem dL_eighth_0 : decode cL_eighth 0 = .ok (.aload_n 3, 1) := by decide +kernel
theorem dL_eighth_1 : decode cL_eighth 1 = .ok (.iconst 0, 1) := by decide +kernel
theorem dL_eighth_2 : decode cL_eighth 2 = .ok (.aload_n 0, 1) := by decide +kernel
theorem dL_eighth_3 : decode cL_eighth 3 = .ok (.iload_n 1, 1) := by decide +kernel
theorem dL_eighth_4 : decode cL_eighth 4 = .ok (.iload_n 2, 1) := by decide +kernel
theorem dL_eighth_5 : decode cL_eighth 5 = .ok (.invokevirtual 58, 3) := by decide +kernel
theorem dL_eighth_8 : decode cL_eighth 8 = .ok (.ifCond .eq 7, 3) := by decide +kernel
theorem dL_eighth_11 : decode cL_eighth 11 = .ok (.lconst 1, 1) := by decide +kernel
theorem dL_eighth_12 : decode cL_eighth 12 = .ok (.goto 4, 3) := by decide +kernel
theorem dL_eighth_15 : decode cL_eighth 15 = .ok (.lconst 0, 1) := by decide +kernel
theorem dL_eighth_16 : decode cL_eighth 16 = .ok (.lastore, 1) := by decide +kernel
theorem dL_eighth_17 : decode cL_eighth 17 = .ok (.goto 11, 3) := by decide +kernel
theorem dL_eighth_20 : decode cL_eighth 20 = .ok (.astore 4, 2) := by decide +kernel
theorem dL_eighth_22 : decode cL_eighth 22 = .ok (.iconst 1, 1) := by decide +kernel
theorem dL_eighth_23 : decode cL_eighth 23 = .ok (.ireturn, 1) := by decide +kernel
theorem dL_eighth_24 : decode cL_eighth 24 = .ok (.astore 4, 2) := by decide +kernel
theorem dL_eighth_26 : decode cL_eighth 26 = .ok (.iconst 2, 1) := by decide +kernel
theorem dL_eighth_27 : decode cL_eighth 27 = .ok (.ireturn, 1) := by decide +kernel
theorem dL_eighth_28 : decode cL_eighth 28 = .ok (.iconst 0, 1) := by decide +kernel
theorem dL_eighth_29 : decode cL_eighth 29 = .ok (.ireturn, 1) := by decide +kernel
theorem dL_isNear_0 : decode cL_isNear 0 = .ok (.aload_n 2, 1) := by decide +kernel
theorem dL_isNear_1 : decode cL_isNear 1 = .ok (.iconst 0, 1) := by decide +kernel
theorem dL_isNear_2 : decode cL_isNear 2 = .ok (.aload_n 0, 1) := by decide +kernel
theorem dL_isNear_3 : decode cL_isNear 3 = .ok (.iload_n 1, 1) := by decide +kernel
theorem dL_isNear_4 : decode cL_isNear 4 = .ok (.invokevirtual 61, 3) := by decide +kernel
theorem dL_isNear_7 : decode cL_isNear 7 = .ok (.ifCond .eq 7, 3) := by decide +kernel
theorem dL_isNear_10 : decode cL_isNear 10 = .ok (.lconst 1, 1) := by decide +kernel
theorem dL_isNear_11 : decode cL_isNear 11 = .ok (.goto 4, 3) := by decide +kernel
theorem dL_isNear_14 : decode cL_isNear 14 = .ok (.lconst 0, 1) := by decide +kernel
theorem dL_isNear_15 : decode cL_isNear 15 = .ok (.lastore, 1) := by decide +kernel
theorem dL_isNear_16 : decode cL_isNear 16 = .ok (.goto 6, 3) := by decide +kernel
theorem dL_isNear_19 : decode cL_isNear 19 = .ok (.astore_n 3, 1) := by decide +kernel
theorem dL_isNear_20 : decode cL_isNear 20 = .ok (.iconst 1, 1) := by decide +kernel
theorem dL_isNear_21 : decode cL_isNear 21 = .ok (.ireturn, 1) := by decide +kernel
theorem dL_isNear_22 : decode cL_isNear 22 = .ok (.iconst 0, 1) := by decide +kernel
theorem dL_isNear_23 : decode cL_isNear 23 = .ok (.ireturn, 1) := by decide +kernel
theorem dL_multiply_0 : decode cL_multiply 0 = .ok (.aload 4, 2) := by decide +kernel
theorem dL_multiply_2 : decode cL_multiply 2 = .ok (.iconst 0, 1) := by decide +kernel
theorem dL_multiply_3 : decode cL_multiply 3 = .ok (.aload_n 0, 1) := by decide +kernel
theorem dL_multiply_4 : decode cL_multiply 4 = .ok (.iload_n 1, 1) := by decide +kernel
theorem dL_multiply_5 : decode cL_multiply 5 = .ok (.iload_n 2, 1) := by decide +kernel
theorem dL_multiply_6 : decode cL_multiply 6 = .ok (.iload_n 3, 1) := by decide +kernel
theorem dL_multiply_7 : decode cL_multiply 7 = .ok (.invokevirtual 64, 3) := by decide +kernel
theorem dL_multiply_10 : decode cL_multiply 10 = .ok (.ifCond .eq 7, 3) := by decide +kernel
theorem dL_multiply_13 : decode cL_multiply 13 = .ok (.lconst 1, 1) := by decide +kernel
theorem dL_multiply_14 : decode cL_multiply 14 = .ok (.goto 4, 3) := by decide +kernel
theorem dL_multiply_17 : decode cL_multiply 17 = .ok (.lconst 0, 1) := by decide +kernel
theorem dL_multiply_18 : decode cL_multiply 18 = .ok (.lastore, 1) := by decide +kernel
theorem dL_multiply_19 : decode cL_multiply 19 = .ok (.goto 11, 3) := by decide +kernel
theorem dL_multiply_22 : decode cL_multiply 22 = .ok (.astore 5, 2) := by decide +kernel
theorem dL_multiply_24 : decode cL_multiply 24 = .ok (.iconst 1, 1) := by decide +kernel
theorem dL_multiply_25 : decode cL_multiply 25 = .ok (.ireturn, 1) := by decide +kernel
theorem dL_multiply_26 : decode cL_multiply 26 = .ok (.astore 5, 2) := by decide +kernel
theorem dL_multiply_28 : decode cL_multiply 28 = .ok (.iconst 2, 1) := by decide +kernel
theorem dL_multiply_29 : decode cL_multiply 29 = .ok (.ireturn, 1) := by decide +kernel
theorem dL_multiply_30 : decode cL_multiply 30 = .ok (.iconst 0, 1) := by decide +kernel
theorem dL_multiply_31 : decode cL_multiply 31 = .ok (.ireturn, 1) := by decide +kernel
theorem dL_add_0 : decode cL_add 0 = .ok (.aload 4, 2) := by decide +kernel
theorem dL_add_2 : decode cL_add 2 = .ok (.iconst 0, 1) := by decide +kernel
theorem dL_add_3 : decode cL_add 3 = .ok (.aload_n 0, 1) := by decide +kernel
theorem dL_add_4 : decode cL_add 4 = .ok (.iload_n 1, 1) := by decide +kernel
theorem dL_add_5 : decode cL_add 5 = .ok (.iload_n 2, 1) := by decide +kernel
theorem dL_add_6 : decode cL_add 6 = .ok (.iload_n 3, 1) := by decide +kernel
theorem dL_add_7 : decode cL_add 7 = .ok (.invokevirtual 68, 3) := by decide +kernel
theorem dL_add_10 : decode cL_add 10 = .ok (.ifCond .eq 7, 3) := by decide +kernel
theorem dL_add_13 : decode cL_add 13 = .ok (.lconst 1, 1) := by decide +kernel
theorem dL_add_14 : decode cL_add 14 = .ok (.goto 4, 3) := by decide +kernel
theorem dL_add_17 : decode cL_add 17 = .ok (.lconst 0, 1) := by decide +kernel
theorem dL_add_18 : decode cL_add 18 = .ok (.lastore, 1) := by decide +kernel
theorem dL_add_19 : decode cL_add 19 = .ok (.goto 15, 3) := by decide +kernel
theorem dL_add_22 : decode cL_add 22 = .ok (.astore 5, 2) := by decide +kernel
theorem dL_add_24 : decode cL_add 24 = .ok (.iconst 1, 1) := by decide +kernel
theorem dL_add_25 : decode cL_add 25 = .ok (.ireturn, 1) := by decide +kernel
theorem dL_add_26 : decode cL_add 26 = .ok (.astore 5, 2) := by decide +kernel
theorem dL_add_28 : decode cL_add 28 = .ok (.iconst 2, 1) := by decide +kernel
theorem dL_add_29 : decode cL_add 29 = .ok (.ireturn, 1) := by decide +kernel
theorem dL_add_30 : decode cL_add 30 = .ok (.astore 5, 2) := by decide +kernel
theorem dL_add_32 : decode cL_add 32 = .ok (.iconst 3, 1) := by decide +kernel
theorem dL_add_33 : decode cL_add 33 = .ok (.ireturn, 1) := by decide +kernel
theorem dL_add_34 : decode cL_add 34 = .ok (.iconst 0, 1) := by decide +kernel
theorem dL_add_35 : decode cL_add 35 = .ok (.ireturn, 1) := by decide +kernel
theorem dL_find_0 : decode cL_find 0 = .ok (.aload_n 3, 1) := by decide +kernel
theorem dL_find_1 : decode cL_find 1 = .ok (.iconst 0, 1) := by decide +kernel
theorem dL_find_2 : decode cL_find 2 = .ok (.aload_n 0, 1) := by decide +kernel
theorem dL_find_3 : decode cL_find 3 = .ok (.iload_n 1, 1) := by decide +kernel
theorem dL_find_4 : decode cL_find 4 = .ok (.iload_n 2, 1) := by decide +kernel
theorem dL_find_5 : decode cL_find 5 = .ok (.invokevirtual 71, 3) := by decide +kernel
theorem dL_find_8 : decode cL_find 8 = .ok (.i2l, 1) := by decide +kernel
theorem dL_find_9 : decode cL_find 9 = .ok (.lastore, 1) := by decide +kernel
theorem dL_find_10 : decode cL_find 10 = .ok (.goto 7, 3) := by decide +kernel
theorem dL_find_13 : decode cL_find 13 = .ok (.astore 4, 2) := by decide +kernel
theorem dL_find_15 : decode cL_find 15 = .ok (.iconst 1, 1) := by decide +kernel
theorem dL_find_16 : decode cL_find 16 = .ok (.ireturn, 1) := by decide +kernel
theorem dL_find_17 : decode cL_find 17 = .ok (.iconst 0, 1) := by decide +kernel
theorem dL_find_18 : decode cL_find 18 = .ok (.ireturn, 1) := by decide +kernel
theorem dL_sum_0 : decode cL_sum 0 = .ok (.aload_n 3, 1) := by decide +kernel
theorem dL_sum_1 : decode cL_sum 1 = .ok (.iconst 0, 1) := by decide +kernel
theorem dL_sum_2 : decode cL_sum 2 = .ok (.aload_n 0, 1) := by decide +kernel
theorem dL_sum_3 : decode cL_sum 3 = .ok (.iload_n 1, 1) := by decide +kernel
theorem dL_sum_4 : decode cL_sum 4 = .ok (.iload_n 2, 1) := by decide +kernel
theorem dL_sum_5 : decode cL_sum 5 = .ok (.invokevirtual 75, 3) := by decide +kernel
theorem dL_sum_8 : decode cL_sum 8 = .ok (.i2l, 1) := by decide +kernel
theorem dL_sum_9 : decode cL_sum 9 = .ok (.lastore, 1) := by decide +kernel
theorem dL_sum_10 : decode cL_sum 10 = .ok (.goto 7, 3) := by decide +kernel
theorem dL_sum_13 : decode cL_sum 13 = .ok (.astore 4, 2) := by decide +kernel
theorem dL_sum_15 : decode cL_sum 15 = .ok (.iconst 1, 1) := by decide +kernel
theorem dL_sum_16 : decode cL_sum 16 = .ok (.ireturn, 1) := by decide +kernel
theorem dL_sum_17 : decode cL_sum 17 = .ok (.iconst 0, 1) := by decide +kernel
theorem dL_sum_18 : decode cL_sum 18 = .ok (.ireturn, 1) := by decide +kernel
theorem dL_exact_0 : decode cL_exact 0 = .ok (.aload_n 3, 1) := by decide +kernel
theorem dL_exact_1 : decode cL_exact 1 = .ok (.iconst 0, 1) := by decide +kernel
theorem dL_exact_2 : decode cL_exact 2 = .ok (.aload_n 0, 1) := by decide +kernel
theorem dL_exact_3 : decode cL_exact 3 = .ok (.iload_n 1, 1) := by decide +kernel
theorem dL_exact_4 : decode cL_exact 4 = .ok (.iload_n 2, 1) := by decide +kernel
theorem dL_exact_5 : decode cL_exact 5 = .ok (.invokevirtual 78, 3) := by decide +kernel
theorem dL_exact_8 : decode cL_exact 8 = .ok (.i2l, 1) := by decide +kernel
theorem dL_exact_9 : decode cL_exact 9 = .ok (.lastore, 1) := by decide +kernel
theorem dL_exact_10 : decode cL_exact 10 = .ok (.goto 7, 3) := by decide +kernel
theorem dL_exact_13 : decode cL_exact 13 = .ok (.astore 4, 2) := by decide +kernel
theorem dL_exact_15 : decode cL_exact 15 = .ok (.iconst 1, 1) := by decide +kernel
theorem dL_exact_16 : decode cL_exact 16 = .ok (.ireturn, 1) := by decide +kernel
theorem dL_exact_17 : decode cL_exact 17 = .ok (.iconst 0, 1) := by decide +kernel
theorem dL_exact_18 : decode cL_exact 18 = .ok (.ireturn, 1) := by decide +kernel
theorem dL_lay_0 : decode cL_lay 0 = .ok (.aload_n 2, 1) := by decide +kernel
theorem dL_lay_1 : decode cL_lay 1 = .ok (.iconst 0, 1) := by decide +kernel
theorem dL_lay_2 : decode cL_lay 2 = .ok (.aload_n 0, 1) := by decide +kernel
theorem dL_lay_3 : decode cL_lay 3 = .ok (.iload_n 1, 1) := by decide +kernel
theorem dL_lay_4 : decode cL_lay 4 = .ok (.invokevirtual 81, 3) := by decide +kernel
theorem dL_lay_7 : decode cL_lay 7 = .ok (.i2l, 1) := by decide +kernel
theorem dL_lay_8 : decode cL_lay 8 = .ok (.lastore, 1) := by decide +kernel
theorem dL_lay_9 : decode cL_lay 9 = .ok (.goto 12, 3) := by decide +kernel
theorem dL_lay_12 : decode cL_lay 12 = .ok (.astore_n 3, 1) := by decide +kernel
theorem dL_lay_13 : decode cL_lay 13 = .ok (.iconst 1, 1) := by decide +kernel
theorem dL_lay_14 : decode cL_lay 14 = .ok (.ireturn, 1) := by decide +kernel
theorem dL_lay_15 : decode cL_lay 15 = .ok (.astore_n 3, 1) := by decide +kernel
theorem dL_lay_16 : decode cL_lay 16 = .ok (.iconst 2, 1) := by decide +kernel
theorem dL_lay_17 : decode cL_lay 17 = .ok (.ireturn, 1) := by decide +kernel
theorem dL_lay_18 : decode cL_lay 18 = .ok (.astore_n 3, 1) := by decide +kernel
theorem dL_lay_19 : decode cL_lay 19 = .ok (.iconst 3, 1) := by decide +kernel
theorem dL_lay_20 : decode cL_lay 20 = .ok (.ireturn, 1) := by decide +kernel
theorem dL_lay_21 : decode cL_lay 21 = .ok (.iconst 0, 1) := by decide +kernel
theorem dL_lay_22 : decode cL_lay 22 = .ok (.ireturn, 1) := by decide +kernel
theorem dL_lift_0 : decode cL_lift 0 = .ok (.aload_n 2, 1) := by decide +kernel
theorem dL_lift_1 : decode cL_lift 1 = .ok (.iconst 0, 1) := by decide +kernel
theorem dL_lift_2 : decode cL_lift 2 = .ok (.aload_n 0, 1) := by decide +kernel
theorem dL_lift_3 : decode cL_lift 3 = .ok (.iload_n 1, 1) := by decide +kernel
theorem dL_lift_4 : decode cL_lift 4 = .ok (.invokevirtual 86, 3) := by decide +kernel
theorem dL_lift_7 : decode cL_lift 7 = .ok (.i2l, 1) := by decide +kernel
theorem dL_lift_8 : decode cL_lift 8 = .ok (.lastore, 1) := by decide +kernel
theorem dL_lift_9 : decode cL_lift 9 = .ok (.goto 9, 3) := by decide +kernel
theorem dL_lift_12 : decode cL_lift 12 = .ok (.astore_n 3, 1) := by decide +kernel
theorem dL_lift_13 : decode cL_lift 13 = .ok (.iconst 1, 1) := by decide +kernel
theorem dL_lift_14 : decode cL_lift 14 = .ok (.ireturn, 1) := by decide +kernel
theorem dL_lift_15 : decode cL_lift 15 = .ok (.astore_n 3, 1) := by decide +kernel
theorem dL_lift_16 : decode cL_lift 16 = .ok (.iconst 2, 1) := by decide +kernel
theorem dL_lift_17 : decode cL_lift 17 = .ok (.ireturn, 1) := by decide +kernel
theorem dL_lift_18 : decode cL_lift 18 = .ok (.iconst 0, 1) := by decide +kernel
theorem dL_lift_19 : decode cL_lift 19 = .ok (.ireturn, 1) := by decide +kernel
theorem dL_melt_0 : decode cL_melt 0 = .ok (.aload_n 2, 1) := by decide +kernel
theorem dL_melt_1 : decode cL_melt 1 = .ok (.iconst 0, 1) := by decide +kernel
theorem dL_melt_2 : decode cL_melt 2 = .ok (.aload_n 0, 1) := by decide +kernel
theorem dL_melt_3 : decode cL_melt 3 = .ok (.iload_n 1, 1) := by decide +kernel
theorem dL_melt_4 : decode cL_melt 4 = .ok (.invokevirtual 91, 3) := by decide +kernel
theorem dL_melt_7 : decode cL_melt 7 = .ok (.i2l, 1) := by decide +kernel
theorem dL_melt_8 : decode cL_melt 8 = .ok (.lastore, 1) := by decide +kernel
theorem dL_melt_9 : decode cL_melt 9 = .ok (.goto 12, 3) := by decide +kernel
theorem dL_melt_12 : decode cL_melt 12 = .ok (.astore_n 3, 1) := by decide +kernel
theorem dL_melt_13 : decode cL_melt 13 = .ok (.iconst 1, 1) := by decide +kernel
theorem dL_melt_14 : decode cL_melt 14 = .ok (.ireturn, 1) := by decide +kernel
theorem dL_melt_15 : decode cL_melt 15 = .ok (.astore_n 3, 1) := by decide +kernel
theorem dL_melt_16 : decode cL_melt 16 = .ok (.iconst 2, 1) := by decide +kernel
theorem dL_melt_17 : decode cL_melt 17 = .ok (.ireturn, 1) := by decide +kernel
theorem dL_melt_18 : decode cL_melt 18 = .ok (.astore_n 3, 1) := by decide +kernel
theorem dL_melt_19 : decode cL_melt 19 = .ok (.iconst 3, 1) := by decide +kernel
theorem dL_melt_20 : decode cL_melt 20 = .ok (.ireturn, 1) := by decide +kernel
theorem dL_melt_21 : decode cL_melt 21 = .ok (.iconst 0, 1) := by decide +kernel
theorem dL_melt_22 : decode cL_melt 22 = .ok (.ireturn, 1) := by decide +kernel
theorem dL_law_0 : decode cL_law 0 = .ok (.new 8, 3) := by decide +kernel
theorem dL_law_3 : decode cL_law 3 = .ok (.dup, 1) := by decide +kernel
theorem dL_law_4 : decode cL_law 4 = .ok (.invokespecial 94, 3) := by decide +kernel
theorem dL_law_7 : decode cL_law 7 = .ok (.astore_n 1, 1) := by decide +kernel
theorem dL_law_8 : decode cL_law 8 = .ok (.new 95, 3) := by decide +kernel
theorem dL_law_11 : decode cL_law 11 = .ok (.dup, 1) := by decide +kernel
theorem dL_law_12 : decode cL_law 12 = .ok (.invokespecial 97, 3) := by decide +kernel
theorem dL_law_15 : decode cL_law 15 = .ok (.astore_n 2, 1) := by decide +kernel
theorem dL_law_16 : decode cL_law 16 = .ok (.iconst 1, 1) := by decide +kernel
theorem dL_law_17 : decode cL_law 17 = .ok (.newarray .long, 2) := by decide +kernel
theorem dL_law_19 : decode cL_law 19 = .ok (.astore_n 3, 1) := by decide +kernel
theorem dL_law_20 : decode cL_law 20 = .ok (.iconst 1, 1) := by decide +kernel
theorem dL_law_21 : decode cL_law 21 = .ok (.newarray .double, 2) := by decide +kernel
theorem dL_law_23 : decode cL_law 23 = .ok (.astore 4, 2) := by decide +kernel
theorem dL_law_25 : decode cL_law 25 = .ok (.iconst 0, 1) := by decide +kernel
theorem dL_law_26 : decode cL_law 26 = .ok (.istore 5, 2) := by decide +kernel
theorem dL_law_28 : decode cL_law 28 = .ok (.iload 5, 2) := by decide +kernel
theorem dL_law_30 : decode cL_law 30 = .ok (.aload_n 0, 1) := by decide +kernel
theorem dL_law_31 : decode cL_law 31 = .ok (.arraylength, 1) := by decide +kernel
theorem dL_law_32 : decode cL_law 32 = .ok (.iconst 5, 1) := by decide +kernel
theorem dL_law_33 : decode cL_law 33 = .ok (.isub, 1) := by decide +kernel
theorem dL_law_34 : decode cL_law 34 = .ok (.if_icmp .gt 1777, 3) := by decide +kernel
theorem dL_law_37 : decode cL_law 37 = .ok (.aload_n 0, 1) := by decide +kernel
theorem dL_law_38 : decode cL_law 38 = .ok (.iload 5, 2) := by decide +kernel
theorem dL_law_40 : decode cL_law 40 = .ok (.iaload, 1) := by decide +kernel
theorem dL_law_41 : decode cL_law 41 = .ok (.bipush 31, 2) := by decide +kernel
theorem dL_law_43 : decode cL_law 43 = .ok (.iand, 1) := by decide +kernel
theorem dL_law_44 : decode cL_law 44 = .ok (.tableswitch 1761 0 26 #[124, 248, 304, 360, 416, 472, 549, 612, 667, 735, 803, 816, 891, 966, 1041, 1104, 1191, 1278, 1362, 1430, 1498, 1554, 1610, 1635, 1691, 1734, 1748], 124) := by decide +kernel
theorem dL_law_168 : decode cL_law 168 = .ok (.aload_n 1, 1) := by decide +kernel
theorem dL_law_169 : decode cL_law 169 = .ok (.aload_n 0, 1) := by decide +kernel
theorem dL_law_170 : decode cL_law 170 = .ok (.iload 5, 2) := by decide +kernel
theorem dL_law_172 : decode cL_law 172 = .ok (.iconst 1, 1) := by decide +kernel
theorem dL_law_173 : decode cL_law 173 = .ok (.iadd, 1) := by decide +kernel
theorem dL_law_174 : decode cL_law 174 = .ok (.iaload, 1) := by decide +kernel
theorem dL_law_175 : decode cL_law 175 = .ok (.aload_n 0, 1) := by decide +kernel
theorem dL_law_176 : decode cL_law 176 = .ok (.iload 5, 2) := by decide +kernel
theorem dL_law_178 : decode cL_law 178 = .ok (.iconst 2, 1) := by decide +kernel
theorem dL_law_179 : decode cL_law 179 = .ok (.iadd, 1) := by decide +kernel
theorem dL_law_180 : decode cL_law 180 = .ok (.iaload, 1) := by decide +kernel
theorem dL_law_181 : decode cL_law 181 = .ok (.aload_n 0, 1) := by decide +kernel
theorem dL_law_182 : decode cL_law 182 = .ok (.iload 5, 2) := by decide +kernel
theorem dL_law_184 : decode cL_law 184 = .ok (.iconst 3, 1) := by decide +kernel
theorem dL_law_185 : decode cL_law 185 = .ok (.iadd, 1) := by decide +kernel
theorem dL_law_186 : decode cL_law 186 = .ok (.iaload, 1) := by decide +kernel
theorem dL_law_187 : decode cL_law 187 = .ok (.ifCond .eq 7, 3) := by decide +kernel
theorem dL_law_190 : decode cL_law 190 = .ok (.iconst 1, 1) := by decide +kernel
theorem dL_law_191 : decode cL_law 191 = .ok (.goto 4, 3) := by decide +kernel
theorem dL_law_194 : decode cL_law 194 = .ok (.iconst 0, 1) := by decide +kernel
theorem dL_law_195 : decode cL_law 195 = .ok (.aload_n 0, 1) := by decide +kernel
theorem dL_law_196 : decode cL_law 196 = .ok (.iload 5, 2) := by decide +kernel
theorem dL_law_198 : decode cL_law 198 = .ok (.iconst 4, 1) := by decide +kernel
theorem dL_law_199 : decode cL_law 199 = .ok (.iadd, 1) := by decide +kernel
theorem dL_law_200 : decode cL_law 200 = .ok (.iaload, 1) := by decide +kernel
theorem dL_law_201 : decode cL_law 201 = .ok (.ifCond .eq 7, 3) := by decide +kernel
theorem dL_law_204 : decode cL_law 204 = .ok (.iconst 1, 1) := by decide +kernel
theorem dL_law_205 : decode cL_law 205 = .ok (.goto 4, 3) := by decide +kernel
theorem dL_law_208 : decode cL_law 208 = .ok (.iconst 0, 1) := by decide +kernel
theorem dL_law_209 : decode cL_law 209 = .ok (.aload_n 3, 1) := by decide +kernel
theorem dL_law_210 : decode cL_law 210 = .ok (.invokestatic 98, 3) := by decide +kernel
theorem dL_law_213 : decode cL_law 213 = .ok (.istore 6, 2) := by decide +kernel
theorem dL_law_215 : decode cL_law 215 = .ok (.aload_n 2, 1) := by decide +kernel
theorem dL_law_216 : decode cL_law 216 = .ok (.aload_n 0, 1) := by decide +kernel
theorem dL_law_217 : decode cL_law 217 = .ok (.iload 5, 2) := by decide +kernel
theorem dL_law_219 : decode cL_law 219 = .ok (.iconst 1, 1) := by decide +kernel
theorem dL_law_220 : decode cL_law 220 = .ok (.iadd, 1) := by decide +kernel
theorem dL_law_221 : decode cL_law 221 = .ok (.iaload, 1) := by decide +kernel
theorem dL_law_222 : decode cL_law 222 = .ok (.aload_n 0, 1) := by decide +kernel
theorem dL_law_223 : decode cL_law 223 = .ok (.iload 5, 2) := by decide +kernel
theorem dL_law_225 : decode cL_law 225 = .ok (.iconst 2, 1) := by decide +kernel
theorem dL_law_226 : decode cL_law 226 = .ok (.iadd, 1) := by decide +kernel
theorem dL_law_227 : decode cL_law 227 = .ok (.iaload, 1) := by decide +kernel
theorem dL_law_228 : decode cL_law 228 = .ok (.aload_n 0, 1) := by decide +kernel
theorem dL_law_229 : decode cL_law 229 = .ok (.iload 5, 2) := by decide +kernel
theorem dL_law_231 : decode cL_law 231 = .ok (.iconst 3, 1) := by decide +kernel
theorem dL_law_232 : decode cL_law 232 = .ok (.iadd, 1) := by decide +kernel
theorem dL_law_233 : decode cL_law 233 = .ok (.iaload, 1) := by decide +kernel
theorem dL_law_234 : decode cL_law 234 = .ok (.ifCond .eq 7, 3) := by decide +kernel
theorem dL_law_237 : decode cL_law 237 = .ok (.iconst 1, 1) := by decide +kernel
theorem dL_law_238 : decode cL_law 238 = .ok (.goto 4, 3) := by decide +kernel
theorem dL_law_241 : decode cL_law 241 = .ok (.iconst 0, 1) := by decide +kernel
theorem dL_law_242 : decode cL_law 242 = .ok (.aload_n 0, 1) := by decide +kernel
theorem dL_law_243 : decode cL_law 243 = .ok (.iload 5, 2) := by decide +kernel
theorem dL_law_245 : decode cL_law 245 = .ok (.iconst 4, 1) := by decide +kernel
theorem dL_law_246 : decode cL_law 246 = .ok (.iadd, 1) := by decide +kernel
theorem dL_law_247 : decode cL_law 247 = .ok (.iaload, 1) := by decide +kernel
theorem dL_law_248 : decode cL_law 248 = .ok (.ifCond .eq 7, 3) := by decide +kernel
theorem dL_law_251 : decode cL_law 251 = .ok (.iconst 1, 1) := by decide +kernel
theorem dL_law_252 : decode cL_law 252 = .ok (.goto 4, 3) := by decide +kernel
theorem dL_law_255 : decode cL_law 255 = .ok (.iconst 0, 1) := by decide +kernel
theorem dL_law_256 : decode cL_law 256 = .ok (.invokevirtual 103, 3) := by decide +kernel
theorem dL_law_259 : decode cL_law 259 = .ok (.istore 7, 2) := by decide +kernel
theorem dL_law_261 : decode cL_law 261 = .ok (.aload_n 2, 1) := by decide +kernel
theorem dL_law_262 : decode cL_law 262 = .ok (.invokevirtual 104, 3) := by decide +kernel
theorem dL_law_265 : decode cL_law 265 = .ok (.iload 6, 2) := by decide +kernel
theorem dL_law_267 : decode cL_law 267 = .ok (.if_icmp .eq 5, 3) := by decide +kernel
theorem dL_law_270 : decode cL_law 270 = .ok (.iconst 0, 1) := by decide +kernel
theorem dL_law_271 : decode cL_law 271 = .ok (.ireturn, 1) := by decide +kernel
theorem dL_law_272 : decode cL_law 272 = .ok (.iload 6, 2) := by decide +kernel
theorem dL_law_274 : decode cL_law 274 = .ok (.ifCond .ne 15, 3) := by decide +kernel
theorem dL_law_277 : decode cL_law 277 = .ok (.aload_n 3, 1) := by decide +kernel
theorem dL_law_278 : decode cL_law 278 = .ok (.iconst 0, 1) := by decide +kernel
theorem dL_law_279 : decode cL_law 279 = .ok (.laload, 1) := by decide +kernel
theorem dL_law_280 : decode cL_law 280 = .ok (.iload 7, 2) := by decide +kernel
theorem dL_law_282 : decode cL_law 282 = .ok (.i2l, 1) := by decide +kernel
theorem dL_law_283 : decode cL_law 283 = .ok (.lcmp, 1) := by decide +kernel
theorem dL_law_284 : decode cL_law 284 = .ok (.ifCond .eq 5, 3) := by decide +kernel
theorem dL_law_287 : decode cL_law 287 = .ok (.iconst 0, 1) := by decide +kernel
theorem dL_law_288 : decode cL_law 288 = .ok (.ireturn, 1) := by decide +kernel
theorem dL_law_289 : decode cL_law 289 = .ok (.goto 1516, 3) := by decide +kernel
theorem dL_law_292 : decode cL_law 292 = .ok (.aload_n 1, 1) := by decide +kernel
theorem dL_law_293 : decode cL_law 293 = .ok (.aload_n 0, 1) := by decide +kernel
theorem dL_law_294 : decode cL_law 294 = .ok (.iload 5, 2) := by decide +kernel
theorem dL_law_296 : decode cL_law 296 = .ok (.iconst 1, 1) := by decide +kernel
theorem dL_law_297 : decode cL_law 297 = .ok (.iadd, 1) := by decide +kernel
theorem dL_law_298 : decode cL_law 298 = .ok (.iaload, 1) := by decide +kernel
theorem dL_law_299 : decode cL_law 299 = .ok (.aload_n 3, 1) := by decide +kernel
theorem dL_law_300 : decode cL_law 300 = .ok (.invokestatic 108, 3) := by decide +kernel
theorem dL_law_303 : decode cL_law 303 = .ok (.istore 6, 2) := by decide +kernel
theorem dL_law_305 : decode cL_law 305 = .ok (.aload_n 2, 1) := by decide +kernel
theorem dL_law_306 : decode cL_law 306 = .ok (.aload_n 0, 1) := by decide +kernel
theorem dL_law_307 : decode cL_law 307 = .ok (.iload 5, 2) := by decide +kernel
theorem dL_law_309 : decode cL_law 309 = .ok (.iconst 1, 1) := by decide +kernel
theorem dL_law_310 : decode cL_law 310 = .ok (.iadd, 1) := by decide +kernel
theorem dL_law_311 : decode cL_law 311 = .ok (.iaload, 1) := by decide +kernel
theorem dL_law_312 : decode cL_law 312 = .ok (.invokevirtual 111, 3) := by decide +kernel
theorem dL_law_315 : decode cL_law 315 = .ok (.istore 7, 2) := by decide +kernel
theorem dL_law_317 : decode cL_law 317 = .ok (.aload_n 2, 1) := by decide +kernel
theorem dL_law_318 : decode cL_law 318 = .ok (.invokevirtual 104, 3) := by decide +kernel
theorem dL_law_321 : decode cL_law 321 = .ok (.iload 6, 2) := by decide +kernel
theorem dL_law_323 : decode cL_law 323 = .ok (.if_icmp .eq 5, 3) := by decide +kernel
theorem dL_law_326 : decode cL_law 326 = .ok (.iconst 0, 1) := by decide +kernel
theorem dL_law_327 : decode cL_law 327 = .ok (.ireturn, 1) := by decide +kernel
theorem dL_law_328 : decode cL_law 328 = .ok (.iload 6, 2) := by decide +kernel
theorem dL_law_330 : decode cL_law 330 = .ok (.ifCond .ne 15, 3) := by decide +kernel
theorem dL_law_333 : decode cL_law 333 = .ok (.aload_n 3, 1) := by decide +kernel
theorem dL_law_334 : decode cL_law 334 = .ok (.iconst 0, 1) := by decide +kernel
theorem dL_law_335 : decode cL_law 335 = .ok (.laload, 1) := by decide +kernel
theorem dL_law_336 : decode cL_law 336 = .ok (.iload 7, 2) := by decide +kernel
theorem dL_law_338 : decode cL_law 338 = .ok (.i2l, 1) := by decide +kernel
theorem dL_law_339 : decode cL_law 339 = .ok (.lcmp, 1) := by decide +kernel
theorem dL_law_340 : decode cL_law 340 = .ok (.ifCond .eq 5, 3) := by decide +kernel
theorem dL_law_343 : decode cL_law 343 = .ok (.iconst 0, 1) := by decide +kernel
theorem dL_law_344 : decode cL_law 344 = .ok (.ireturn, 1) := by decide +kernel
theorem dL_law_345 : decode cL_law 345 = .ok (.goto 1460, 3) := by decide +kernel
theorem dL_law_348 : decode cL_law 348 = .ok (.aload_n 1, 1) := by decide +kernel
theorem dL_law_349 : decode cL_law 349 = .ok (.aload_n 0, 1) := by decide +kernel
theorem dL_law_350 : decode cL_law 350 = .ok (.iload 5, 2) := by decide +kernel
theorem dL_law_352 : decode cL_law 352 = .ok (.iconst 1, 1) := by decide +kernel
theorem dL_law_353 : decode cL_law 353 = .ok (.iadd, 1) := by decide +kernel
theorem dL_law_354 : decode cL_law 354 = .ok (.iaload, 1) := by decide +kernel
theorem dL_law_355 : decode cL_law 355 = .ok (.aload_n 3, 1) := by decide +kernel
theorem dL_law_356 : decode cL_law 356 = .ok (.invokestatic 112, 3) := by decide +kernel
theorem dL_law_359 : decode cL_law 359 = .ok (.istore 6, 2) := by decide +kernel
theorem dL_law_361 : decode cL_law 361 = .ok (.aload_n 2, 1) := by decide +kernel
theorem dL_law_362 : decode cL_law 362 = .ok (.aload_n 0, 1) := by decide +kernel
theorem dL_law_363 : decode cL_law 363 = .ok (.iload 5, 2) := by decide +kernel
theorem dL_law_365 : decode cL_law 365 = .ok (.iconst 1, 1) := by decide +kernel
theorem dL_law_366 : decode cL_law 366 = .ok (.iadd, 1) := by decide +kernel
theorem dL_law_367 : decode cL_law 367 = .ok (.iaload, 1) := by decide +kernel
theorem dL_law_368 : decode cL_law 368 = .ok (.invokevirtual 114, 3) := by decide +kernel
theorem dL_law_371 : decode cL_law 371 = .ok (.istore 7, 2) := by decide +kernel
theorem dL_law_373 : decode cL_law 373 = .ok (.aload_n 2, 1) := by decide +kernel
theorem dL_law_374 : decode cL_law 374 = .ok (.invokevirtual 104, 3) := by decide +kernel
theorem dL_law_377 : decode cL_law 377 = .ok (.iload 6, 2) := by decide +kernel
theorem dL_law_379 : decode cL_law 379 = .ok (.if_icmp .eq 5, 3) := by decide +kernel
theorem dL_law_382 : decode cL_law 382 = .ok (.iconst 0, 1) := by decide +kernel
theorem dL_law_383 : decode cL_law 383 = .ok (.ireturn, 1) := by decide +kernel
theorem dL_law_384 : decode cL_law 384 = .ok (.iload 6, 2) := by decide +kernel
theorem dL_law_386 : decode cL_law 386 = .ok (.ifCond .ne 15, 3) := by decide +kernel
theorem dL_law_389 : decode cL_law 389 = .ok (.aload_n 3, 1) := by decide +kernel
theorem dL_law_390 : decode cL_law 390 = .ok (.iconst 0, 1) := by decide +kernel
theorem dL_law_391 : decode cL_law 391 = .ok (.laload, 1) := by decide +kernel
theorem dL_law_392 : decode cL_law 392 = .ok (.iload 7, 2) := by decide +kernel
theorem dL_law_394 : decode cL_law 394 = .ok (.i2l, 1) := by decide +kernel
theorem dL_law_395 : decode cL_law 395 = .ok (.lcmp, 1) := by decide +kernel
theorem dL_law_396 : decode cL_law 396 = .ok (.ifCond .eq 5, 3) := by decide +kernel
theorem dL_law_399 : decode cL_law 399 = .ok (.iconst 0, 1) := by decide +kernel
theorem dL_law_400 : decode cL_law 400 = .ok (.ireturn, 1) := by decide +kernel
theorem dL_law_401 : decode cL_law 401 = .ok (.goto 1404, 3) := by decide +kernel
theorem dL_law_404 : decode cL_law 404 = .ok (.aload_n 1, 1) := by decide +kernel
theorem dL_law_405 : decode cL_law 405 = .ok (.aload_n 0, 1) := by decide +kernel
theorem dL_law_406 : decode cL_law 406 = .ok (.iload 5, 2) := by decide +kernel
theorem dL_law_408 : decode cL_law 408 = .ok (.iconst 1, 1) := by decide +kernel
theorem dL_law_409 : decode cL_law 409 = .ok (.iadd, 1) := by decide +kernel
theorem dL_law_410 : decode cL_law 410 = .ok (.iaload, 1) := by decide +kernel
theorem dL_law_411 : decode cL_law 411 = .ok (.aload_n 3, 1) := by decide +kernel
theorem dL_law_412 : decode cL_law 412 = .ok (.invokestatic 115, 3) := by decide +kernel
theorem dL_law_415 : decode cL_law 415 = .ok (.istore 6, 2) := by decide +kernel
theorem dL_law_417 : decode cL_law 417 = .ok (.aload_n 2, 1) := by decide +kernel
theorem dL_law_418 : decode cL_law 418 = .ok (.aload_n 0, 1) := by decide +kernel
theorem dL_law_419 : decode cL_law 419 = .ok (.iload 5, 2) := by decide +kernel
theorem dL_law_421 : decode cL_law 421 = .ok (.iconst 1, 1) := by decide +kernel
theorem dL_law_422 : decode cL_law 422 = .ok (.iadd, 1) := by decide +kernel
theorem dL_law_423 : decode cL_law 423 = .ok (.iaload, 1) := by decide +kernel
theorem dL_law_424 : decode cL_law 424 = .ok (.invokevirtual 117, 3) := by decide +kernel
theorem dL_law_427 : decode cL_law 427 = .ok (.istore 7, 2) := by decide +kernel
theorem dL_law_429 : decode cL_law 429 = .ok (.aload_n 2, 1) := by decide +kernel
theorem dL_law_430 : decode cL_law 430 = .ok (.invokevirtual 104, 3) := by decide +kernel
theorem dL_law_433 : decode cL_law 433 = .ok (.iload 6, 2) := by decide +kernel
theorem dL_law_435 : decode cL_law 435 = .ok (.if_icmp .eq 5, 3) := by decide +kernel
theorem dL_law_438 : decode cL_law 438 = .ok (.iconst 0, 1) := by decide +kernel
theorem dL_law_439 : decode cL_law 439 = .ok (.ireturn, 1) := by decide +kernel
theorem dL_law_440 : decode cL_law 440 = .ok (.iload 6, 2) := by decide +kernel
theorem dL_law_442 : decode cL_law 442 = .ok (.ifCond .ne 15, 3) := by decide +kernel
theorem dL_law_445 : decode cL_law 445 = .ok (.aload_n 3, 1) := by decide +kernel
theorem dL_law_446 : decode cL_law 446 = .ok (.iconst 0, 1) := by decide +kernel
theorem dL_law_447 : decode cL_law 447 = .ok (.laload, 1) := by decide +kernel
theorem dL_law_448 : decode cL_law 448 = .ok (.iload 7, 2) := by decide +kernel
theorem dL_law_450 : decode cL_law 450 = .ok (.i2l, 1) := by decide +kernel
theorem dL_law_451 : decode cL_law 451 = .ok (.lcmp, 1) := by decide +kernel
theorem dL_law_452 : decode cL_law 452 = .ok (.ifCond .eq 5, 3) := by decide +kernel
theorem dL_law_455 : decode cL_law 455 = .ok (.iconst 0, 1) := by decide +kernel
theorem dL_law_456 : decode cL_law 456 = .ok (.ireturn, 1) := by decide +kernel
theorem dL_law_457 : decode cL_law 457 = .ok (.goto 1348, 3) := by decide +kernel
theorem dL_law_460 : decode cL_law 460 = .ok (.aload_n 1, 1) := by decide +kernel
theorem dL_law_461 : decode cL_law 461 = .ok (.aload_n 0, 1) := by decide +kernel
theorem dL_law_462 : decode cL_law 462 = .ok (.iload 5, 2) := by decide +kernel
theorem dL_law_464 : decode cL_law 464 = .ok (.iconst 1, 1) := by decide +kernel
theorem dL_law_465 : decode cL_law 465 = .ok (.iadd, 1) := by decide +kernel
theorem dL_law_466 : decode cL_law 466 = .ok (.iaload, 1) := by decide +kernel
theorem dL_law_467 : decode cL_law 467 = .ok (.aload_n 3, 1) := by decide +kernel
theorem dL_law_468 : decode cL_law 468 = .ok (.invokestatic 118, 3) := by decide +kernel
theorem dL_law_471 : decode cL_law 471 = .ok (.istore 6, 2) := by decide +kernel
theorem dL_law_473 : decode cL_law 473 = .ok (.aload_n 2, 1) := by decide +kernel
theorem dL_law_474 : decode cL_law 474 = .ok (.aload_n 0, 1) := by decide +kernel
theorem dL_law_475 : decode cL_law 475 = .ok (.iload 5, 2) := by decide +kernel
theorem dL_law_477 : decode cL_law 477 = .ok (.iconst 1, 1) := by decide +kernel
theorem dL_law_478 : decode cL_law 478 = .ok (.iadd, 1) := by decide +kernel
theorem dL_law_479 : decode cL_law 479 = .ok (.iaload, 1) := by decide +kernel
theorem dL_law_480 : decode cL_law 480 = .ok (.invokevirtual 120, 3) := by decide +kernel
theorem dL_law_483 : decode cL_law 483 = .ok (.istore 7, 2) := by decide +kernel
theorem dL_law_485 : decode cL_law 485 = .ok (.aload_n 2, 1) := by decide +kernel
theorem dL_law_486 : decode cL_law 486 = .ok (.invokevirtual 104, 3) := by decide +kernel
theorem dL_law_489 : decode cL_law 489 = .ok (.iload 6, 2) := by decide +kernel
theorem dL_law_491 : decode cL_law 491 = .ok (.if_icmp .eq 5, 3) := by decide +kernel
theorem dL_law_494 : decode cL_law 494 = .ok (.iconst 0, 1) := by decide +kernel
theorem dL_law_495 : decode cL_law 495 = .ok (.ireturn, 1) := by decide +kernel
theorem dL_law_496 : decode cL_law 496 = .ok (.iload 6, 2) := by decide +kernel
theorem dL_law_498 : decode cL_law 498 = .ok (.ifCond .ne 15, 3) := by decide +kernel
theorem dL_law_501 : decode cL_law 501 = .ok (.aload_n 3, 1) := by decide +kernel
theorem dL_law_502 : decode cL_law 502 = .ok (.iconst 0, 1) := by decide +kernel
theorem dL_law_503 : decode cL_law 503 = .ok (.laload, 1) := by decide +kernel
theorem dL_law_504 : decode cL_law 504 = .ok (.iload 7, 2) := by decide +kernel
theorem dL_law_506 : decode cL_law 506 = .ok (.i2l, 1) := by decide +kernel
theorem dL_law_507 : decode cL_law 507 = .ok (.lcmp, 1) := by decide +kernel
theorem dL_law_508 : decode cL_law 508 = .ok (.ifCond .eq 5, 3) := by decide +kernel
theorem dL_law_511 : decode cL_law 511 = .ok (.iconst 0, 1) := by decide +kernel
theorem dL_law_512 : decode cL_law 512 = .ok (.ireturn, 1) := by decide +kernel
theorem dL_law_513 : decode cL_law 513 = .ok (.goto 1292, 3) := by decide +kernel
theorem dL_law_516 : decode cL_law 516 = .ok (.aload_n 1, 1) := by decide +kernel
theorem dL_law_517 : decode cL_law 517 = .ok (.aload_n 0, 1) := by decide +kernel
theorem dL_law_518 : decode cL_law 518 = .ok (.iload 5, 2) := by decide +kernel
theorem dL_law_520 : decode cL_law 520 = .ok (.iconst 1, 1) := by decide +kernel
theorem dL_law_521 : decode cL_law 521 = .ok (.iadd, 1) := by decide +kernel
theorem dL_law_522 : decode cL_law 522 = .ok (.iaload, 1) := by decide +kernel
theorem dL_law_523 : decode cL_law 523 = .ok (.aload 4, 2) := by decide +kernel
theorem dL_law_525 : decode cL_law 525 = .ok (.invokestatic 121, 3) := by decide +kernel
theorem dL_law_528 : decode cL_law 528 = .ok (.istore 6, 2) := by decide +kernel
theorem dL_law_530 : decode cL_law 530 = .ok (.aload_n 2, 1) := by decide +kernel
theorem dL_law_531 : decode cL_law 531 = .ok (.aload_n 0, 1) := by decide +kernel
theorem dL_law_532 : decode cL_law 532 = .ok (.iload 5, 2) := by decide +kernel
theorem dL_law_534 : decode cL_law 534 = .ok (.iconst 1, 1) := by decide +kernel
theorem dL_law_535 : decode cL_law 535 = .ok (.iadd, 1) := by decide +kernel
theorem dL_law_536 : decode cL_law 536 = .ok (.iaload, 1) := by decide +kernel
theorem dL_law_537 : decode cL_law 537 = .ok (.invokevirtual 124, 3) := by decide +kernel
theorem dL_law_540 : decode cL_law 540 = .ok (.dstore 7, 2) := by decide +kernel
theorem dL_law_542 : decode cL_law 542 = .ok (.aload_n 2, 1) := by decide +kernel
theorem dL_law_543 : decode cL_law 543 = .ok (.invokevirtual 104, 3) := by decide +kernel
theorem dL_law_546 : decode cL_law 546 = .ok (.iload 6, 2) := by decide +kernel
theorem dL_law_548 : decode cL_law 548 = .ok (.if_icmp .eq 5, 3) := by decide +kernel
theorem dL_law_551 : decode cL_law 551 = .ok (.iconst 0, 1) := by decide +kernel
theorem dL_law_552 : decode cL_law 552 = .ok (.ireturn, 1) := by decide +kernel
theorem dL_law_553 : decode cL_law 553 = .ok (.iload 6, 2) := by decide +kernel
theorem dL_law_555 : decode cL_law 555 = .ok (.ifCond .ne 35, 3) := by decide +kernel
theorem dL_law_558 : decode cL_law 558 = .ok (.aload 4, 2) := by decide +kernel
theorem dL_law_560 : decode cL_law 560 = .ok (.iconst 0, 1) := by decide +kernel
theorem dL_law_561 : decode cL_law 561 = .ok (.daload, 1) := by decide +kernel
theorem dL_law_562 : decode cL_law 562 = .ok (.dload 7, 2) := by decide +kernel
theorem dL_law_564 : decode cL_law 564 = .ok (.dcmp .l, 1) := by decide +kernel
theorem dL_law_565 : decode cL_law 565 = .ok (.ifCond .eq 25, 3) := by decide +kernel
theorem dL_law_568 : decode cL_law 568 = .ok (.aload 4, 2) := by decide +kernel
theorem dL_law_570 : decode cL_law 570 = .ok (.iconst 0, 1) := by decide +kernel
theorem dL_law_571 : decode cL_law 571 = .ok (.daload, 1) := by decide +kernel
theorem dL_law_572 : decode cL_law 572 = .ok (.aload 4, 2) := by decide +kernel
theorem dL_law_574 : decode cL_law 574 = .ok (.iconst 0, 1) := by decide +kernel
theorem dL_law_575 : decode cL_law 575 = .ok (.daload, 1) := by decide +kernel
theorem dL_law_576 : decode cL_law 576 = .ok (.dcmp .l, 1) := by decide +kernel
theorem dL_law_577 : decode cL_law 577 = .ok (.ifCond .eq 11, 3) := by decide +kernel
theorem dL_law_580 : decode cL_law 580 = .ok (.dload 7, 2) := by decide +kernel
theorem dL_law_582 : decode cL_law 582 = .ok (.dload 7, 2) := by decide +kernel
theorem dL_law_584 : decode cL_law 584 = .ok (.dcmp .l, 1) := by decide +kernel
theorem dL_law_585 : decode cL_law 585 = .ok (.ifCond .ne 5, 3) := by decide +kernel
theorem dL_law_588 : decode cL_law 588 = .ok (.iconst 0, 1) := by decide +kernel
theorem dL_law_589 : decode cL_law 589 = .ok (.ireturn, 1) := by decide +kernel
theorem dL_law_590 : decode cL_law 590 = .ok (.goto 1215, 3) := by decide +kernel
theorem dL_law_593 : decode cL_law 593 = .ok (.aload_n 1, 1) := by decide +kernel
theorem dL_law_594 : decode cL_law 594 = .ok (.aload_n 0, 1) := by decide +kernel
theorem dL_law_595 : decode cL_law 595 = .ok (.iload 5, 2) := by decide +kernel
theorem dL_law_597 : decode cL_law 597 = .ok (.iconst 1, 1) := by decide +kernel
theorem dL_law_598 : decode cL_law 598 = .ok (.iadd, 1) := by decide +kernel
theorem dL_law_599 : decode cL_law 599 = .ok (.iaload, 1) := by decide +kernel
theorem dL_law_600 : decode cL_law 600 = .ok (.aload_n 3, 1) := by decide +kernel
theorem dL_law_601 : decode cL_law 601 = .ok (.invokestatic 125, 3) := by decide +kernel
theorem dL_law_604 : decode cL_law 604 = .ok (.istore 6, 2) := by decide +kernel
theorem dL_law_606 : decode cL_law 606 = .ok (.aload_n 2, 1) := by decide +kernel
theorem dL_law_607 : decode cL_law 607 = .ok (.aload_n 0, 1) := by decide +kernel
theorem dL_law_608 : decode cL_law 608 = .ok (.iload 5, 2) := by decide +kernel
theorem dL_law_610 : decode cL_law 610 = .ok (.iconst 1, 1) := by decide +kernel
theorem dL_law_611 : decode cL_law 611 = .ok (.iadd, 1) := by decide +kernel
theorem dL_law_612 : decode cL_law 612 = .ok (.iaload, 1) := by decide +kernel
theorem dL_law_613 : decode cL_law 613 = .ok (.invokevirtual 127, 3) := by decide +kernel
theorem dL_law_616 : decode cL_law 616 = .ok (.istore 7, 2) := by decide +kernel
theorem dL_law_618 : decode cL_law 618 = .ok (.aload_n 2, 1) := by decide +kernel
theorem dL_law_619 : decode cL_law 619 = .ok (.invokevirtual 104, 3) := by decide +kernel
theorem dL_law_622 : decode cL_law 622 = .ok (.iload 6, 2) := by decide +kernel
theorem dL_law_624 : decode cL_law 624 = .ok (.if_icmp .eq 5, 3) := by decide +kernel
theorem dL_law_627 : decode cL_law 627 = .ok (.iconst 0, 1) := by decide +kernel
theorem dL_law_628 : decode cL_law 628 = .ok (.ireturn, 1) := by decide +kernel
theorem dL_law_629 : decode cL_law 629 = .ok (.iload 6, 2) := by decide +kernel
theorem dL_law_631 : decode cL_law 631 = .ok (.ifCond .ne 22, 3) := by decide +kernel
theorem dL_law_634 : decode cL_law 634 = .ok (.aload_n 3, 1) := by decide +kernel
theorem dL_law_635 : decode cL_law 635 = .ok (.iconst 0, 1) := by decide +kernel
theorem dL_law_636 : decode cL_law 636 = .ok (.laload, 1) := by decide +kernel
theorem dL_law_637 : decode cL_law 637 = .ok (.iload 7, 2) := by decide +kernel
theorem dL_law_639 : decode cL_law 639 = .ok (.ifCond .eq 7, 3) := by decide +kernel
theorem dL_law_642 : decode cL_law 642 = .ok (.lconst 1, 1) := by decide +kernel
theorem dL_law_643 : decode cL_law 643 = .ok (.goto 4, 3) := by decide +kernel
theorem dL_law_646 : decode cL_law 646 = .ok (.lconst 0, 1) := by decide +kernel
theorem dL_law_647 : decode cL_law 647 = .ok (.lcmp, 1) := by decide +kernel
theorem dL_law_648 : decode cL_law 648 = .ok (.ifCond .eq 5, 3) := by decide +kernel
theorem dL_law_651 : decode cL_law 651 = .ok (.iconst 0, 1) := by decide +kernel
theorem dL_law_652 : decode cL_law 652 = .ok (.ireturn, 1) := by decide +kernel
theorem dL_law_653 : decode cL_law 653 = .ok (.goto 1152, 3) := by decide +kernel
theorem dL_law_656 : decode cL_law 656 = .ok (.aload_n 1, 1) := by decide +kernel
theorem dL_law_657 : decode cL_law 657 = .ok (.aload_n 0, 1) := by decide +kernel
theorem dL_law_658 : decode cL_law 658 = .ok (.iload 5, 2) := by decide +kernel
theorem dL_law_660 : decode cL_law 660 = .ok (.iconst 1, 1) := by decide +kernel
theorem dL_law_661 : decode cL_law 661 = .ok (.iadd, 1) := by decide +kernel
theorem dL_law_662 : decode cL_law 662 = .ok (.iaload, 1) := by decide +kernel
theorem dL_law_663 : decode cL_law 663 = .ok (.aload_n 3, 1) := by decide +kernel
theorem dL_law_664 : decode cL_law 664 = .ok (.invokestatic 128, 3) := by decide +kernel
theorem dL_law_667 : decode cL_law 667 = .ok (.istore 6, 2) := by decide +kernel
theorem dL_law_669 : decode cL_law 669 = .ok (.aload_n 2, 1) := by decide +kernel
theorem dL_law_670 : decode cL_law 670 = .ok (.aload_n 0, 1) := by decide +kernel
theorem dL_law_671 : decode cL_law 671 = .ok (.iload 5, 2) := by decide +kernel
theorem dL_law_673 : decode cL_law 673 = .ok (.iconst 1, 1) := by decide +kernel
theorem dL_law_674 : decode cL_law 674 = .ok (.iadd, 1) := by decide +kernel
theorem dL_law_675 : decode cL_law 675 = .ok (.iaload, 1) := by decide +kernel
theorem dL_law_676 : decode cL_law 676 = .ok (.invokevirtual 130, 3) := by decide +kernel
theorem dL_law_679 : decode cL_law 679 = .ok (.lstore 7, 2) := by decide +kernel
theorem dL_law_681 : decode cL_law 681 = .ok (.aload_n 2, 1) := by decide +kernel
theorem dL_law_682 : decode cL_law 682 = .ok (.invokevirtual 104, 3) := by decide +kernel
theorem dL_law_685 : decode cL_law 685 = .ok (.iload 6, 2) := by decide +kernel
theorem dL_law_687 : decode cL_law 687 = .ok (.if_icmp .eq 5, 3) := by decide +kernel
theorem dL_law_690 : decode cL_law 690 = .ok (.iconst 0, 1) := by decide +kernel
theorem dL_law_691 : decode cL_law 691 = .ok (.ireturn, 1) := by decide +kernel
theorem dL_law_692 : decode cL_law 692 = .ok (.iload 6, 2) := by decide +kernel
theorem dL_law_694 : decode cL_law 694 = .ok (.ifCond .ne 14, 3) := by decide +kernel
theorem dL_law_697 : decode cL_law 697 = .ok (.aload_n 3, 1) := by decide +kernel
theorem dL_law_698 : decode cL_law 698 = .ok (.iconst 0, 1) := by decide +kernel
theorem dL_law_699 : decode cL_law 699 = .ok (.laload, 1) := by decide +kernel
theorem dL_law_700 : decode cL_law 700 = .ok (.lload 7, 2) := by decide +kernel
theorem dL_law_702 : decode cL_law 702 = .ok (.lcmp, 1) := by decide +kernel
theorem dL_law_703 : decode cL_law 703 = .ok (.ifCond .eq 5, 3) := by decide +kernel
theorem dL_law_706 : decode cL_law 706 = .ok (.iconst 0, 1) := by decide +kernel
theorem dL_law_707 : decode cL_law 707 = .ok (.ireturn, 1) := by decide +kernel
theorem dL_law_708 : decode cL_law 708 = .ok (.goto 1097, 3) := by decide +kernel
theorem dL_law_711 : decode cL_law 711 = .ok (.aload_n 1, 1) := by decide +kernel
theorem dL_law_712 : decode cL_law 712 = .ok (.aload_n 0, 1) := by decide +kernel
theorem dL_law_713 : decode cL_law 713 = .ok (.iload 5, 2) := by decide +kernel
theorem dL_law_715 : decode cL_law 715 = .ok (.iconst 1, 1) := by decide +kernel
theorem dL_law_716 : decode cL_law 716 = .ok (.iadd, 1) := by decide +kernel
theorem dL_law_717 : decode cL_law 717 = .ok (.iaload, 1) := by decide +kernel
theorem dL_law_718 : decode cL_law 718 = .ok (.aload_n 0, 1) := by decide +kernel
theorem dL_law_719 : decode cL_law 719 = .ok (.iload 5, 2) := by decide +kernel
theorem dL_law_721 : decode cL_law 721 = .ok (.iconst 2, 1) := by decide +kernel
theorem dL_law_722 : decode cL_law 722 = .ok (.iadd, 1) := by decide +kernel
theorem dL_law_723 : decode cL_law 723 = .ok (.iaload, 1) := by decide +kernel
theorem dL_law_724 : decode cL_law 724 = .ok (.aload_n 3, 1) := by decide +kernel
theorem dL_law_725 : decode cL_law 725 = .ok (.invokestatic 131, 3) := by decide +kernel
theorem dL_law_728 : decode cL_law 728 = .ok (.istore 6, 2) := by decide +kernel
theorem dL_law_730 : decode cL_law 730 = .ok (.aload_n 2, 1) := by decide +kernel
theorem dL_law_731 : decode cL_law 731 = .ok (.aload_n 0, 1) := by decide +kernel
theorem dL_law_732 : decode cL_law 732 = .ok (.iload 5, 2) := by decide +kernel
theorem dL_law_734 : decode cL_law 734 = .ok (.iconst 1, 1) := by decide +kernel
theorem dL_law_735 : decode cL_law 735 = .ok (.iadd, 1) := by decide +kernel
theorem dL_law_736 : decode cL_law 736 = .ok (.iaload, 1) := by decide +kernel
theorem dL_law_737 : decode cL_law 737 = .ok (.aload_n 0, 1) := by decide +kernel
theorem dL_law_738 : decode cL_law 738 = .ok (.iload 5, 2) := by decide +kernel
theorem dL_law_740 : decode cL_law 740 = .ok (.iconst 2, 1) := by decide +kernel
theorem dL_law_741 : decode cL_law 741 = .ok (.iadd, 1) := by decide +kernel
theorem dL_law_742 : decode cL_law 742 = .ok (.iaload, 1) := by decide +kernel
theorem dL_law_743 : decode cL_law 743 = .ok (.invokevirtual 134, 3) := by decide +kernel
theorem dL_law_746 : decode cL_law 746 = .ok (.istore 7, 2) := by decide +kernel
theorem dL_law_748 : decode cL_law 748 = .ok (.aload_n 2, 1) := by decide +kernel
theorem dL_law_749 : decode cL_law 749 = .ok (.invokevirtual 104, 3) := by decide +kernel
theorem dL_law_752 : decode cL_law 752 = .ok (.iload 6, 2) := by decide +kernel
theorem dL_law_754 : decode cL_law 754 = .ok (.if_icmp .eq 5, 3) := by decide +kernel
theorem dL_law_757 : decode cL_law 757 = .ok (.iconst 0, 1) := by decide +kernel
theorem dL_law_758 : decode cL_law 758 = .ok (.ireturn, 1) := by decide +kernel
theorem dL_law_759 : decode cL_law 759 = .ok (.iload 6, 2) := by decide +kernel
theorem dL_law_761 : decode cL_law 761 = .ok (.ifCond .ne 15, 3) := by decide +kernel
theorem dL_law_764 : decode cL_law 764 = .ok (.aload_n 3, 1) := by decide +kernel
theorem dL_law_765 : decode cL_law 765 = .ok (.iconst 0, 1) := by decide +kernel
theorem dL_law_766 : decode cL_law 766 = .ok (.laload, 1) := by decide +kernel
theorem dL_law_767 : decode cL_law 767 = .ok (.iload 7, 2) := by decide +kernel
theorem dL_law_769 : decode cL_law 769 = .ok (.i2l, 1) := by decide +kernel
theorem dL_law_770 : decode cL_law 770 = .ok (.lcmp, 1) := by decide +kernel
theorem dL_law_771 : decode cL_law 771 = .ok (.ifCond .eq 5, 3) := by decide +kernel
theorem dL_law_774 : decode cL_law 774 = .ok (.iconst 0, 1) := by decide +kernel
theorem dL_law_775 : decode cL_law 775 = .ok (.ireturn, 1) := by decide +kernel
theorem dL_law_776 : decode cL_law 776 = .ok (.goto 1029, 3) := by decide +kernel
theorem dL_law_779 : decode cL_law 779 = .ok (.aload_n 1, 1) := by decide +kernel
theorem dL_law_780 : decode cL_law 780 = .ok (.aload_n 0, 1) := by decide +kernel
theorem dL_law_781 : decode cL_law 781 = .ok (.iload 5, 2) := by decide +kernel
theorem dL_law_783 : decode cL_law 783 = .ok (.iconst 1, 1) := by decide +kernel
theorem dL_law_784 : decode cL_law 784 = .ok (.iadd, 1) := by decide +kernel
theorem dL_law_785 : decode cL_law 785 = .ok (.iaload, 1) := by decide +kernel
theorem dL_law_786 : decode cL_law 786 = .ok (.aload_n 0, 1) := by decide +kernel
theorem dL_law_787 : decode cL_law 787 = .ok (.iload 5, 2) := by decide +kernel
theorem dL_law_789 : decode cL_law 789 = .ok (.iconst 2, 1) := by decide +kernel
theorem dL_law_790 : decode cL_law 790 = .ok (.iadd, 1) := by decide +kernel
theorem dL_law_791 : decode cL_law 791 = .ok (.iaload, 1) := by decide +kernel
theorem dL_law_792 : decode cL_law 792 = .ok (.aload_n 3, 1) := by decide +kernel
theorem dL_law_793 : decode cL_law 793 = .ok (.invokestatic 135, 3) := by decide +kernel
theorem dL_law_796 : decode cL_law 796 = .ok (.istore 6, 2) := by decide +kernel
theorem dL_law_798 : decode cL_law 798 = .ok (.aload_n 2, 1) := by decide +kernel
theorem dL_law_799 : decode cL_law 799 = .ok (.aload_n 0, 1) := by decide +kernel
theorem dL_law_800 : decode cL_law 800 = .ok (.iload 5, 2) := by decide +kernel
theorem dL_law_802 : decode cL_law 802 = .ok (.iconst 1, 1) := by decide +kernel
theorem dL_law_803 : decode cL_law 803 = .ok (.iadd, 1) := by decide +kernel
theorem dL_law_804 : decode cL_law 804 = .ok (.iaload, 1) := by decide +kernel
theorem dL_law_805 : decode cL_law 805 = .ok (.aload_n 0, 1) := by decide +kernel
theorem dL_law_806 : decode cL_law 806 = .ok (.iload 5, 2) := by decide +kernel
theorem dL_law_808 : decode cL_law 808 = .ok (.iconst 2, 1) := by decide +kernel
theorem dL_law_809 : decode cL_law 809 = .ok (.iadd, 1) := by decide +kernel
theorem dL_law_810 : decode cL_law 810 = .ok (.iaload, 1) := by decide +kernel
theorem dL_law_811 : decode cL_law 811 = .ok (.invokevirtual 137, 3) := by decide +kernel
theorem dL_law_814 : decode cL_law 814 = .ok (.istore 7, 2) := by decide +kernel
theorem dL_law_816 : decode cL_law 816 = .ok (.aload_n 2, 1) := by decide +kernel
theorem dL_law_817 : decode cL_law 817 = .ok (.invokevirtual 104, 3) := by decide +kernel
theorem dL_law_820 : decode cL_law 820 = .ok (.iload 6, 2) := by decide +kernel
theorem dL_law_822 : decode cL_law 822 = .ok (.if_icmp .eq 5, 3) := by decide +kernel
theorem dL_law_825 : decode cL_law 825 = .ok (.iconst 0, 1) := by decide +kernel
theorem dL_law_826 : decode cL_law 826 = .ok (.ireturn, 1) := by decide +kernel
theorem dL_law_827 : decode cL_law 827 = .ok (.iload 6, 2) := by decide +kernel
theorem dL_law_829 : decode cL_law 829 = .ok (.ifCond .ne 15, 3) := by decide +kernel
theorem dL_law_832 : decode cL_law 832 = .ok (.aload_n 3, 1) := by decide +kernel
theorem dL_law_833 : decode cL_law 833 = .ok (.iconst 0, 1) := by decide +kernel
theorem dL_law_834 : decode cL_law 834 = .ok (.laload, 1) := by decide +kernel
theorem dL_law_835 : decode cL_law 835 = .ok (.iload 7, 2) := by decide +kernel
theorem dL_law_837 : decode cL_law 837 = .ok (.i2l, 1) := by decide +kernel
theorem dL_law_838 : decode cL_law 838 = .ok (.lcmp, 1) := by decide +kernel
theorem dL_law_839 : decode cL_law 839 = .ok (.ifCond .eq 5, 3) := by decide +kernel
theorem dL_law_842 : decode cL_law 842 = .ok (.iconst 0, 1) := by decide +kernel
theorem dL_law_843 : decode cL_law 843 = .ok (.ireturn, 1) := by decide +kernel
theorem dL_law_844 : decode cL_law 844 = .ok (.goto 961, 3) := by decide +kernel
theorem dL_law_847 : decode cL_law 847 = .ok (.aload_n 1, 1) := by decide +kernel
theorem dL_law_848 : decode cL_law 848 = .ok (.invokevirtual 138, 3) := by decide +kernel
theorem dL_law_851 : decode cL_law 851 = .ok (.aload_n 2, 1) := by decide +kernel
theorem dL_law_852 : decode cL_law 852 = .ok (.invokevirtual 141, 3) := by decide +kernel
theorem dL_law_855 : decode cL_law 855 = .ok (.if_icmp .eq 950, 3) := by decide +kernel
theorem dL_law_858 : decode cL_law 858 = .ok (.iconst 0, 1) := by decide +kernel
theorem dL_law_859 : decode cL_law 859 = .ok (.ireturn, 1) := by decide +kernel
theorem dL_law_860 : decode cL_law 860 = .ok (.aload_n 1, 1) := by decide +kernel
theorem dL_law_861 : decode cL_law 861 = .ok (.aload_n 0, 1) := by decide +kernel
theorem dL_law_862 : decode cL_law 862 = .ok (.iload 5, 2) := by decide +kernel
theorem dL_law_864 : decode cL_law 864 = .ok (.iconst 1, 1) := by decide +kernel
theorem dL_law_865 : decode cL_law 865 = .ok (.iadd, 1) := by decide +kernel
theorem dL_law_866 : decode cL_law 866 = .ok (.iaload, 1) := by decide +kernel
theorem dL_law_867 : decode cL_law 867 = .ok (.aload_n 0, 1) := by decide +kernel
theorem dL_law_868 : decode cL_law 868 = .ok (.iload 5, 2) := by decide +kernel
theorem dL_law_870 : decode cL_law 870 = .ok (.iconst 2, 1) := by decide +kernel
theorem dL_law_871 : decode cL_law 871 = .ok (.iadd, 1) := by decide +kernel
theorem dL_law_872 : decode cL_law 872 = .ok (.iaload, 1) := by decide +kernel
theorem dL_law_873 : decode cL_law 873 = .ok (.aload_n 3, 1) := by decide +kernel
theorem dL_law_874 : decode cL_law 874 = .ok (.invokestatic 142, 3) := by decide +kernel
theorem dL_law_877 : decode cL_law 877 = .ok (.istore 6, 2) := by decide +kernel
theorem dL_law_879 : decode cL_law 879 = .ok (.aload_n 2, 1) := by decide +kernel
theorem dL_law_880 : decode cL_law 880 = .ok (.aload_n 0, 1) := by decide +kernel
theorem dL_law_881 : decode cL_law 881 = .ok (.iload 5, 2) := by decide +kernel
theorem dL_law_883 : decode cL_law 883 = .ok (.iconst 1, 1) := by decide +kernel
theorem dL_law_884 : decode cL_law 884 = .ok (.iadd, 1) := by decide +kernel
theorem dL_law_885 : decode cL_law 885 = .ok (.iaload, 1) := by decide +kernel
theorem dL_law_886 : decode cL_law 886 = .ok (.aload_n 0, 1) := by decide +kernel
theorem dL_law_887 : decode cL_law 887 = .ok (.iload 5, 2) := by decide +kernel
theorem dL_law_889 : decode cL_law 889 = .ok (.iconst 2, 1) := by decide +kernel
theorem dL_law_890 : decode cL_law 890 = .ok (.iadd, 1) := by decide +kernel
theorem dL_law_891 : decode cL_law 891 = .ok (.iaload, 1) := by decide +kernel
theorem dL_law_892 : decode cL_law 892 = .ok (.invokevirtual 144, 3) := by decide +kernel
theorem dL_law_895 : decode cL_law 895 = .ok (.istore 7, 2) := by decide +kernel
theorem dL_law_897 : decode cL_law 897 = .ok (.aload_n 2, 1) := by decide +kernel
theorem dL_law_898 : decode cL_law 898 = .ok (.invokevirtual 104, 3) := by decide +kernel
theorem dL_law_901 : decode cL_law 901 = .ok (.iload 6, 2) := by decide +kernel
theorem dL_law_903 : decode cL_law 903 = .ok (.if_icmp .eq 5, 3) := by decide +kernel
theorem dL_law_906 : decode cL_law 906 = .ok (.iconst 0, 1) := by decide +kernel
theorem dL_law_907 : decode cL_law 907 = .ok (.ireturn, 1) := by decide +kernel
theorem dL_law_908 : decode cL_law 908 = .ok (.iload 6, 2) := by decide +kernel
theorem dL_law_910 : decode cL_law 910 = .ok (.ifCond .ne 22, 3) := by decide +kernel
theorem dL_law_913 : decode cL_law 913 = .ok (.aload_n 3, 1) := by decide +kernel
theorem dL_law_914 : decode cL_law 914 = .ok (.iconst 0, 1) := by decide +kernel
theorem dL_law_915 : decode cL_law 915 = .ok (.laload, 1) := by decide +kernel
theorem dL_law_916 : decode cL_law 916 = .ok (.iload 7, 2) := by decide +kernel
theorem dL_law_918 : decode cL_law 918 = .ok (.ifCond .eq 7, 3) := by decide +kernel
theorem dL_law_921 : decode cL_law 921 = .ok (.lconst 1, 1) := by decide +kernel
theorem dL_law_922 : decode cL_law 922 = .ok (.goto 4, 3) := by decide +kernel
theorem dL_law_925 : decode cL_law 925 = .ok (.lconst 0, 1) := by decide +kernel
theorem dL_law_926 : decode cL_law 926 = .ok (.lcmp, 1) := by decide +kernel
theorem dL_law_927 : decode cL_law 927 = .ok (.ifCond .eq 5, 3) := by decide +kernel
theorem dL_law_930 : decode cL_law 930 = .ok (.iconst 0, 1) := by decide +kernel
theorem dL_law_931 : decode cL_law 931 = .ok (.ireturn, 1) := by decide +kernel
theorem dL_law_932 : decode cL_law 932 = .ok (.goto 873, 3) := by decide +kernel
theorem dL_law_935 : decode cL_law 935 = .ok (.aload_n 1, 1) := by decide +kernel
theorem dL_law_936 : decode cL_law 936 = .ok (.aload_n 0, 1) := by decide +kernel
theorem dL_law_937 : decode cL_law 937 = .ok (.iload 5, 2) := by decide +kernel
theorem dL_law_939 : decode cL_law 939 = .ok (.iconst 1, 1) := by decide +kernel
theorem dL_law_940 : decode cL_law 940 = .ok (.iadd, 1) := by decide +kernel
theorem dL_law_941 : decode cL_law 941 = .ok (.iaload, 1) := by decide +kernel
theorem dL_law_942 : decode cL_law 942 = .ok (.aload_n 0, 1) := by decide +kernel
theorem dL_law_943 : decode cL_law 943 = .ok (.iload 5, 2) := by decide +kernel
theorem dL_law_945 : decode cL_law 945 = .ok (.iconst 2, 1) := by decide +kernel
theorem dL_law_946 : decode cL_law 946 = .ok (.iadd, 1) := by decide +kernel
theorem dL_law_947 : decode cL_law 947 = .ok (.iaload, 1) := by decide +kernel
theorem dL_law_948 : decode cL_law 948 = .ok (.aload_n 3, 1) := by decide +kernel
theorem dL_law_949 : decode cL_law 949 = .ok (.invokestatic 145, 3) := by decide +kernel
theorem dL_law_952 : decode cL_law 952 = .ok (.istore 6, 2) := by decide +kernel
theorem dL_law_954 : decode cL_law 954 = .ok (.aload_n 2, 1) := by decide +kernel
theorem dL_law_955 : decode cL_law 955 = .ok (.aload_n 0, 1) := by decide +kernel
theorem dL_law_956 : decode cL_law 956 = .ok (.iload 5, 2) := by decide +kernel
theorem dL_law_958 : decode cL_law 958 = .ok (.iconst 1, 1) := by decide +kernel
theorem dL_law_959 : decode cL_law 959 = .ok (.iadd, 1) := by decide +kernel
theorem dL_law_960 : decode cL_law 960 = .ok (.iaload, 1) := by decide +kernel
theorem dL_law_961 : decode cL_law 961 = .ok (.aload_n 0, 1) := by decide +kernel
theorem dL_law_962 : decode cL_law 962 = .ok (.iload 5, 2) := by decide +kernel
theorem dL_law_964 : decode cL_law 964 = .ok (.iconst 2, 1) := by decide +kernel
theorem dL_law_965 : decode cL_law 965 = .ok (.iadd, 1) := by decide +kernel
theorem dL_law_966 : decode cL_law 966 = .ok (.iaload, 1) := by decide +kernel
theorem dL_law_967 : decode cL_law 967 = .ok (.invokevirtual 147, 3) := by decide +kernel
theorem dL_law_970 : decode cL_law 970 = .ok (.istore 7, 2) := by decide +kernel
theorem dL_law_972 : decode cL_law 972 = .ok (.aload_n 2, 1) := by decide +kernel
theorem dL_law_973 : decode cL_law 973 = .ok (.invokevirtual 104, 3) := by decide +kernel
theorem dL_law_976 : decode cL_law 976 = .ok (.iload 6, 2) := by decide +kernel
theorem dL_law_978 : decode cL_law 978 = .ok (.if_icmp .eq 5, 3) := by decide +kernel
theorem dL_law_981 : decode cL_law 981 = .ok (.iconst 0, 1) := by decide +kernel
theorem dL_law_982 : decode cL_law 982 = .ok (.ireturn, 1) := by decide +kernel
theorem dL_law_983 : decode cL_law 983 = .ok (.iload 6, 2) := by decide +kernel
theorem dL_law_985 : decode cL_law 985 = .ok (.ifCond .ne 22, 3) := by decide +kernel
theorem dL_law_988 : decode cL_law 988 = .ok (.aload_n 3, 1) := by decide +kernel
theorem dL_law_989 : decode cL_law 989 = .ok (.iconst 0, 1) := by decide +kernel
theorem dL_law_990 : decode cL_law 990 = .ok (.laload, 1) := by decide +kernel
theorem dL_law_991 : decode cL_law 991 = .ok (.iload 7, 2) := by decide +kernel
theorem dL_law_993 : decode cL_law 993 = .ok (.ifCond .eq 7, 3) := by decide +kernel
theorem dL_law_996 : decode cL_law 996 = .ok (.lconst 1, 1) := by decide +kernel
theorem dL_law_997 : decode cL_law 997 = .ok (.goto 4, 3) := by decide +kernel
theorem dL_law_1000 : decode cL_law 1000 = .ok (.lconst 0, 1) := by decide +kernel
theorem dL_law_1001 : decode cL_law 1001 = .ok (.lcmp, 1) := by decide +kernel
theorem dL_law_1002 : decode cL_law 1002 = .ok (.ifCond .eq 5, 3) := by decide +kernel
theorem dL_law_1005 : decode cL_law 1005 = .ok (.iconst 0, 1) := by decide +kernel
theorem dL_law_1006 : decode cL_law 1006 = .ok (.ireturn, 1) := by decide +kernel
theorem dL_law_1007 : decode cL_law 1007 = .ok (.goto 798, 3) := by decide +kernel
theorem dL_law_1010 : decode cL_law 1010 = .ok (.aload_n 1, 1) := by decide +kernel
theorem dL_law_1011 : decode cL_law 1011 = .ok (.aload_n 0, 1) := by decide +kernel
theorem dL_law_1012 : decode cL_law 1012 = .ok (.iload 5, 2) := by decide +kernel
theorem dL_law_1014 : decode cL_law 1014 = .ok (.iconst 1, 1) := by decide +kernel
theorem dL_law_1015 : decode cL_law 1015 = .ok (.iadd, 1) := by decide +kernel
theorem dL_law_1016 : decode cL_law 1016 = .ok (.iaload, 1) := by decide +kernel
theorem dL_law_1017 : decode cL_law 1017 = .ok (.aload_n 0, 1) := by decide +kernel
theorem dL_law_1018 : decode cL_law 1018 = .ok (.iload 5, 2) := by decide +kernel
theorem dL_law_1020 : decode cL_law 1020 = .ok (.iconst 2, 1) := by decide +kernel
theorem dL_law_1021 : decode cL_law 1021 = .ok (.iadd, 1) := by decide +kernel
theorem dL_law_1022 : decode cL_law 1022 = .ok (.iaload, 1) := by decide +kernel
theorem dL_law_1023 : decode cL_law 1023 = .ok (.aload_n 3, 1) := by decide +kernel
theorem dL_law_1024 : decode cL_law 1024 = .ok (.invokestatic 148, 3) := by decide +kernel
theorem dL_law_1027 : decode cL_law 1027 = .ok (.istore 6, 2) := by decide +kernel
theorem dL_law_1029 : decode cL_law 1029 = .ok (.aload_n 2, 1) := by decide +kernel
theorem dL_law_1030 : decode cL_law 1030 = .ok (.aload_n 0, 1) := by decide +kernel
theorem dL_law_1031 : decode cL_law 1031 = .ok (.iload 5, 2) := by decide +kernel
theorem dL_law_1033 : decode cL_law 1033 = .ok (.iconst 1, 1) := by decide +kernel
theorem dL_law_1034 : decode cL_law 1034 = .ok (.iadd, 1) := by decide +kernel
theorem dL_law_1035 : decode cL_law 1035 = .ok (.iaload, 1) := by decide +kernel
theorem dL_law_1036 : decode cL_law 1036 = .ok (.aload_n 0, 1) := by decide +kernel
theorem dL_law_1037 : decode cL_law 1037 = .ok (.iload 5, 2) := by decide +kernel
theorem dL_law_1039 : decode cL_law 1039 = .ok (.iconst 2, 1) := by decide +kernel
theorem dL_law_1040 : decode cL_law 1040 = .ok (.iadd, 1) := by decide +kernel
theorem dL_law_1041 : decode cL_law 1041 = .ok (.iaload, 1) := by decide +kernel
theorem dL_law_1042 : decode cL_law 1042 = .ok (.invokevirtual 150, 3) := by decide +kernel
theorem dL_law_1045 : decode cL_law 1045 = .ok (.istore 7, 2) := by decide +kernel
theorem dL_law_1047 : decode cL_law 1047 = .ok (.aload_n 2, 1) := by decide +kernel
theorem dL_law_1048 : decode cL_law 1048 = .ok (.invokevirtual 104, 3) := by decide +kernel
theorem dL_law_1051 : decode cL_law 1051 = .ok (.iload 6, 2) := by decide +kernel
theorem dL_law_1053 : decode cL_law 1053 = .ok (.if_icmp .eq 5, 3) := by decide +kernel
theorem dL_law_1056 : decode cL_law 1056 = .ok (.iconst 0, 1) := by decide +kernel
theorem dL_law_1057 : decode cL_law 1057 = .ok (.ireturn, 1) := by decide +kernel
theorem dL_law_1058 : decode cL_law 1058 = .ok (.iload 6, 2) := by decide +kernel
theorem dL_law_1060 : decode cL_law 1060 = .ok (.ifCond .ne 22, 3) := by decide +kernel
theorem dL_law_1063 : decode cL_law 1063 = .ok (.aload_n 3, 1) := by decide +kernel
theorem dL_law_1064 : decode cL_law 1064 = .ok (.iconst 0, 1) := by decide +kernel
theorem dL_law_1065 : decode cL_law 1065 = .ok (.laload, 1) := by decide +kernel
theorem dL_law_1066 : decode cL_law 1066 = .ok (.iload 7, 2) := by decide +kernel
theorem dL_law_1068 : decode cL_law 1068 = .ok (.ifCond .eq 7, 3) := by decide +kernel
theorem dL_law_1071 : decode cL_law 1071 = .ok (.lconst 1, 1) := by decide +kernel
theorem dL_law_1072 : decode cL_law 1072 = .ok (.goto 4, 3) := by decide +kernel
theorem dL_law_1075 : decode cL_law 1075 = .ok (.lconst 0, 1) := by decide +kernel
theorem dL_law_1076 : decode cL_law 1076 = .ok (.lcmp, 1) := by decide +kernel
theorem dL_law_1077 : decode cL_law 1077 = .ok (.ifCond .eq 5, 3) := by decide +kernel
theorem dL_law_1080 : decode cL_law 1080 = .ok (.iconst 0, 1) := by decide +kernel
theorem dL_law_1081 : decode cL_law 1081 = .ok (.ireturn, 1) := by decide +kernel
theorem dL_law_1082 : decode cL_law 1082 = .ok (.goto 723, 3) := by decide +kernel
theorem dL_law_1085 : decode cL_law 1085 = .ok (.aload_n 1, 1) := by decide +kernel
theorem dL_law_1086 : decode cL_law 1086 = .ok (.aload_n 0, 1) := by decide +kernel
theorem dL_law_1087 : decode cL_law 1087 = .ok (.iload 5, 2) := by decide +kernel
theorem dL_law_1089 : decode cL_law 1089 = .ok (.iconst 1, 1) := by decide +kernel
theorem dL_law_1090 : decode cL_law 1090 = .ok (.iadd, 1) := by decide +kernel
theorem dL_law_1091 : decode cL_law 1091 = .ok (.iaload, 1) := by decide +kernel
theorem dL_law_1092 : decode cL_law 1092 = .ok (.aload_n 3, 1) := by decide +kernel
theorem dL_law_1093 : decode cL_law 1093 = .ok (.invokestatic 151, 3) := by decide +kernel
theorem dL_law_1096 : decode cL_law 1096 = .ok (.istore 6, 2) := by decide +kernel
theorem dL_law_1098 : decode cL_law 1098 = .ok (.aload_n 2, 1) := by decide +kernel
theorem dL_law_1099 : decode cL_law 1099 = .ok (.aload_n 0, 1) := by decide +kernel
theorem dL_law_1100 : decode cL_law 1100 = .ok (.iload 5, 2) := by decide +kernel
theorem dL_law_1102 : decode cL_law 1102 = .ok (.iconst 1, 1) := by decide +kernel
theorem dL_law_1103 : decode cL_law 1103 = .ok (.iadd, 1) := by decide +kernel
theorem dL_law_1104 : decode cL_law 1104 = .ok (.iaload, 1) := by decide +kernel
theorem dL_law_1105 : decode cL_law 1105 = .ok (.invokevirtual 153, 3) := by decide +kernel
theorem dL_law_1108 : decode cL_law 1108 = .ok (.istore 7, 2) := by decide +kernel
theorem dL_law_1110 : decode cL_law 1110 = .ok (.aload_n 2, 1) := by decide +kernel
theorem dL_law_1111 : decode cL_law 1111 = .ok (.invokevirtual 104, 3) := by decide +kernel
theorem dL_law_1114 : decode cL_law 1114 = .ok (.iload 6, 2) := by decide +kernel
theorem dL_law_1116 : decode cL_law 1116 = .ok (.if_icmp .eq 5, 3) := by decide +kernel
theorem dL_law_1119 : decode cL_law 1119 = .ok (.iconst 0, 1) := by decide +kernel
theorem dL_law_1120 : decode cL_law 1120 = .ok (.ireturn, 1) := by decide +kernel
theorem dL_law_1121 : decode cL_law 1121 = .ok (.iload 6, 2) := by decide +kernel
theorem dL_law_1123 : decode cL_law 1123 = .ok (.ifCond .ne 22, 3) := by decide +kernel
theorem dL_law_1126 : decode cL_law 1126 = .ok (.aload_n 3, 1) := by decide +kernel
theorem dL_law_1127 : decode cL_law 1127 = .ok (.iconst 0, 1) := by decide +kernel
theorem dL_law_1128 : decode cL_law 1128 = .ok (.laload, 1) := by decide +kernel
theorem dL_law_1129 : decode cL_law 1129 = .ok (.iload 7, 2) := by decide +kernel
theorem dL_law_1131 : decode cL_law 1131 = .ok (.ifCond .eq 7, 3) := by decide +kernel
theorem dL_law_1134 : decode cL_law 1134 = .ok (.lconst 1, 1) := by decide +kernel
theorem dL_law_1135 : decode cL_law 1135 = .ok (.goto 4, 3) := by decide +kernel
theorem dL_law_1138 : decode cL_law 1138 = .ok (.lconst 0, 1) := by decide +kernel
theorem dL_law_1139 : decode cL_law 1139 = .ok (.lcmp, 1) := by decide +kernel
theorem dL_law_1140 : decode cL_law 1140 = .ok (.ifCond .eq 5, 3) := by decide +kernel
theorem dL_law_1143 : decode cL_law 1143 = .ok (.iconst 0, 1) := by decide +kernel
theorem dL_law_1144 : decode cL_law 1144 = .ok (.ireturn, 1) := by decide +kernel
theorem dL_law_1145 : decode cL_law 1145 = .ok (.goto 660, 3) := by decide +kernel
theorem dL_law_1148 : decode cL_law 1148 = .ok (.aload_n 1, 1) := by decide +kernel
theorem dL_law_1149 : decode cL_law 1149 = .ok (.aload_n 0, 1) := by decide +kernel
theorem dL_law_1150 : decode cL_law 1150 = .ok (.iload 5, 2) := by decide +kernel
theorem dL_law_1152 : decode cL_law 1152 = .ok (.iconst 1, 1) := by decide +kernel
theorem dL_law_1153 : decode cL_law 1153 = .ok (.iadd, 1) := by decide +kernel
theorem dL_law_1154 : decode cL_law 1154 = .ok (.iaload, 1) := by decide +kernel
theorem dL_law_1155 : decode cL_law 1155 = .ok (.aload_n 0, 1) := by decide +kernel
theorem dL_law_1156 : decode cL_law 1156 = .ok (.iload 5, 2) := by decide +kernel
theorem dL_law_1158 : decode cL_law 1158 = .ok (.iconst 2, 1) := by decide +kernel
theorem dL_law_1159 : decode cL_law 1159 = .ok (.iadd, 1) := by decide +kernel
theorem dL_law_1160 : decode cL_law 1160 = .ok (.iaload, 1) := by decide +kernel
theorem dL_law_1161 : decode cL_law 1161 = .ok (.aload_n 0, 1) := by decide +kernel
theorem dL_law_1162 : decode cL_law 1162 = .ok (.iload 5, 2) := by decide +kernel
theorem dL_law_1164 : decode cL_law 1164 = .ok (.iconst 3, 1) := by decide +kernel
theorem dL_law_1165 : decode cL_law 1165 = .ok (.iadd, 1) := by decide +kernel
theorem dL_law_1166 : decode cL_law 1166 = .ok (.iaload, 1) := by decide +kernel
theorem dL_law_1167 : decode cL_law 1167 = .ok (.aload_n 3, 1) := by decide +kernel
theorem dL_law_1168 : decode cL_law 1168 = .ok (.invokestatic 154, 3) := by decide +kernel
theorem dL_law_1171 : decode cL_law 1171 = .ok (.istore 6, 2) := by decide +kernel
theorem dL_law_1173 : decode cL_law 1173 = .ok (.aload_n 2, 1) := by decide +kernel
theorem dL_law_1174 : decode cL_law 1174 = .ok (.aload_n 0, 1) := by decide +kernel
theorem dL_law_1175 : decode cL_law 1175 = .ok (.iload 5, 2) := by decide +kernel
theorem dL_law_1177 : decode cL_law 1177 = .ok (.iconst 1, 1) := by decide +kernel
theorem dL_law_1178 : decode cL_law 1178 = .ok (.iadd, 1) := by decide +kernel
theorem dL_law_1179 : decode cL_law 1179 = .ok (.iaload, 1) := by decide +kernel
theorem dL_law_1180 : decode cL_law 1180 = .ok (.aload_n 0, 1) := by decide +kernel
theorem dL_law_1181 : decode cL_law 1181 = .ok (.iload 5, 2) := by decide +kernel
theorem dL_law_1183 : decode cL_law 1183 = .ok (.iconst 2, 1) := by decide +kernel
theorem dL_law_1184 : decode cL_law 1184 = .ok (.iadd, 1) := by decide +kernel
theorem dL_law_1185 : decode cL_law 1185 = .ok (.iaload, 1) := by decide +kernel
theorem dL_law_1186 : decode cL_law 1186 = .ok (.aload_n 0, 1) := by decide +kernel
theorem dL_law_1187 : decode cL_law 1187 = .ok (.iload 5, 2) := by decide +kernel
theorem dL_law_1189 : decode cL_law 1189 = .ok (.iconst 3, 1) := by decide +kernel
theorem dL_law_1190 : decode cL_law 1190 = .ok (.iadd, 1) := by decide +kernel
theorem dL_law_1191 : decode cL_law 1191 = .ok (.iaload, 1) := by decide +kernel
theorem dL_law_1192 : decode cL_law 1192 = .ok (.invokevirtual 157, 3) := by decide +kernel
theorem dL_law_1195 : decode cL_law 1195 = .ok (.istore 7, 2) := by decide +kernel
theorem dL_law_1197 : decode cL_law 1197 = .ok (.aload_n 2, 1) := by decide +kernel
theorem dL_law_1198 : decode cL_law 1198 = .ok (.invokevirtual 104, 3) := by decide +kernel
theorem dL_law_1201 : decode cL_law 1201 = .ok (.iload 6, 2) := by decide +kernel
theorem dL_law_1203 : decode cL_law 1203 = .ok (.if_icmp .eq 5, 3) := by decide +kernel
theorem dL_law_1206 : decode cL_law 1206 = .ok (.iconst 0, 1) := by decide +kernel
theorem dL_law_1207 : decode cL_law 1207 = .ok (.ireturn, 1) := by decide +kernel
theorem dL_law_1208 : decode cL_law 1208 = .ok (.iload 6, 2) := by decide +kernel
theorem dL_law_1210 : decode cL_law 1210 = .ok (.ifCond .ne 22, 3) := by decide +kernel
theorem dL_law_1213 : decode cL_law 1213 = .ok (.aload_n 3, 1) := by decide +kernel
theorem dL_law_1214 : decode cL_law 1214 = .ok (.iconst 0, 1) := by decide +kernel
theorem dL_law_1215 : decode cL_law 1215 = .ok (.laload, 1) := by decide +kernel
theorem dL_law_1216 : decode cL_law 1216 = .ok (.iload 7, 2) := by decide +kernel
theorem dL_law_1218 : decode cL_law 1218 = .ok (.ifCond .eq 7, 3) := by decide +kernel
theorem dL_law_1221 : decode cL_law 1221 = .ok (.lconst 1, 1) := by decide +kernel
theorem dL_law_1222 : decode cL_law 1222 = .ok (.goto 4, 3) := by decide +kernel
theorem dL_law_1225 : decode cL_law 1225 = .ok (.lconst 0, 1) := by decide +kernel
theorem dL_law_1226 : decode cL_law 1226 = .ok (.lcmp, 1) := by decide +kernel
theorem dL_law_1227 : decode cL_law 1227 = .ok (.ifCond .eq 5, 3) := by decide +kernel
theorem dL_law_1230 : decode cL_law 1230 = .ok (.iconst 0, 1) := by decide +kernel
theorem dL_law_1231 : decode cL_law 1231 = .ok (.ireturn, 1) := by decide +kernel
theorem dL_law_1232 : decode cL_law 1232 = .ok (.goto 573, 3) := by decide +kernel
theorem dL_law_1235 : decode cL_law 1235 = .ok (.aload_n 1, 1) := by decide +kernel
theorem dL_law_1236 : decode cL_law 1236 = .ok (.aload_n 0, 1) := by decide +kernel
theorem dL_law_1237 : decode cL_law 1237 = .ok (.iload 5, 2) := by decide +kernel
theorem dL_law_1239 : decode cL_law 1239 = .ok (.iconst 1, 1) := by decide +kernel
theorem dL_law_1240 : decode cL_law 1240 = .ok (.iadd, 1) := by decide +kernel
theorem dL_law_1241 : decode cL_law 1241 = .ok (.iaload, 1) := by decide +kernel
theorem dL_law_1242 : decode cL_law 1242 = .ok (.aload_n 0, 1) := by decide +kernel
theorem dL_law_1243 : decode cL_law 1243 = .ok (.iload 5, 2) := by decide +kernel
theorem dL_law_1245 : decode cL_law 1245 = .ok (.iconst 2, 1) := by decide +kernel
theorem dL_law_1246 : decode cL_law 1246 = .ok (.iadd, 1) := by decide +kernel
theorem dL_law_1247 : decode cL_law 1247 = .ok (.iaload, 1) := by decide +kernel
theorem dL_law_1248 : decode cL_law 1248 = .ok (.aload_n 0, 1) := by decide +kernel
theorem dL_law_1249 : decode cL_law 1249 = .ok (.iload 5, 2) := by decide +kernel
theorem dL_law_1251 : decode cL_law 1251 = .ok (.iconst 3, 1) := by decide +kernel
theorem dL_law_1252 : decode cL_law 1252 = .ok (.iadd, 1) := by decide +kernel
theorem dL_law_1253 : decode cL_law 1253 = .ok (.iaload, 1) := by decide +kernel
theorem dL_law_1254 : decode cL_law 1254 = .ok (.aload_n 3, 1) := by decide +kernel
theorem dL_law_1255 : decode cL_law 1255 = .ok (.invokestatic 158, 3) := by decide +kernel
theorem dL_law_1258 : decode cL_law 1258 = .ok (.istore 6, 2) := by decide +kernel
theorem dL_law_1260 : decode cL_law 1260 = .ok (.aload_n 2, 1) := by decide +kernel
theorem dL_law_1261 : decode cL_law 1261 = .ok (.aload_n 0, 1) := by decide +kernel
theorem dL_law_1262 : decode cL_law 1262 = .ok (.iload 5, 2) := by decide +kernel
theorem dL_law_1264 : decode cL_law 1264 = .ok (.iconst 1, 1) := by decide +kernel
theorem dL_law_1265 : decode cL_law 1265 = .ok (.iadd, 1) := by decide +kernel
theorem dL_law_1266 : decode cL_law 1266 = .ok (.iaload, 1) := by decide +kernel
theorem dL_law_1267 : decode cL_law 1267 = .ok (.aload_n 0, 1) := by decide +kernel
theorem dL_law_1268 : decode cL_law 1268 = .ok (.iload 5, 2) := by decide +kernel
theorem dL_law_1270 : decode cL_law 1270 = .ok (.iconst 2, 1) := by decide +kernel
theorem dL_law_1271 : decode cL_law 1271 = .ok (.iadd, 1) := by decide +kernel
theorem dL_law_1272 : decode cL_law 1272 = .ok (.iaload, 1) := by decide +kernel
theorem dL_law_1273 : decode cL_law 1273 = .ok (.aload_n 0, 1) := by decide +kernel
theorem dL_law_1274 : decode cL_law 1274 = .ok (.iload 5, 2) := by decide +kernel
theorem dL_law_1276 : decode cL_law 1276 = .ok (.iconst 3, 1) := by decide +kernel
theorem dL_law_1277 : decode cL_law 1277 = .ok (.iadd, 1) := by decide +kernel
theorem dL_law_1278 : decode cL_law 1278 = .ok (.iaload, 1) := by decide +kernel
theorem dL_law_1279 : decode cL_law 1279 = .ok (.invokevirtual 160, 3) := by decide +kernel
theorem dL_law_1282 : decode cL_law 1282 = .ok (.istore 7, 2) := by decide +kernel
theorem dL_law_1284 : decode cL_law 1284 = .ok (.aload_n 2, 1) := by decide +kernel
theorem dL_law_1285 : decode cL_law 1285 = .ok (.invokevirtual 104, 3) := by decide +kernel
theorem dL_law_1288 : decode cL_law 1288 = .ok (.iload 6, 2) := by decide +kernel
theorem dL_law_1290 : decode cL_law 1290 = .ok (.if_icmp .eq 5, 3) := by decide +kernel
theorem dL_law_1293 : decode cL_law 1293 = .ok (.iconst 0, 1) := by decide +kernel
theorem dL_law_1294 : decode cL_law 1294 = .ok (.ireturn, 1) := by decide +kernel
theorem dL_law_1295 : decode cL_law 1295 = .ok (.iload 6, 2) := by decide +kernel
theorem dL_law_1297 : decode cL_law 1297 = .ok (.ifCond .ne 22, 3) := by decide +kernel
theorem dL_law_1300 : decode cL_law 1300 = .ok (.aload_n 3, 1) := by decide +kernel
theorem dL_law_1301 : decode cL_law 1301 = .ok (.iconst 0, 1) := by decide +kernel
theorem dL_law_1302 : decode cL_law 1302 = .ok (.laload, 1) := by decide +kernel
theorem dL_law_1303 : decode cL_law 1303 = .ok (.iload 7, 2) := by decide +kernel
theorem dL_law_1305 : decode cL_law 1305 = .ok (.ifCond .eq 7, 3) := by decide +kernel
theorem dL_law_1308 : decode cL_law 1308 = .ok (.lconst 1, 1) := by decide +kernel
theorem dL_law_1309 : decode cL_law 1309 = .ok (.goto 4, 3) := by decide +kernel
theorem dL_law_1312 : decode cL_law 1312 = .ok (.lconst 0, 1) := by decide +kernel
theorem dL_law_1313 : decode cL_law 1313 = .ok (.lcmp, 1) := by decide +kernel
theorem dL_law_1314 : decode cL_law 1314 = .ok (.ifCond .eq 5, 3) := by decide +kernel
theorem dL_law_1317 : decode cL_law 1317 = .ok (.iconst 0, 1) := by decide +kernel
theorem dL_law_1318 : decode cL_law 1318 = .ok (.ireturn, 1) := by decide +kernel
theorem dL_law_1319 : decode cL_law 1319 = .ok (.goto 486, 3) := by decide +kernel
theorem dL_law_1322 : decode cL_law 1322 = .ok (.aload_n 1, 1) := by decide +kernel
theorem dL_law_1323 : decode cL_law 1323 = .ok (.aload_n 0, 1) := by decide +kernel
theorem dL_law_1324 : decode cL_law 1324 = .ok (.iload 5, 2) := by decide +kernel
theorem dL_law_1326 : decode cL_law 1326 = .ok (.iconst 1, 1) := by decide +kernel
theorem dL_law_1327 : decode cL_law 1327 = .ok (.iadd, 1) := by decide +kernel
theorem dL_law_1328 : decode cL_law 1328 = .ok (.iaload, 1) := by decide +kernel
theorem dL_law_1329 : decode cL_law 1329 = .ok (.aload_n 0, 1) := by decide +kernel
theorem dL_law_1330 : decode cL_law 1330 = .ok (.iload 5, 2) := by decide +kernel
theorem dL_law_1332 : decode cL_law 1332 = .ok (.iconst 2, 1) := by decide +kernel
theorem dL_law_1333 : decode cL_law 1333 = .ok (.iadd, 1) := by decide +kernel
theorem dL_law_1334 : decode cL_law 1334 = .ok (.iaload, 1) := by decide +kernel
theorem dL_law_1335 : decode cL_law 1335 = .ok (.ifCond .eq 7, 3) := by decide +kernel
theorem dL_law_1338 : decode cL_law 1338 = .ok (.iconst 1, 1) := by decide +kernel
theorem dL_law_1339 : decode cL_law 1339 = .ok (.goto 4, 3) := by decide +kernel
theorem dL_law_1342 : decode cL_law 1342 = .ok (.iconst 0, 1) := by decide +kernel
theorem dL_law_1343 : decode cL_law 1343 = .ok (.aload_n 3, 1) := by decide +kernel
theorem dL_law_1344 : decode cL_law 1344 = .ok (.invokestatic 161, 3) := by decide +kernel
theorem dL_law_1347 : decode cL_law 1347 = .ok (.istore 6, 2) := by decide +kernel
theorem dL_law_1349 : decode cL_law 1349 = .ok (.aload_n 2, 1) := by decide +kernel
theorem dL_law_1350 : decode cL_law 1350 = .ok (.aload_n 0, 1) := by decide +kernel
theorem dL_law_1351 : decode cL_law 1351 = .ok (.iload 5, 2) := by decide +kernel
theorem dL_law_1353 : decode cL_law 1353 = .ok (.iconst 1, 1) := by decide +kernel
theorem dL_law_1354 : decode cL_law 1354 = .ok (.iadd, 1) := by decide +kernel
theorem dL_law_1355 : decode cL_law 1355 = .ok (.iaload, 1) := by decide +kernel
theorem dL_law_1356 : decode cL_law 1356 = .ok (.aload_n 0, 1) := by decide +kernel
theorem dL_law_1357 : decode cL_law 1357 = .ok (.iload 5, 2) := by decide +kernel
theorem dL_law_1359 : decode cL_law 1359 = .ok (.iconst 2, 1) := by decide +kernel
theorem dL_law_1360 : decode cL_law 1360 = .ok (.iadd, 1) := by decide +kernel
theorem dL_law_1361 : decode cL_law 1361 = .ok (.iaload, 1) := by decide +kernel
theorem dL_law_1362 : decode cL_law 1362 = .ok (.ifCond .eq 7, 3) := by decide +kernel
theorem dL_law_1365 : decode cL_law 1365 = .ok (.iconst 1, 1) := by decide +kernel
theorem dL_law_1366 : decode cL_law 1366 = .ok (.goto 4, 3) := by decide +kernel
theorem dL_law_1369 : decode cL_law 1369 = .ok (.iconst 0, 1) := by decide +kernel
theorem dL_law_1370 : decode cL_law 1370 = .ok (.invokevirtual 164, 3) := by decide +kernel
theorem dL_law_1373 : decode cL_law 1373 = .ok (.istore 7, 2) := by decide +kernel
theorem dL_law_1375 : decode cL_law 1375 = .ok (.aload_n 2, 1) := by decide +kernel
theorem dL_law_1376 : decode cL_law 1376 = .ok (.invokevirtual 104, 3) := by decide +kernel
theorem dL_law_1379 : decode cL_law 1379 = .ok (.iload 6, 2) := by decide +kernel
theorem dL_law_1381 : decode cL_law 1381 = .ok (.if_icmp .eq 5, 3) := by decide +kernel
theorem dL_law_1384 : decode cL_law 1384 = .ok (.iconst 0, 1) := by decide +kernel
theorem dL_law_1385 : decode cL_law 1385 = .ok (.ireturn, 1) := by decide +kernel
theorem dL_law_1386 : decode cL_law 1386 = .ok (.iload 6, 2) := by decide +kernel
theorem dL_law_1388 : decode cL_law 1388 = .ok (.ifCond .ne 15, 3) := by decide +kernel
theorem dL_law_1391 : decode cL_law 1391 = .ok (.aload_n 3, 1) := by decide +kernel
theorem dL_law_1392 : decode cL_law 1392 = .ok (.iconst 0, 1) := by decide +kernel
theorem dL_law_1393 : decode cL_law 1393 = .ok (.laload, 1) := by decide +kernel
theorem dL_law_1394 : decode cL_law 1394 = .ok (.iload 7, 2) := by decide +kernel
theorem dL_law_1396 : decode cL_law 1396 = .ok (.i2l, 1) := by decide +kernel
theorem dL_law_1397 : decode cL_law 1397 = .ok (.lcmp, 1) := by decide +kernel
theorem dL_law_1398 : decode cL_law 1398 = .ok (.ifCond .eq 5, 3) := by decide +kernel
theorem dL_law_1401 : decode cL_law 1401 = .ok (.iconst 0, 1) := by decide +kernel
theorem dL_law_1402 : decode cL_law 1402 = .ok (.ireturn, 1) := by decide +kernel
theorem dL_law_1403 : decode cL_law 1403 = .ok (.goto 402, 3) := by decide +kernel
theorem dL_law_1406 : decode cL_law 1406 = .ok (.aload_n 1, 1) := by decide +kernel
theorem dL_law_1407 : decode cL_law 1407 = .ok (.aload_n 0, 1) := by decide +kernel
theorem dL_law_1408 : decode cL_law 1408 = .ok (.iload 5, 2) := by decide +kernel
theorem dL_law_1410 : decode cL_law 1410 = .ok (.iconst 1, 1) := by decide +kernel
theorem dL_law_1411 : decode cL_law 1411 = .ok (.iadd, 1) := by decide +kernel
theorem dL_law_1412 : decode cL_law 1412 = .ok (.iaload, 1) := by decide +kernel
theorem dL_law_1413 : decode cL_law 1413 = .ok (.aload_n 0, 1) := by decide +kernel
theorem dL_law_1414 : decode cL_law 1414 = .ok (.iload 5, 2) := by decide +kernel
theorem dL_law_1416 : decode cL_law 1416 = .ok (.iconst 2, 1) := by decide +kernel
theorem dL_law_1417 : decode cL_law 1417 = .ok (.iadd, 1) := by decide +kernel
theorem dL_law_1418 : decode cL_law 1418 = .ok (.iaload, 1) := by decide +kernel
theorem dL_law_1419 : decode cL_law 1419 = .ok (.aload_n 3, 1) := by decide +kernel
theorem dL_law_1420 : decode cL_law 1420 = .ok (.invokestatic 165, 3) := by decide +kernel
theorem dL_law_1423 : decode cL_law 1423 = .ok (.istore 6, 2) := by decide +kernel
theorem dL_law_1425 : decode cL_law 1425 = .ok (.aload_n 2, 1) := by decide +kernel
theorem dL_law_1426 : decode cL_law 1426 = .ok (.aload_n 0, 1) := by decide +kernel
theorem dL_law_1427 : decode cL_law 1427 = .ok (.iload 5, 2) := by decide +kernel
theorem dL_law_1429 : decode cL_law 1429 = .ok (.iconst 1, 1) := by decide +kernel
theorem dL_law_1430 : decode cL_law 1430 = .ok (.iadd, 1) := by decide +kernel
theorem dL_law_1431 : decode cL_law 1431 = .ok (.iaload, 1) := by decide +kernel
theorem dL_law_1432 : decode cL_law 1432 = .ok (.aload_n 0, 1) := by decide +kernel
theorem dL_law_1433 : decode cL_law 1433 = .ok (.iload 5, 2) := by decide +kernel
theorem dL_law_1435 : decode cL_law 1435 = .ok (.iconst 2, 1) := by decide +kernel
theorem dL_law_1436 : decode cL_law 1436 = .ok (.iadd, 1) := by decide +kernel
theorem dL_law_1437 : decode cL_law 1437 = .ok (.iaload, 1) := by decide +kernel
theorem dL_law_1438 : decode cL_law 1438 = .ok (.invokevirtual 167, 3) := by decide +kernel
theorem dL_law_1441 : decode cL_law 1441 = .ok (.istore 7, 2) := by decide +kernel
theorem dL_law_1443 : decode cL_law 1443 = .ok (.aload_n 2, 1) := by decide +kernel
theorem dL_law_1444 : decode cL_law 1444 = .ok (.invokevirtual 104, 3) := by decide +kernel
theorem dL_law_1447 : decode cL_law 1447 = .ok (.iload 6, 2) := by decide +kernel
theorem dL_law_1449 : decode cL_law 1449 = .ok (.if_icmp .eq 5, 3) := by decide +kernel
theorem dL_law_1452 : decode cL_law 1452 = .ok (.iconst 0, 1) := by decide +kernel
theorem dL_law_1453 : decode cL_law 1453 = .ok (.ireturn, 1) := by decide +kernel
theorem dL_law_1454 : decode cL_law 1454 = .ok (.iload 6, 2) := by decide +kernel
theorem dL_law_1456 : decode cL_law 1456 = .ok (.ifCond .ne 15, 3) := by decide +kernel
theorem dL_law_1459 : decode cL_law 1459 = .ok (.aload_n 3, 1) := by decide +kernel
theorem dL_law_1460 : decode cL_law 1460 = .ok (.iconst 0, 1) := by decide +kernel
theorem dL_law_1461 : decode cL_law 1461 = .ok (.laload, 1) := by decide +kernel
theorem dL_law_1462 : decode cL_law 1462 = .ok (.iload 7, 2) := by decide +kernel
theorem dL_law_1464 : decode cL_law 1464 = .ok (.i2l, 1) := by decide +kernel
theorem dL_law_1465 : decode cL_law 1465 = .ok (.lcmp, 1) := by decide +kernel
theorem dL_law_1466 : decode cL_law 1466 = .ok (.ifCond .eq 5, 3) := by decide +kernel
theorem dL_law_1469 : decode cL_law 1469 = .ok (.iconst 0, 1) := by decide +kernel
theorem dL_law_1470 : decode cL_law 1470 = .ok (.ireturn, 1) := by decide +kernel
theorem dL_law_1471 : decode cL_law 1471 = .ok (.goto 334, 3) := by decide +kernel
theorem dL_law_1474 : decode cL_law 1474 = .ok (.aload_n 1, 1) := by decide +kernel
theorem dL_law_1475 : decode cL_law 1475 = .ok (.aload_n 0, 1) := by decide +kernel
theorem dL_law_1476 : decode cL_law 1476 = .ok (.iload 5, 2) := by decide +kernel
theorem dL_law_1478 : decode cL_law 1478 = .ok (.iconst 1, 1) := by decide +kernel
theorem dL_law_1479 : decode cL_law 1479 = .ok (.iadd, 1) := by decide +kernel
theorem dL_law_1480 : decode cL_law 1480 = .ok (.iaload, 1) := by decide +kernel
theorem dL_law_1481 : decode cL_law 1481 = .ok (.aload_n 0, 1) := by decide +kernel
theorem dL_law_1482 : decode cL_law 1482 = .ok (.iload 5, 2) := by decide +kernel
theorem dL_law_1484 : decode cL_law 1484 = .ok (.iconst 2, 1) := by decide +kernel
theorem dL_law_1485 : decode cL_law 1485 = .ok (.iadd, 1) := by decide +kernel
theorem dL_law_1486 : decode cL_law 1486 = .ok (.iaload, 1) := by decide +kernel
theorem dL_law_1487 : decode cL_law 1487 = .ok (.aload_n 3, 1) := by decide +kernel
theorem dL_law_1488 : decode cL_law 1488 = .ok (.invokestatic 168, 3) := by decide +kernel
theorem dL_law_1491 : decode cL_law 1491 = .ok (.istore 6, 2) := by decide +kernel
theorem dL_law_1493 : decode cL_law 1493 = .ok (.aload_n 2, 1) := by decide +kernel
theorem dL_law_1494 : decode cL_law 1494 = .ok (.aload_n 0, 1) := by decide +kernel
theorem dL_law_1495 : decode cL_law 1495 = .ok (.iload 5, 2) := by decide +kernel
theorem dL_law_1497 : decode cL_law 1497 = .ok (.iconst 1, 1) := by decide +kernel
theorem dL_law_1498 : decode cL_law 1498 = .ok (.iadd, 1) := by decide +kernel
theorem dL_law_1499 : decode cL_law 1499 = .ok (.iaload, 1) := by decide +kernel
theorem dL_law_1500 : decode cL_law 1500 = .ok (.aload_n 0, 1) := by decide +kernel
theorem dL_law_1501 : decode cL_law 1501 = .ok (.iload 5, 2) := by decide +kernel
theorem dL_law_1503 : decode cL_law 1503 = .ok (.iconst 2, 1) := by decide +kernel
theorem dL_law_1504 : decode cL_law 1504 = .ok (.iadd, 1) := by decide +kernel
theorem dL_law_1505 : decode cL_law 1505 = .ok (.iaload, 1) := by decide +kernel
theorem dL_law_1506 : decode cL_law 1506 = .ok (.invokevirtual 170, 3) := by decide +kernel
theorem dL_law_1509 : decode cL_law 1509 = .ok (.istore 7, 2) := by decide +kernel
theorem dL_law_1511 : decode cL_law 1511 = .ok (.aload_n 2, 1) := by decide +kernel
theorem dL_law_1512 : decode cL_law 1512 = .ok (.invokevirtual 104, 3) := by decide +kernel
theorem dL_law_1515 : decode cL_law 1515 = .ok (.iload 6, 2) := by decide +kernel
theorem dL_law_1517 : decode cL_law 1517 = .ok (.if_icmp .eq 5, 3) := by decide +kernel
theorem dL_law_1520 : decode cL_law 1520 = .ok (.iconst 0, 1) := by decide +kernel
theorem dL_law_1521 : decode cL_law 1521 = .ok (.ireturn, 1) := by decide +kernel
theorem dL_law_1522 : decode cL_law 1522 = .ok (.iload 6, 2) := by decide +kernel
theorem dL_law_1524 : decode cL_law 1524 = .ok (.ifCond .ne 15, 3) := by decide +kernel
theorem dL_law_1527 : decode cL_law 1527 = .ok (.aload_n 3, 1) := by decide +kernel
theorem dL_law_1528 : decode cL_law 1528 = .ok (.iconst 0, 1) := by decide +kernel
theorem dL_law_1529 : decode cL_law 1529 = .ok (.laload, 1) := by decide +kernel
theorem dL_law_1530 : decode cL_law 1530 = .ok (.iload 7, 2) := by decide +kernel
theorem dL_law_1532 : decode cL_law 1532 = .ok (.i2l, 1) := by decide +kernel
theorem dL_law_1533 : decode cL_law 1533 = .ok (.lcmp, 1) := by decide +kernel
theorem dL_law_1534 : decode cL_law 1534 = .ok (.ifCond .eq 5, 3) := by decide +kernel
theorem dL_law_1537 : decode cL_law 1537 = .ok (.iconst 0, 1) := by decide +kernel
theorem dL_law_1538 : decode cL_law 1538 = .ok (.ireturn, 1) := by decide +kernel
theorem dL_law_1539 : decode cL_law 1539 = .ok (.goto 266, 3) := by decide +kernel
theorem dL_law_1542 : decode cL_law 1542 = .ok (.aload_n 1, 1) := by decide +kernel
theorem dL_law_1543 : decode cL_law 1543 = .ok (.aload_n 0, 1) := by decide +kernel
theorem dL_law_1544 : decode cL_law 1544 = .ok (.iload 5, 2) := by decide +kernel
theorem dL_law_1546 : decode cL_law 1546 = .ok (.iconst 1, 1) := by decide +kernel
theorem dL_law_1547 : decode cL_law 1547 = .ok (.iadd, 1) := by decide +kernel
theorem dL_law_1548 : decode cL_law 1548 = .ok (.iaload, 1) := by decide +kernel
theorem dL_law_1549 : decode cL_law 1549 = .ok (.aload_n 3, 1) := by decide +kernel
theorem dL_law_1550 : decode cL_law 1550 = .ok (.invokestatic 171, 3) := by decide +kernel
theorem dL_law_1553 : decode cL_law 1553 = .ok (.istore 6, 2) := by decide +kernel
theorem dL_law_1555 : decode cL_law 1555 = .ok (.aload_n 2, 1) := by decide +kernel
theorem dL_law_1556 : decode cL_law 1556 = .ok (.aload_n 0, 1) := by decide +kernel
theorem dL_law_1557 : decode cL_law 1557 = .ok (.iload 5, 2) := by decide +kernel
theorem dL_law_1559 : decode cL_law 1559 = .ok (.iconst 1, 1) := by decide +kernel
theorem dL_law_1560 : decode cL_law 1560 = .ok (.iadd, 1) := by decide +kernel
theorem dL_law_1561 : decode cL_law 1561 = .ok (.iaload, 1) := by decide +kernel
theorem dL_law_1562 : decode cL_law 1562 = .ok (.invokevirtual 173, 3) := by decide +kernel
theorem dL_law_1565 : decode cL_law 1565 = .ok (.istore 7, 2) := by decide +kernel
theorem dL_law_1567 : decode cL_law 1567 = .ok (.aload_n 2, 1) := by decide +kernel
theorem dL_law_1568 : decode cL_law 1568 = .ok (.invokevirtual 104, 3) := by decide +kernel
theorem dL_law_1571 : decode cL_law 1571 = .ok (.iload 6, 2) := by decide +kernel
theorem dL_law_1573 : decode cL_law 1573 = .ok (.if_icmp .eq 5, 3) := by decide +kernel
theorem dL_law_1576 : decode cL_law 1576 = .ok (.iconst 0, 1) := by decide +kernel
theorem dL_law_1577 : decode cL_law 1577 = .ok (.ireturn, 1) := by decide +kernel
theorem dL_law_1578 : decode cL_law 1578 = .ok (.iload 6, 2) := by decide +kernel
theorem dL_law_1580 : decode cL_law 1580 = .ok (.ifCond .ne 15, 3) := by decide +kernel
theorem dL_law_1583 : decode cL_law 1583 = .ok (.aload_n 3, 1) := by decide +kernel
theorem dL_law_1584 : decode cL_law 1584 = .ok (.iconst 0, 1) := by decide +kernel
theorem dL_law_1585 : decode cL_law 1585 = .ok (.laload, 1) := by decide +kernel
theorem dL_law_1586 : decode cL_law 1586 = .ok (.iload 7, 2) := by decide +kernel
theorem dL_law_1588 : decode cL_law 1588 = .ok (.i2l, 1) := by decide +kernel
theorem dL_law_1589 : decode cL_law 1589 = .ok (.lcmp, 1) := by decide +kernel
theorem dL_law_1590 : decode cL_law 1590 = .ok (.ifCond .eq 5, 3) := by decide +kernel
theorem dL_law_1593 : decode cL_law 1593 = .ok (.iconst 0, 1) := by decide +kernel
theorem dL_law_1594 : decode cL_law 1594 = .ok (.ireturn, 1) := by decide +kernel
theorem dL_law_1595 : decode cL_law 1595 = .ok (.goto 210, 3) := by decide +kernel
theorem dL_law_1598 : decode cL_law 1598 = .ok (.aload_n 1, 1) := by decide +kernel
theorem dL_law_1599 : decode cL_law 1599 = .ok (.aload_n 0, 1) := by decide +kernel
theorem dL_law_1600 : decode cL_law 1600 = .ok (.iload 5, 2) := by decide +kernel
theorem dL_law_1602 : decode cL_law 1602 = .ok (.iconst 1, 1) := by decide +kernel
theorem dL_law_1603 : decode cL_law 1603 = .ok (.iadd, 1) := by decide +kernel
theorem dL_law_1604 : decode cL_law 1604 = .ok (.iaload, 1) := by decide +kernel
theorem dL_law_1605 : decode cL_law 1605 = .ok (.aload_n 3, 1) := by decide +kernel
theorem dL_law_1606 : decode cL_law 1606 = .ok (.invokestatic 174, 3) := by decide +kernel
theorem dL_law_1609 : decode cL_law 1609 = .ok (.istore 6, 2) := by decide +kernel
theorem dL_law_1611 : decode cL_law 1611 = .ok (.aload_n 2, 1) := by decide +kernel
theorem dL_law_1612 : decode cL_law 1612 = .ok (.aload_n 0, 1) := by decide +kernel
theorem dL_law_1613 : decode cL_law 1613 = .ok (.iload 5, 2) := by decide +kernel
theorem dL_law_1615 : decode cL_law 1615 = .ok (.iconst 1, 1) := by decide +kernel
theorem dL_law_1616 : decode cL_law 1616 = .ok (.iadd, 1) := by decide +kernel
theorem dL_law_1617 : decode cL_law 1617 = .ok (.iaload, 1) := by decide +kernel
theorem dL_law_1618 : decode cL_law 1618 = .ok (.invokevirtual 176, 3) := by decide +kernel
theorem dL_law_1621 : decode cL_law 1621 = .ok (.istore 7, 2) := by decide +kernel
theorem dL_law_1623 : decode cL_law 1623 = .ok (.aload_n 2, 1) := by decide +kernel
theorem dL_law_1624 : decode cL_law 1624 = .ok (.invokevirtual 104, 3) := by decide +kernel
theorem dL_law_1627 : decode cL_law 1627 = .ok (.iload 6, 2) := by decide +kernel
theorem dL_law_1629 : decode cL_law 1629 = .ok (.if_icmp .eq 5, 3) := by decide +kernel
theorem dL_law_1632 : decode cL_law 1632 = .ok (.iconst 0, 1) := by decide +kernel
theorem dL_law_1633 : decode cL_law 1633 = .ok (.ireturn, 1) := by decide +kernel
theorem dL_law_1634 : decode cL_law 1634 = .ok (.iload 6, 2) := by decide +kernel
theorem dL_law_1636 : decode cL_law 1636 = .ok (.ifCond .ne 15, 3) := by decide +kernel
theorem dL_law_1639 : decode cL_law 1639 = .ok (.aload_n 3, 1) := by decide +kernel
theorem dL_law_1640 : decode cL_law 1640 = .ok (.iconst 0, 1) := by decide +kernel
theorem dL_law_1641 : decode cL_law 1641 = .ok (.laload, 1) := by decide +kernel
theorem dL_law_1642 : decode cL_law 1642 = .ok (.iload 7, 2) := by decide +kernel
theorem dL_law_1644 : decode cL_law 1644 = .ok (.i2l, 1) := by decide +kernel
theorem dL_law_1645 : decode cL_law 1645 = .ok (.lcmp, 1) := by decide +kernel
theorem dL_law_1646 : decode cL_law 1646 = .ok (.ifCond .eq 5, 3) := by decide +kernel
theorem dL_law_1649 : decode cL_law 1649 = .ok (.iconst 0, 1) := by decide +kernel
theorem dL_law_1650 : decode cL_law 1650 = .ok (.ireturn, 1) := by decide +kernel
theorem dL_law_1651 : decode cL_law 1651 = .ok (.goto 154, 3) := by decide +kernel
theorem dL_law_1654 : decode cL_law 1654 = .ok (.aload_n 1, 1) := by decide +kernel
theorem dL_law_1655 : decode cL_law 1655 = .ok (.aload_n 0, 1) := by decide +kernel
theorem dL_law_1656 : decode cL_law 1656 = .ok (.iload 5, 2) := by decide +kernel
theorem dL_law_1658 : decode cL_law 1658 = .ok (.iconst 1, 1) := by decide +kernel
theorem dL_law_1659 : decode cL_law 1659 = .ok (.iadd, 1) := by decide +kernel
theorem dL_law_1660 : decode cL_law 1660 = .ok (.iaload, 1) := by decide +kernel
theorem dL_law_1661 : decode cL_law 1661 = .ok (.invokevirtual 177, 3) := by decide +kernel
theorem dL_law_1664 : decode cL_law 1664 = .ok (.aload_n 2, 1) := by decide +kernel
theorem dL_law_1665 : decode cL_law 1665 = .ok (.aload_n 0, 1) := by decide +kernel
theorem dL_law_1666 : decode cL_law 1666 = .ok (.iload 5, 2) := by decide +kernel
theorem dL_law_1668 : decode cL_law 1668 = .ok (.iconst 1, 1) := by decide +kernel
theorem dL_law_1669 : decode cL_law 1669 = .ok (.iadd, 1) := by decide +kernel
theorem dL_law_1670 : decode cL_law 1670 = .ok (.iaload, 1) := by decide +kernel
theorem dL_law_1671 : decode cL_law 1671 = .ok (.invokevirtual 180, 3) := by decide +kernel
theorem dL_law_1674 : decode cL_law 1674 = .ok (.if_icmp .eq 131, 3) := by decide +kernel
theorem dL_law_1677 : decode cL_law 1677 = .ok (.iconst 0, 1) := by decide +kernel
theorem dL_law_1678 : decode cL_law 1678 = .ok (.ireturn, 1) := by decide +kernel
theorem dL_law_1679 : decode cL_law 1679 = .ok (.aload_n 1, 1) := by decide +kernel
theorem dL_law_1680 : decode cL_law 1680 = .ok (.aload_n 0, 1) := by decide +kernel
theorem dL_law_1681 : decode cL_law 1681 = .ok (.iload 5, 2) := by decide +kernel
theorem dL_law_1683 : decode cL_law 1683 = .ok (.iconst 1, 1) := by decide +kernel
theorem dL_law_1684 : decode cL_law 1684 = .ok (.iadd, 1) := by decide +kernel
theorem dL_law_1685 : decode cL_law 1685 = .ok (.iaload, 1) := by decide +kernel
theorem dL_law_1686 : decode cL_law 1686 = .ok (.aload_n 3, 1) := by decide +kernel
theorem dL_law_1687 : decode cL_law 1687 = .ok (.invokestatic 181, 3) := by decide +kernel
theorem dL_law_1690 : decode cL_law 1690 = .ok (.istore 6, 2) := by decide +kernel
theorem dL_law_1692 : decode cL_law 1692 = .ok (.aload_n 2, 1) := by decide +kernel
theorem dL_law_1693 : decode cL_law 1693 = .ok (.aload_n 0, 1) := by decide +kernel
theorem dL_law_1694 : decode cL_law 1694 = .ok (.iload 5, 2) := by decide +kernel
theorem dL_law_1696 : decode cL_law 1696 = .ok (.iconst 1, 1) := by decide +kernel
theorem dL_law_1697 : decode cL_law 1697 = .ok (.iadd, 1) := by decide +kernel
theorem dL_law_1698 : decode cL_law 1698 = .ok (.iaload, 1) := by decide +kernel
theorem dL_law_1699 : decode cL_law 1699 = .ok (.invokevirtual 183, 3) := by decide +kernel
theorem dL_law_1702 : decode cL_law 1702 = .ok (.istore 7, 2) := by decide +kernel
theorem dL_law_1704 : decode cL_law 1704 = .ok (.aload_n 2, 1) := by decide +kernel
theorem dL_law_1705 : decode cL_law 1705 = .ok (.invokevirtual 104, 3) := by decide +kernel
theorem dL_law_1708 : decode cL_law 1708 = .ok (.iload 6, 2) := by decide +kernel
theorem dL_law_1710 : decode cL_law 1710 = .ok (.if_icmp .eq 5, 3) := by decide +kernel
theorem dL_law_1713 : decode cL_law 1713 = .ok (.iconst 0, 1) := by decide +kernel
theorem dL_law_1714 : decode cL_law 1714 = .ok (.ireturn, 1) := by decide +kernel
theorem dL_law_1715 : decode cL_law 1715 = .ok (.iload 6, 2) := by decide +kernel
theorem dL_law_1717 : decode cL_law 1717 = .ok (.ifCond .ne 15, 3) := by decide +kernel
theorem dL_law_1720 : decode cL_law 1720 = .ok (.aload_n 3, 1) := by decide +kernel
theorem dL_law_1721 : decode cL_law 1721 = .ok (.iconst 0, 1) := by decide +kernel
theorem dL_law_1722 : decode cL_law 1722 = .ok (.laload, 1) := by decide +kernel
theorem dL_law_1723 : decode cL_law 1723 = .ok (.iload 7, 2) := by decide +kernel
theorem dL_law_1725 : decode cL_law 1725 = .ok (.i2l, 1) := by decide +kernel
theorem dL_law_1726 : decode cL_law 1726 = .ok (.lcmp, 1) := by decide +kernel
theorem dL_law_1727 : decode cL_law 1727 = .ok (.ifCond .eq 5, 3) := by decide +kernel
theorem dL_law_1730 : decode cL_law 1730 = .ok (.iconst 0, 1) := by decide +kernel
theorem dL_law_1731 : decode cL_law 1731 = .ok (.ireturn, 1) := by decide +kernel
theorem dL_law_1732 : decode cL_law 1732 = .ok (.goto 73, 3) := by decide +kernel
theorem dL_law_1735 : decode cL_law 1735 = .ok (.aload_n 1, 1) := by decide +kernel
theorem dL_law_1736 : decode cL_law 1736 = .ok (.invokevirtual 184, 3) := by decide +kernel
theorem dL_law_1739 : decode cL_law 1739 = .ok (.f2d, 1) := by decide +kernel
theorem dL_law_1740 : decode cL_law 1740 = .ok (.dstore 6, 2) := by decide +kernel
theorem dL_law_1742 : decode cL_law 1742 = .ok (.aload_n 2, 1) := by decide +kernel
theorem dL_law_1743 : decode cL_law 1743 = .ok (.invokevirtual 188, 3) := by decide +kernel
theorem dL_law_1746 : decode cL_law 1746 = .ok (.f2d, 1) := by decide +kernel
theorem dL_law_1747 : decode cL_law 1747 = .ok (.dstore 8, 2) := by decide +kernel
theorem dL_law_1749 : decode cL_law 1749 = .ok (.dload 6, 2) := by decide +kernel
theorem dL_law_1751 : decode cL_law 1751 = .ok (.dload 8, 2) := by decide +kernel
theorem dL_law_1753 : decode cL_law 1753 = .ok (.dcmp .l, 1) := by decide +kernel
theorem dL_law_1754 : decode cL_law 1754 = .ok (.ifCond .eq 21, 3) := by decide +kernel
theorem dL_law_1757 : decode cL_law 1757 = .ok (.dload 6, 2) := by decide +kernel
theorem dL_law_1759 : decode cL_law 1759 = .ok (.dload 6, 2) := by decide +kernel
theorem dL_law_1761 : decode cL_law 1761 = .ok (.dcmp .l, 1) := by decide +kernel
theorem dL_law_1762 : decode cL_law 1762 = .ok (.ifCond .eq 11, 3) := by decide +kernel
theorem dL_law_1765 : decode cL_law 1765 = .ok (.dload 8, 2) := by decide +kernel
theorem dL_law_1767 : decode cL_law 1767 = .ok (.dload 8, 2) := by decide +kernel
theorem dL_law_1769 : decode cL_law 1769 = .ok (.dcmp .l, 1) := by decide +kernel
theorem dL_law_1770 : decode cL_law 1770 = .ok (.ifCond .ne 5, 3) := by decide +kernel
theorem dL_law_1773 : decode cL_law 1773 = .ok (.iconst 0, 1) := by decide +kernel
theorem dL_law_1774 : decode cL_law 1774 = .ok (.ireturn, 1) := by decide +kernel
theorem dL_law_1775 : decode cL_law 1775 = .ok (.goto 30, 3) := by decide +kernel
theorem dL_law_1778 : decode cL_law 1778 = .ok (.aload_n 1, 1) := by decide +kernel
theorem dL_law_1779 : decode cL_law 1779 = .ok (.invokevirtual 189, 3) := by decide +kernel
theorem dL_law_1782 : decode cL_law 1782 = .ok (.aload_n 2, 1) := by decide +kernel
theorem dL_law_1783 : decode cL_law 1783 = .ok (.invokevirtual 193, 3) := by decide +kernel
theorem dL_law_1786 : decode cL_law 1786 = .ok (.lcmp, 1) := by decide +kernel
theorem dL_law_1787 : decode cL_law 1787 = .ok (.ifCond .eq 18, 3) := by decide +kernel
theorem dL_law_1790 : decode cL_law 1790 = .ok (.iconst 0, 1) := by decide +kernel
theorem dL_law_1791 : decode cL_law 1791 = .ok (.ireturn, 1) := by decide +kernel
theorem dL_law_1792 : decode cL_law 1792 = .ok (.aload_n 1, 1) := by decide +kernel
theorem dL_law_1793 : decode cL_law 1793 = .ok (.invokevirtual 194, 3) := by decide +kernel
theorem dL_law_1796 : decode cL_law 1796 = .ok (.aload_n 2, 1) := by decide +kernel
theorem dL_law_1797 : decode cL_law 1797 = .ok (.invokevirtual 198, 3) := by decide +kernel
theorem dL_law_1800 : decode cL_law 1800 = .ok (.if_icmp .eq 5, 3) := by decide +kernel
theorem dL_law_1803 : decode cL_law 1803 = .ok (.iconst 0, 1) := by decide +kernel
theorem dL_law_1804 : decode cL_law 1804 = .ok (.ireturn, 1) := by decide +kernel
theorem dL_law_1805 : decode cL_law 1805 = .ok (.iinc 5 5, 3) := by decide +kernel
theorem dL_law_1808 : decode cL_law 1808 = .ok (.goto (-1780), 3) := by decide +kernel
theorem dL_law_1811 : decode cL_law 1811 = .ok (.iconst 1, 1) := by decide +kernel
theorem dL_law_1812 : decode cL_law 1812 = .ok (.ireturn, 1) := by decide +kernel

/-! The reckoning, counts 8192 on. -/
set_option maxRecDepth 100000 in
theorem fl_b128 : n_all n_ok 6 8192 = true := by decide +kernel
set_option maxRecDepth 100000 in
theorem fl_b129 : n_all n_ok 6 8256 = true := by decide +kernel
set_option maxRecDepth 100000 in
theorem fl_b130 : n_all n_ok 6 8320 = true := by decide +kernel
set_option maxRecDepth 100000 in
theorem fl_b131 : n_all n_ok 6 8384 = true := by decide +kernel
set_option maxRecDepth 100000 in
theorem fl_b132 : n_all n_ok 6 8448 = true := by decide +kernel
set_option maxRecDepth 100000 in
theorem fl_b133 : n_all n_ok 6 8512 = true := by decide +kernel
set_option maxRecDepth 100000 in
theorem fl_b134 : n_all n_ok 6 8576 = true := by decide +kernel
set_option maxRecDepth 100000 in
theorem fl_b135 : n_all n_ok 6 8640 = true := by decide +kernel
set_option maxRecDepth 100000 in
theorem fl_b136 : n_all n_ok 6 8704 = true := by decide +kernel
set_option maxRecDepth 100000 in
theorem fl_b137 : n_all n_ok 6 8768 = true := by decide +kernel
set_option maxRecDepth 100000 in
theorem fl_b138 : n_all n_ok 6 8832 = true := by decide +kernel
set_option maxRecDepth 100000 in
theorem fl_b139 : n_all n_ok 6 8896 = true := by decide +kernel
set_option maxRecDepth 100000 in
theorem fl_b140 : n_all n_ok 6 8960 = true := by decide +kernel
set_option maxRecDepth 100000 in
theorem fl_b141 : n_all n_ok 6 9024 = true := by decide +kernel
set_option maxRecDepth 100000 in
theorem fl_b142 : n_all n_ok 6 9088 = true := by decide +kernel
set_option maxRecDepth 100000 in
theorem fl_b143 : n_all n_ok 6 9152 = true := by decide +kernel
set_option maxRecDepth 100000 in
theorem fl_b144 : n_all n_ok 6 9216 = true := by decide +kernel
set_option maxRecDepth 100000 in
theorem fl_b145 : n_all n_ok 6 9280 = true := by decide +kernel
set_option maxRecDepth 100000 in
theorem fl_b146 : n_all n_ok 6 9344 = true := by decide +kernel
set_option maxRecDepth 100000 in
theorem fl_b147 : n_all n_ok 6 9408 = true := by decide +kernel
set_option maxRecDepth 100000 in
theorem fl_b148 : n_all n_ok 6 9472 = true := by decide +kernel
set_option maxRecDepth 100000 in
theorem fl_b149 : n_all n_ok 6 9536 = true := by decide +kernel
set_option maxRecDepth 100000 in
theorem fl_b150 : n_all n_ok 6 9600 = true := by decide +kernel
set_option maxRecDepth 100000 in
theorem fl_b151 : n_all n_ok 6 9664 = true := by decide +kernel
set_option maxRecDepth 100000 in
theorem fl_b152 : n_all n_ok 6 9728 = true := by decide +kernel
set_option maxRecDepth 100000 in
theorem fl_b153 : n_all n_ok 6 9792 = true := by decide +kernel
set_option maxRecDepth 100000 in
theorem fl_b154 : n_all n_ok 6 9856 = true := by decide +kernel
set_option maxRecDepth 100000 in
theorem fl_b155 : n_all n_ok 6 9920 = true := by decide +kernel
set_option maxRecDepth 100000 in
theorem fl_b156 : n_all n_ok 6 9984 = true := by decide +kernel
set_option maxRecDepth 100000 in
theorem fl_b157 : n_all n_ok 6 10048 = true := by decide +kernel
set_option maxRecDepth 100000 in
theorem fl_b158 : n_all n_ok 6 10112 = true := by decide +kernel
set_option maxRecDepth 100000 in
theorem fl_b159 : n_all n_ok 6 10176 = true := by decide +kernel
set_option maxRecDepth 100000 in
theorem fl_b160 : n_all n_ok 6 10240 = true := by decide +kernel
set_option maxRecDepth 100000 in
theorem fl_b161 : n_all n_ok 6 10304 = true := by decide +kernel
set_option maxRecDepth 100000 in
theorem fl_b162 : n_all n_ok 6 10368 = true := by decide +kernel
set_option maxRecDepth 100000 in
theorem fl_b163 : n_all n_ok 6 10432 = true := by decide +kernel
set_option maxRecDepth 100000 in
theorem fl_b164 : n_all n_ok 6 10496 = true := by decide +kernel
set_option maxRecDepth 100000 in
theorem fl_b165 : n_all n_ok 6 10560 = true := by decide +kernel
set_option maxRecDepth 100000 in
theorem fl_b166 : n_all n_ok 6 10624 = true := by decide +kernel
set_option maxRecDepth 100000 in
theorem fl_b167 : n_all n_ok 6 10688 = true := by decide +kernel
set_option maxRecDepth 100000 in
theorem fl_b168 : n_all n_ok 6 10752 = true := by decide +kernel
set_option maxRecDepth 100000 in
theorem fl_b169 : n_all n_ok 6 10816 = true := by decide +kernel
set_option maxRecDepth 100000 in
theorem fl_b170 : n_all n_ok 6 10880 = true := by decide +kernel
set_option maxRecDepth 100000 in
theorem fl_b171 : n_all n_ok 6 10944 = true := by decide +kernel
set_option maxRecDepth 100000 in
theorem fl_b172 : n_all n_ok 6 11008 = true := by decide +kernel
set_option maxRecDepth 100000 in
theorem fl_b173 : n_all n_ok 6 11072 = true := by decide +kernel
set_option maxRecDepth 100000 in
theorem fl_b174 : n_all n_ok 6 11136 = true := by decide +kernel
set_option maxRecDepth 100000 in
theorem fl_b175 : n_all n_ok 6 11200 = true := by decide +kernel
set_option maxRecDepth 100000 in
theorem fl_b176 : n_all n_ok 6 11264 = true := by decide +kernel
set_option maxRecDepth 100000 in
theorem fl_b177 : n_all n_ok 6 11328 = true := by decide +kernel
set_option maxRecDepth 100000 in
theorem fl_b178 : n_all n_ok 6 11392 = true := by decide +kernel
set_option maxRecDepth 100000 in
theorem fl_b179 : n_all n_ok 6 11456 = true := by decide +kernel
set_option maxRecDepth 100000 in
theorem fl_b180 : n_all n_ok 6 11520 = true := by decide +kernel
set_option maxRecDepth 100000 in
theorem fl_b181 : n_all n_ok 6 11584 = true := by decide +kernel
set_option maxRecDepth 100000 in
theorem fl_b182 : n_all n_ok 6 11648 = true := by decide +kernel
set_option maxRecDepth 100000 in
theorem fl_b183 : n_all n_ok 6 11712 = true := by decide +kernel
set_option maxRecDepth 100000 in
theorem fl_b184 : n_all n_ok 6 11776 = true := by decide +kernel
set_option maxRecDepth 100000 in
theorem fl_b185 : n_all n_ok 6 11840 = true := by decide +kernel
set_option maxRecDepth 100000 in
theorem fl_b186 : n_all n_ok 6 11904 = true := by decide +kernel
set_option maxRecDepth 100000 in
theorem fl_b187 : n_all n_ok 6 11968 = true := by decide +kernel
set_option maxRecDepth 100000 in
theorem fl_b188 : n_all n_ok 6 12032 = true := by decide +kernel
set_option maxRecDepth 100000 in
theorem fl_b189 : n_all n_ok 6 12096 = true := by decide +kernel
set_option maxRecDepth 100000 in
theorem fl_b190 : n_all n_ok 6 12160 = true := by decide +kernel
set_option maxRecDepth 100000 in
theorem fl_b191 : n_all n_ok 6 12224 = true := by decide +kernel
set_option maxRecDepth 100000 in
theorem fl_b192 : n_all n_ok 6 12288 = true := by decide +kernel
set_option maxRecDepth 100000 in
theorem fl_b193 : n_all n_ok 6 12352 = true := by decide +kernel
set_option maxRecDepth 100000 in
theorem fl_b194 : n_all n_ok 6 12416 = true := by decide +kernel
set_option maxRecDepth 100000 in
theorem fl_b195 : n_all n_ok 6 12480 = true := by decide +kernel
set_option maxRecDepth 100000 in
theorem fl_b196 : n_all n_ok 6 12544 = true := by decide +kernel
set_option maxRecDepth 100000 in
theorem fl_b197 : n_all n_ok 6 12608 = true := by decide +kernel
set_option maxRecDepth 100000 in
theorem fl_b198 : n_all n_ok 6 12672 = true := by decide +kernel
set_option maxRecDepth 100000 in
theorem fl_b199 : n_all n_ok 6 12736 = true := by decide +kernel
set_option maxRecDepth 100000 in
theorem fl_b200 : n_all n_ok 6 12800 = true := by decide +kernel
set_option maxRecDepth 100000 in
theorem fl_b201 : n_all n_ok 6 12864 = true := by decide +kernel
set_option maxRecDepth 100000 in
theorem fl_b202 : n_all n_ok 6 12928 = true := by decide +kernel
set_option maxRecDepth 100000 in
theorem fl_b203 : n_all n_ok 6 12992 = true := by decide +kernel
set_option maxRecDepth 100000 in
theorem fl_b204 : n_all n_ok 6 13056 = true := by decide +kernel
set_option maxRecDepth 100000 in
theorem fl_b205 : n_all n_ok 6 13120 = true := by decide +kernel
set_option maxRecDepth 100000 in
theorem fl_b206 : n_all n_ok 6 13184 = true := by decide +kernel
set_option maxRecDepth 100000 in
theorem fl_b207 : n_all n_ok 6 13248 = true := by decide +kernel
set_option maxRecDepth 100000 in
theorem fl_b208 : n_all n_ok 6 13312 = true := by decide +kernel
set_option maxRecDepth 100000 in
theorem fl_b209 : n_all n_ok 6 13376 = true := by decide +kernel
set_option maxRecDepth 100000 in
theorem fl_b210 : n_all n_ok 6 13440 = true := by decide +kernel
set_option maxRecDepth 100000 in
theorem fl_b211 : n_all n_ok 6 13504 = true := by decide +kernel
set_option maxRecDepth 100000 in
theorem fl_b212 : n_all n_ok 6 13568 = true := by decide +kernel
set_option maxRecDepth 100000 in
theorem fl_b213 : n_all n_ok 6 13632 = true := by decide +kernel
set_option maxRecDepth 100000 in
theorem fl_b214 : n_all n_ok 6 13696 = true := by decide +kernel
set_option maxRecDepth 100000 in
theorem fl_b215 : n_all n_ok 6 13760 = true := by decide +kernel
set_option maxRecDepth 100000 in
theorem fl_b216 : n_all n_ok 6 13824 = true := by decide +kernel
set_option maxRecDepth 100000 in
theorem fl_b217 : n_all n_ok 6 13888 = true := by decide +kernel
set_option maxRecDepth 100000 in
theorem fl_b218 : n_all n_ok 6 13952 = true := by decide +kernel
set_option maxRecDepth 100000 in
theorem fl_b219 : n_all n_ok 6 14016 = true := by decide +kernel
set_option maxRecDepth 100000 in
theorem fl_b220 : n_all n_ok 6 14080 = true := by decide +kernel
set_option maxRecDepth 100000 in
theorem fl_b221 : n_all n_ok 6 14144 = true := by decide +kernel
set_option maxRecDepth 100000 in
theorem fl_b222 : n_all n_ok 6 14208 = true := by decide +kernel
set_option maxRecDepth 100000 in
theorem fl_b223 : n_all n_ok 6 14272 = true := by decide +kernel
set_option maxRecDepth 100000 in
theorem fl_b224 : n_all n_ok 6 14336 = true := by decide +kernel
set_option maxRecDepth 100000 in
theorem fl_b225 : n_all n_ok 6 14400 = true := by decide +kernel
set_option maxRecDepth 100000 in
theorem fl_b226 : n_all n_ok 6 14464 = true := by decide +kernel
set_option maxRecDepth 100000 in
theorem fl_b227 : n_all n_ok 6 14528 = true := by decide +kernel
set_option maxRecDepth 100000 in
theorem fl_b228 : n_all n_ok 6 14592 = true := by decide +kernel
set_option maxRecDepth 100000 in
theorem fl_b229 : n_all n_ok 6 14656 = true := by decide +kernel
set_option maxRecDepth 100000 in
theorem fl_b230 : n_all n_ok 6 14720 = true := by decide +kernel
set_option maxRecDepth 100000 in
theorem fl_b231 : n_all n_ok 6 14784 = true := by decide +kernel
set_option maxRecDepth 100000 in
theorem fl_b232 : n_all n_ok 6 14848 = true := by decide +kernel
set_option maxRecDepth 100000 in
theorem fl_b233 : n_all n_ok 6 14912 = true := by decide +kernel
set_option maxRecDepth 100000 in
theorem fl_b234 : n_all n_ok 6 14976 = true := by decide +kernel
set_option maxRecDepth 100000 in
theorem fl_b235 : n_all n_ok 6 15040 = true := by decide +kernel
set_option maxRecDepth 100000 in
theorem fl_b236 : n_all n_ok 6 15104 = true := by decide +kernel
set_option maxRecDepth 100000 in
theorem fl_b237 : n_all n_ok 6 15168 = true := by decide +kernel
set_option maxRecDepth 100000 in
theorem fl_b238 : n_all n_ok 6 15232 = true := by decide +kernel
set_option maxRecDepth 100000 in
theorem fl_b239 : n_all n_ok 6 15296 = true := by decide +kernel
set_option maxRecDepth 100000 in
theorem fl_b240 : n_all n_ok 6 15360 = true := by decide +kernel
set_option maxRecDepth 100000 in
theorem fl_b241 : n_all n_ok 6 15424 = true := by decide +kernel
set_option maxRecDepth 100000 in
theorem fl_b242 : n_all n_ok 6 15488 = true := by decide +kernel
set_option maxRecDepth 100000 in
theorem fl_b243 : n_all n_ok 6 15552 = true := by decide +kernel
set_option maxRecDepth 100000 in
theorem fl_b244 : n_all n_ok 6 15616 = true := by decide +kernel
set_option maxRecDepth 100000 in
theorem fl_b245 : n_all n_ok 6 15680 = true := by decide +kernel
set_option maxRecDepth 100000 in
theorem fl_b246 : n_all n_ok 6 15744 = true := by decide +kernel
set_option maxRecDepth 100000 in
theorem fl_b247 : n_all n_ok 6 15808 = true := by decide +kernel
set_option maxRecDepth 100000 in
theorem fl_b248 : n_all n_ok 6 15872 = true := by decide +kernel
set_option maxRecDepth 100000 in
theorem fl_b249 : n_all n_ok 6 15936 = true := by decide +kernel
set_option maxRecDepth 100000 in
theorem fl_b250 : n_all n_ok 6 16000 = true := by decide +kernel
set_option maxRecDepth 100000 in
theorem fl_b251 : n_all n_ok 6 16064 = true := by decide +kernel
set_option maxRecDepth 100000 in
theorem fl_b252 : n_all n_ok 6 16128 = true := by decide +kernel
set_option maxRecDepth 100000 in
theorem fl_b253 : n_all n_ok 6 16192 = true := by decide +kernel
set_option maxRecDepth 100000 in
theorem fl_b254 : n_all n_ok 6 16256 = true := by decide +kernel
set_option maxRecDepth 100000 in
theorem fl_b255 : n_all n_ok 6 16320 = true := by decide +kernel
theorem fl_r1_0 : fl_R 8192 8256 := fl_L 8192 fl_b128
theorem fl_r1_1 : fl_R 8192 8320 := fl_J fl_r1_0 (fl_L 8256 fl_b129)
theorem fl_r1_2 : fl_R 8192 8384 := fl_J fl_r1_1 (fl_L 8320 fl_b130)
theorem fl_r1_3 : fl_R 8192 8448 := fl_J fl_r1_2 (fl_L 8384 fl_b131)
theorem fl_r1_4 : fl_R 8192 8512 := fl_J fl_r1_3 (fl_L 8448 fl_b132)
theorem fl_r1_5 : fl_R 8192 8576 := fl_J fl_r1_4 (fl_L 8512 fl_b133)
theorem fl_r1_6 : fl_R 8192 8640 := fl_J fl_r1_5 (fl_L 8576 fl_b134)
theorem fl_r1_7 : fl_R 8192 8704 := fl_J fl_r1_6 (fl_L 8640 fl_b135)
theorem fl_r1_8 : fl_R 8192 8768 := fl_J fl_r1_7 (fl_L 8704 fl_b136)
theorem fl_r1_9 : fl_R 8192 8832 := fl_J fl_r1_8 (fl_L 8768 fl_b137)
theorem fl_r1_10 : fl_R 8192 8896 := fl_J fl_r1_9 (fl_L 8832 fl_b138)
theorem fl_r1_11 : fl_R 8192 8960 := fl_J fl_r1_10 (fl_L 8896 fl_b139)
theorem fl_r1_12 : fl_R 8192 9024 := fl_J fl_r1_11 (fl_L 8960 fl_b140)
theorem fl_r1_13 : fl_R 8192 9088 := fl_J fl_r1_12 (fl_L 9024 fl_b141)
theorem fl_r1_14 : fl_R 8192 9152 := fl_J fl_r1_13 (fl_L 9088 fl_b142)
theorem fl_r1_15 : fl_R 8192 9216 := fl_J fl_r1_14 (fl_L 9152 fl_b143)
theorem fl_r1_16 : fl_R 8192 9280 := fl_J fl_r1_15 (fl_L 9216 fl_b144)
theorem fl_r1_17 : fl_R 8192 9344 := fl_J fl_r1_16 (fl_L 9280 fl_b145)
theorem fl_r1_18 : fl_R 8192 9408 := fl_J fl_r1_17 (fl_L 9344 fl_b146)
theorem fl_r1_19 : fl_R 8192 9472 := fl_J fl_r1_18 (fl_L 9408 fl_b147)
theorem fl_r1_20 : fl_R 8192 9536 := fl_J fl_r1_19 (fl_L 9472 fl_b148)
theorem fl_r1_21 : fl_R 8192 9600 := fl_J fl_r1_20 (fl_L 9536 fl_b149)
theorem fl_r1_22 : fl_R 8192 9664 := fl_J fl_r1_21 (fl_L 9600 fl_b150)
theorem fl_r1_23 : fl_R 8192 9728 := fl_J fl_r1_22 (fl_L 9664 fl_b151)
theorem fl_r1_24 : fl_R 8192 9792 := fl_J fl_r1_23 (fl_L 9728 fl_b152)
theorem fl_r1_25 : fl_R 8192 9856 := fl_J fl_r1_24 (fl_L 9792 fl_b153)
theorem fl_r1_26 : fl_R 8192 9920 := fl_J fl_r1_25 (fl_L 9856 fl_b154)
theorem fl_r1_27 : fl_R 8192 9984 := fl_J fl_r1_26 (fl_L 9920 fl_b155)
theorem fl_r1_28 : fl_R 8192 10048 := fl_J fl_r1_27 (fl_L 9984 fl_b156)
theorem fl_r1_29 : fl_R 8192 10112 := fl_J fl_r1_28 (fl_L 10048 fl_b157)
theorem fl_r1_30 : fl_R 8192 10176 := fl_J fl_r1_29 (fl_L 10112 fl_b158)
theorem fl_r1_31 : fl_R 8192 10240 := fl_J fl_r1_30 (fl_L 10176 fl_b159)
theorem fl_r1_32 : fl_R 8192 10304 := fl_J fl_r1_31 (fl_L 10240 fl_b160)
theorem fl_r1_33 : fl_R 8192 10368 := fl_J fl_r1_32 (fl_L 10304 fl_b161)
theorem fl_r1_34 : fl_R 8192 10432 := fl_J fl_r1_33 (fl_L 10368 fl_b162)
theorem fl_r1_35 : fl_R 8192 10496 := fl_J fl_r1_34 (fl_L 10432 fl_b163)
theorem fl_r1_36 : fl_R 8192 10560 := fl_J fl_r1_35 (fl_L 10496 fl_b164)
theorem fl_r1_37 : fl_R 8192 10624 := fl_J fl_r1_36 (fl_L 10560 fl_b165)
theorem fl_r1_38 : fl_R 8192 10688 := fl_J fl_r1_37 (fl_L 10624 fl_b166)
theorem fl_r1_39 : fl_R 8192 10752 := fl_J fl_r1_38 (fl_L 10688 fl_b167)
theorem fl_r1_40 : fl_R 8192 10816 := fl_J fl_r1_39 (fl_L 10752 fl_b168)
theorem fl_r1_41 : fl_R 8192 10880 := fl_J fl_r1_40 (fl_L 10816 fl_b169)
theorem fl_r1_42 : fl_R 8192 10944 := fl_J fl_r1_41 (fl_L 10880 fl_b170)
theorem fl_r1_43 : fl_R 8192 11008 := fl_J fl_r1_42 (fl_L 10944 fl_b171)
theorem fl_r1_44 : fl_R 8192 11072 := fl_J fl_r1_43 (fl_L 11008 fl_b172)
theorem fl_r1_45 : fl_R 8192 11136 := fl_J fl_r1_44 (fl_L 11072 fl_b173)
theorem fl_r1_46 : fl_R 8192 11200 := fl_J fl_r1_45 (fl_L 11136 fl_b174)
theorem fl_r1_47 : fl_R 8192 11264 := fl_J fl_r1_46 (fl_L 11200 fl_b175)
theorem fl_r1_48 : fl_R 8192 11328 := fl_J fl_r1_47 (fl_L 11264 fl_b176)
theorem fl_r1_49 : fl_R 8192 11392 := fl_J fl_r1_48 (fl_L 11328 fl_b177)
theorem fl_r1_50 : fl_R 8192 11456 := fl_J fl_r1_49 (fl_L 11392 fl_b178)
theorem fl_r1_51 : fl_R 8192 11520 := fl_J fl_r1_50 (fl_L 11456 fl_b179)
theorem fl_r1_52 : fl_R 8192 11584 := fl_J fl_r1_51 (fl_L 11520 fl_b180)
theorem fl_r1_53 : fl_R 8192 11648 := fl_J fl_r1_52 (fl_L 11584 fl_b181)
theorem fl_r1_54 : fl_R 8192 11712 := fl_J fl_r1_53 (fl_L 11648 fl_b182)
theorem fl_r1_55 : fl_R 8192 11776 := fl_J fl_r1_54 (fl_L 11712 fl_b183)
theorem fl_r1_56 : fl_R 8192 11840 := fl_J fl_r1_55 (fl_L 11776 fl_b184)
theorem fl_r1_57 : fl_R 8192 11904 := fl_J fl_r1_56 (fl_L 11840 fl_b185)
theorem fl_r1_58 : fl_R 8192 11968 := fl_J fl_r1_57 (fl_L 11904 fl_b186)
theorem fl_r1_59 : fl_R 8192 12032 := fl_J fl_r1_58 (fl_L 11968 fl_b187)
theorem fl_r1_60 : fl_R 8192 12096 := fl_J fl_r1_59 (fl_L 12032 fl_b188)
theorem fl_r1_61 : fl_R 8192 12160 := fl_J fl_r1_60 (fl_L 12096 fl_b189)
theorem fl_r1_62 : fl_R 8192 12224 := fl_J fl_r1_61 (fl_L 12160 fl_b190)
theorem fl_r1_63 : fl_R 8192 12288 := fl_J fl_r1_62 (fl_L 12224 fl_b191)
theorem fl_r1_64 : fl_R 8192 12352 := fl_J fl_r1_63 (fl_L 12288 fl_b192)
theorem fl_r1_65 : fl_R 8192 12416 := fl_J fl_r1_64 (fl_L 12352 fl_b193)
theorem fl_r1_66 : fl_R 8192 12480 := fl_J fl_r1_65 (fl_L 12416 fl_b194)
theorem fl_r1_67 : fl_R 8192 12544 := fl_J fl_r1_66 (fl_L 12480 fl_b195)
theorem fl_r1_68 : fl_R 8192 12608 := fl_J fl_r1_67 (fl_L 12544 fl_b196)
theorem fl_r1_69 : fl_R 8192 12672 := fl_J fl_r1_68 (fl_L 12608 fl_b197)
theorem fl_r1_70 : fl_R 8192 12736 := fl_J fl_r1_69 (fl_L 12672 fl_b198)
theorem fl_r1_71 : fl_R 8192 12800 := fl_J fl_r1_70 (fl_L 12736 fl_b199)
theorem fl_r1_72 : fl_R 8192 12864 := fl_J fl_r1_71 (fl_L 12800 fl_b200)
theorem fl_r1_73 : fl_R 8192 12928 := fl_J fl_r1_72 (fl_L 12864 fl_b201)
theorem fl_r1_74 : fl_R 8192 12992 := fl_J fl_r1_73 (fl_L 12928 fl_b202)
theorem fl_r1_75 : fl_R 8192 13056 := fl_J fl_r1_74 (fl_L 12992 fl_b203)
theorem fl_r1_76 : fl_R 8192 13120 := fl_J fl_r1_75 (fl_L 13056 fl_b204)
theorem fl_r1_77 : fl_R 8192 13184 := fl_J fl_r1_76 (fl_L 13120 fl_b205)
theorem fl_r1_78 : fl_R 8192 13248 := fl_J fl_r1_77 (fl_L 13184 fl_b206)
theorem fl_r1_79 : fl_R 8192 13312 := fl_J fl_r1_78 (fl_L 13248 fl_b207)
theorem fl_r1_80 : fl_R 8192 13376 := fl_J fl_r1_79 (fl_L 13312 fl_b208)
theorem fl_r1_81 : fl_R 8192 13440 := fl_J fl_r1_80 (fl_L 13376 fl_b209)
theorem fl_r1_82 : fl_R 8192 13504 := fl_J fl_r1_81 (fl_L 13440 fl_b210)
theorem fl_r1_83 : fl_R 8192 13568 := fl_J fl_r1_82 (fl_L 13504 fl_b211)
theorem fl_r1_84 : fl_R 8192 13632 := fl_J fl_r1_83 (fl_L 13568 fl_b212)
theorem fl_r1_85 : fl_R 8192 13696 := fl_J fl_r1_84 (fl_L 13632 fl_b213)
theorem fl_r1_86 : fl_R 8192 13760 := fl_J fl_r1_85 (fl_L 13696 fl_b214)
theorem fl_r1_87 : fl_R 8192 13824 := fl_J fl_r1_86 (fl_L 13760 fl_b215)
theorem fl_r1_88 : fl_R 8192 13888 := fl_J fl_r1_87 (fl_L 13824 fl_b216)
theorem fl_r1_89 : fl_R 8192 13952 := fl_J fl_r1_88 (fl_L 13888 fl_b217)
theorem fl_r1_90 : fl_R 8192 14016 := fl_J fl_r1_89 (fl_L 13952 fl_b218)
theorem fl_r1_91 : fl_R 8192 14080 := fl_J fl_r1_90 (fl_L 14016 fl_b219)
theorem fl_r1_92 : fl_R 8192 14144 := fl_J fl_r1_91 (fl_L 14080 fl_b220)
theorem fl_r1_93 : fl_R 8192 14208 := fl_J fl_r1_92 (fl_L 14144 fl_b221)
theorem fl_r1_94 : fl_R 8192 14272 := fl_J fl_r1_93 (fl_L 14208 fl_b222)
theorem fl_r1_95 : fl_R 8192 14336 := fl_J fl_r1_94 (fl_L 14272 fl_b223)
theorem fl_r1_96 : fl_R 8192 14400 := fl_J fl_r1_95 (fl_L 14336 fl_b224)
theorem fl_r1_97 : fl_R 8192 14464 := fl_J fl_r1_96 (fl_L 14400 fl_b225)
theorem fl_r1_98 : fl_R 8192 14528 := fl_J fl_r1_97 (fl_L 14464 fl_b226)
theorem fl_r1_99 : fl_R 8192 14592 := fl_J fl_r1_98 (fl_L 14528 fl_b227)
theorem fl_r1_100 : fl_R 8192 14656 := fl_J fl_r1_99 (fl_L 14592 fl_b228)
theorem fl_r1_101 : fl_R 8192 14720 := fl_J fl_r1_100 (fl_L 14656 fl_b229)
theorem fl_r1_102 : fl_R 8192 14784 := fl_J fl_r1_101 (fl_L 14720 fl_b230)
theorem fl_r1_103 : fl_R 8192 14848 := fl_J fl_r1_102 (fl_L 14784 fl_b231)
theorem fl_r1_104 : fl_R 8192 14912 := fl_J fl_r1_103 (fl_L 14848 fl_b232)
theorem fl_r1_105 : fl_R 8192 14976 := fl_J fl_r1_104 (fl_L 14912 fl_b233)
theorem fl_r1_106 : fl_R 8192 15040 := fl_J fl_r1_105 (fl_L 14976 fl_b234)
theorem fl_r1_107 : fl_R 8192 15104 := fl_J fl_r1_106 (fl_L 15040 fl_b235)
theorem fl_r1_108 : fl_R 8192 15168 := fl_J fl_r1_107 (fl_L 15104 fl_b236)
theorem fl_r1_109 : fl_R 8192 15232 := fl_J fl_r1_108 (fl_L 15168 fl_b237)
theorem fl_r1_110 : fl_R 8192 15296 := fl_J fl_r1_109 (fl_L 15232 fl_b238)
theorem fl_r1_111 : fl_R 8192 15360 := fl_J fl_r1_110 (fl_L 15296 fl_b239)
theorem fl_r1_112 : fl_R 8192 15424 := fl_J fl_r1_111 (fl_L 15360 fl_b240)
theorem fl_r1_113 : fl_R 8192 15488 := fl_J fl_r1_112 (fl_L 15424 fl_b241)
theorem fl_r1_114 : fl_R 8192 15552 := fl_J fl_r1_113 (fl_L 15488 fl_b242)
theorem fl_r1_115 : fl_R 8192 15616 := fl_J fl_r1_114 (fl_L 15552 fl_b243)
theorem fl_r1_116 : fl_R 8192 15680 := fl_J fl_r1_115 (fl_L 15616 fl_b244)
theorem fl_r1_117 : fl_R 8192 15744 := fl_J fl_r1_116 (fl_L 15680 fl_b245)
theorem fl_r1_118 : fl_R 8192 15808 := fl_J fl_r1_117 (fl_L 15744 fl_b246)
theorem fl_r1_119 : fl_R 8192 15872 := fl_J fl_r1_118 (fl_L 15808 fl_b247)
theorem fl_r1_120 : fl_R 8192 15936 := fl_J fl_r1_119 (fl_L 15872 fl_b248)
theorem fl_r1_121 : fl_R 8192 16000 := fl_J fl_r1_120 (fl_L 15936 fl_b249)
theorem fl_r1_122 : fl_R 8192 16064 := fl_J fl_r1_121 (fl_L 16000 fl_b250)
theorem fl_r1_123 : fl_R 8192 16128 := fl_J fl_r1_122 (fl_L 16064 fl_b251)
theorem fl_r1_124 : fl_R 8192 16192 := fl_J fl_r1_123 (fl_L 16128 fl_b252)
theorem fl_r1_125 : fl_R 8192 16256 := fl_J fl_r1_124 (fl_L 16192 fl_b253)
theorem fl_r1_126 : fl_R 8192 16320 := fl_J fl_r1_125 (fl_L 16256 fl_b254)
theorem fl_r1_127 : fl_R 8192 16384 := fl_J fl_r1_126 (fl_L 16320 fl_b255)
theorem fl_R1 : fl_R 8192 16384 := fl_r1_127

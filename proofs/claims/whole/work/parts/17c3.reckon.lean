/-! The reckoning, counts 16384 on. -/
set_option maxRecDepth 100000 in
theorem fl_b256 : n_all n_ok 6 16384 = true := by decide +kernel
set_option maxRecDepth 100000 in
theorem fl_b257 : n_all n_ok 6 16448 = true := by decide +kernel
set_option maxRecDepth 100000 in
theorem fl_b258 : n_all n_ok 6 16512 = true := by decide +kernel
set_option maxRecDepth 100000 in
theorem fl_b259 : n_all n_ok 6 16576 = true := by decide +kernel
set_option maxRecDepth 100000 in
theorem fl_b260 : n_all n_ok 6 16640 = true := by decide +kernel
set_option maxRecDepth 100000 in
theorem fl_b261 : n_all n_ok 6 16704 = true := by decide +kernel
set_option maxRecDepth 100000 in
theorem fl_b262 : n_all n_ok 6 16768 = true := by decide +kernel
set_option maxRecDepth 100000 in
theorem fl_b263 : n_all n_ok 6 16832 = true := by decide +kernel
set_option maxRecDepth 100000 in
theorem fl_b264 : n_all n_ok 6 16896 = true := by decide +kernel
set_option maxRecDepth 100000 in
theorem fl_b265 : n_all n_ok 6 16960 = true := by decide +kernel
set_option maxRecDepth 100000 in
theorem fl_b266 : n_all n_ok 6 17024 = true := by decide +kernel
set_option maxRecDepth 100000 in
theorem fl_b267 : n_all n_ok 6 17088 = true := by decide +kernel
set_option maxRecDepth 100000 in
theorem fl_b268 : n_all n_ok 6 17152 = true := by decide +kernel
set_option maxRecDepth 100000 in
theorem fl_b269 : n_all n_ok 6 17216 = true := by decide +kernel
set_option maxRecDepth 100000 in
theorem fl_b270 : n_all n_ok 6 17280 = true := by decide +kernel
set_option maxRecDepth 100000 in
theorem fl_b271 : n_all n_ok 6 17344 = true := by decide +kernel
set_option maxRecDepth 100000 in
theorem fl_b272 : n_all n_ok 6 17408 = true := by decide +kernel
set_option maxRecDepth 100000 in
theorem fl_b273 : n_all n_ok 6 17472 = true := by decide +kernel
set_option maxRecDepth 100000 in
theorem fl_b274 : n_all n_ok 6 17536 = true := by decide +kernel
set_option maxRecDepth 100000 in
theorem fl_b275 : n_all n_ok 6 17600 = true := by decide +kernel
set_option maxRecDepth 100000 in
theorem fl_b276 : n_all n_ok 6 17664 = true := by decide +kernel
set_option maxRecDepth 100000 in
theorem fl_b277 : n_all n_ok 6 17728 = true := by decide +kernel
set_option maxRecDepth 100000 in
theorem fl_b278 : n_all n_ok 6 17792 = true := by decide +kernel
set_option maxRecDepth 100000 in
theorem fl_b279 : n_all n_ok 6 17856 = true := by decide +kernel
set_option maxRecDepth 100000 in
theorem fl_b280 : n_all n_ok 6 17920 = true := by decide +kernel
set_option maxRecDepth 100000 in
theorem fl_b281 : n_all n_ok 6 17984 = true := by decide +kernel
set_option maxRecDepth 100000 in
theorem fl_b282 : n_all n_ok 6 18048 = true := by decide +kernel
set_option maxRecDepth 100000 in
theorem fl_b283 : n_all n_ok 6 18112 = true := by decide +kernel
set_option maxRecDepth 100000 in
theorem fl_b284 : n_all n_ok 6 18176 = true := by decide +kernel
set_option maxRecDepth 100000 in
theorem fl_b285 : n_all n_ok 6 18240 = true := by decide +kernel
set_option maxRecDepth 100000 in
theorem fl_b286 : n_all n_ok 6 18304 = true := by decide +kernel
set_option maxRecDepth 100000 in
theorem fl_b287 : n_all n_ok 6 18368 = true := by decide +kernel
set_option maxRecDepth 100000 in
theorem fl_b288 : n_all n_ok 6 18432 = true := by decide +kernel
set_option maxRecDepth 100000 in
theorem fl_b289 : n_all n_ok 6 18496 = true := by decide +kernel
set_option maxRecDepth 100000 in
theorem fl_b290 : n_all n_ok 6 18560 = true := by decide +kernel
set_option maxRecDepth 100000 in
theorem fl_b291 : n_all n_ok 6 18624 = true := by decide +kernel
set_option maxRecDepth 100000 in
theorem fl_b292 : n_all n_ok 6 18688 = true := by decide +kernel
set_option maxRecDepth 100000 in
theorem fl_b293 : n_all n_ok 6 18752 = true := by decide +kernel
set_option maxRecDepth 100000 in
theorem fl_b294 : n_all n_ok 6 18816 = true := by decide +kernel
set_option maxRecDepth 100000 in
theorem fl_b295 : n_all n_ok 6 18880 = true := by decide +kernel
set_option maxRecDepth 100000 in
theorem fl_b296 : n_all n_ok 6 18944 = true := by decide +kernel
set_option maxRecDepth 100000 in
theorem fl_b297 : n_all n_ok 6 19008 = true := by decide +kernel
set_option maxRecDepth 100000 in
theorem fl_b298 : n_all n_ok 6 19072 = true := by decide +kernel
set_option maxRecDepth 100000 in
theorem fl_b299 : n_all n_ok 6 19136 = true := by decide +kernel
set_option maxRecDepth 100000 in
theorem fl_b300 : n_all n_ok 6 19200 = true := by decide +kernel
set_option maxRecDepth 100000 in
theorem fl_b301 : n_all n_ok 6 19264 = true := by decide +kernel
set_option maxRecDepth 100000 in
theorem fl_b302 : n_all n_ok 6 19328 = true := by decide +kernel
set_option maxRecDepth 100000 in
theorem fl_b303 : n_all n_ok 6 19392 = true := by decide +kernel
set_option maxRecDepth 100000 in
theorem fl_b304 : n_all n_ok 6 19456 = true := by decide +kernel
set_option maxRecDepth 100000 in
theorem fl_b305 : n_all n_ok 6 19520 = true := by decide +kernel
set_option maxRecDepth 100000 in
theorem fl_b306 : n_all n_ok 6 19584 = true := by decide +kernel
set_option maxRecDepth 100000 in
theorem fl_b307 : n_all n_ok 6 19648 = true := by decide +kernel
set_option maxRecDepth 100000 in
theorem fl_b308 : n_all n_ok 6 19712 = true := by decide +kernel
set_option maxRecDepth 100000 in
theorem fl_b309 : n_all n_ok 6 19776 = true := by decide +kernel
set_option maxRecDepth 100000 in
theorem fl_b310 : n_all n_ok 6 19840 = true := by decide +kernel
set_option maxRecDepth 100000 in
theorem fl_b311 : n_all n_ok 6 19904 = true := by decide +kernel
set_option maxRecDepth 100000 in
theorem fl_b312 : n_all n_ok 6 19968 = true := by decide +kernel
set_option maxRecDepth 100000 in
theorem fl_b313 : n_all n_ok 6 20032 = true := by decide +kernel
set_option maxRecDepth 100000 in
theorem fl_b314 : n_all n_ok 6 20096 = true := by decide +kernel
set_option maxRecDepth 100000 in
theorem fl_b315 : n_all n_ok 6 20160 = true := by decide +kernel
set_option maxRecDepth 100000 in
theorem fl_b316 : n_all n_ok 6 20224 = true := by decide +kernel
set_option maxRecDepth 100000 in
theorem fl_b317 : n_all n_ok 6 20288 = true := by decide +kernel
set_option maxRecDepth 100000 in
theorem fl_b318 : n_all n_ok 6 20352 = true := by decide +kernel
set_option maxRecDepth 100000 in
theorem fl_b319 : n_all n_ok 6 20416 = true := by decide +kernel
set_option maxRecDepth 100000 in
theorem fl_b320 : n_all n_ok 6 20480 = true := by decide +kernel
set_option maxRecDepth 100000 in
theorem fl_b321 : n_all n_ok 6 20544 = true := by decide +kernel
set_option maxRecDepth 100000 in
theorem fl_b322 : n_all n_ok 6 20608 = true := by decide +kernel
set_option maxRecDepth 100000 in
theorem fl_b323 : n_all n_ok 6 20672 = true := by decide +kernel
set_option maxRecDepth 100000 in
theorem fl_b324 : n_all n_ok 6 20736 = true := by decide +kernel
set_option maxRecDepth 100000 in
theorem fl_b325 : n_all n_ok 6 20800 = true := by decide +kernel
set_option maxRecDepth 100000 in
theorem fl_b326 : n_all n_ok 6 20864 = true := by decide +kernel
set_option maxRecDepth 100000 in
theorem fl_b327 : n_all n_ok 6 20928 = true := by decide +kernel
set_option maxRecDepth 100000 in
theorem fl_b328 : n_all n_ok 6 20992 = true := by decide +kernel
set_option maxRecDepth 100000 in
theorem fl_b329 : n_all n_ok 6 21056 = true := by decide +kernel
set_option maxRecDepth 100000 in
theorem fl_b330 : n_all n_ok 6 21120 = true := by decide +kernel
set_option maxRecDepth 100000 in
theorem fl_b331 : n_all n_ok 6 21184 = true := by decide +kernel
set_option maxRecDepth 100000 in
theorem fl_b332 : n_all n_ok 6 21248 = true := by decide +kernel
set_option maxRecDepth 100000 in
theorem fl_b333 : n_all n_ok 6 21312 = true := by decide +kernel
set_option maxRecDepth 100000 in
theorem fl_b334 : n_all n_ok 6 21376 = true := by decide +kernel
set_option maxRecDepth 100000 in
theorem fl_b335 : n_all n_ok 6 21440 = true := by decide +kernel
set_option maxRecDepth 100000 in
theorem fl_b336 : n_all n_ok 6 21504 = true := by decide +kernel
set_option maxRecDepth 100000 in
theorem fl_b337 : n_all n_ok 6 21568 = true := by decide +kernel
set_option maxRecDepth 100000 in
theorem fl_b338 : n_all n_ok 6 21632 = true := by decide +kernel
set_option maxRecDepth 100000 in
theorem fl_b339 : n_all n_ok 6 21696 = true := by decide +kernel
set_option maxRecDepth 100000 in
theorem fl_b340 : n_all n_ok 6 21760 = true := by decide +kernel
set_option maxRecDepth 100000 in
theorem fl_b341 : n_all n_ok 6 21824 = true := by decide +kernel
set_option maxRecDepth 100000 in
theorem fl_b342 : n_all n_ok 6 21888 = true := by decide +kernel
set_option maxRecDepth 100000 in
theorem fl_b343 : n_all n_ok 6 21952 = true := by decide +kernel
set_option maxRecDepth 100000 in
theorem fl_b344 : n_all n_ok 6 22016 = true := by decide +kernel
set_option maxRecDepth 100000 in
theorem fl_b345 : n_all n_ok 6 22080 = true := by decide +kernel
set_option maxRecDepth 100000 in
theorem fl_b346 : n_all n_ok 6 22144 = true := by decide +kernel
set_option maxRecDepth 100000 in
theorem fl_b347 : n_all n_ok 6 22208 = true := by decide +kernel
set_option maxRecDepth 100000 in
theorem fl_b348 : n_all n_ok 6 22272 = true := by decide +kernel
set_option maxRecDepth 100000 in
theorem fl_b349 : n_all n_ok 6 22336 = true := by decide +kernel
set_option maxRecDepth 100000 in
theorem fl_b350 : n_all n_ok 6 22400 = true := by decide +kernel
set_option maxRecDepth 100000 in
theorem fl_b351 : n_all n_ok 6 22464 = true := by decide +kernel
set_option maxRecDepth 100000 in
theorem fl_b352 : n_all n_ok 6 22528 = true := by decide +kernel
set_option maxRecDepth 100000 in
theorem fl_b353 : n_all n_ok 6 22592 = true := by decide +kernel
set_option maxRecDepth 100000 in
theorem fl_b354 : n_all n_ok 6 22656 = true := by decide +kernel
set_option maxRecDepth 100000 in
theorem fl_b355 : n_all n_ok 6 22720 = true := by decide +kernel
set_option maxRecDepth 100000 in
theorem fl_b356 : n_all n_ok 6 22784 = true := by decide +kernel
set_option maxRecDepth 100000 in
theorem fl_b357 : n_all n_ok 6 22848 = true := by decide +kernel
set_option maxRecDepth 100000 in
theorem fl_b358 : n_all n_ok 6 22912 = true := by decide +kernel
set_option maxRecDepth 100000 in
theorem fl_b359 : n_all n_ok 6 22976 = true := by decide +kernel
set_option maxRecDepth 100000 in
theorem fl_b360 : n_all n_ok 6 23040 = true := by decide +kernel
set_option maxRecDepth 100000 in
theorem fl_b361 : n_all n_ok 6 23104 = true := by decide +kernel
set_option maxRecDepth 100000 in
theorem fl_b362 : n_all n_ok 6 23168 = true := by decide +kernel
set_option maxRecDepth 100000 in
theorem fl_b363 : n_all n_ok 6 23232 = true := by decide +kernel
set_option maxRecDepth 100000 in
theorem fl_b364 : n_all n_ok 6 23296 = true := by decide +kernel
set_option maxRecDepth 100000 in
theorem fl_b365 : n_all n_ok 6 23360 = true := by decide +kernel
set_option maxRecDepth 100000 in
theorem fl_b366 : n_all n_ok 6 23424 = true := by decide +kernel
set_option maxRecDepth 100000 in
theorem fl_b367 : n_all n_ok 6 23488 = true := by decide +kernel
set_option maxRecDepth 100000 in
theorem fl_b368 : n_all n_ok 6 23552 = true := by decide +kernel
set_option maxRecDepth 100000 in
theorem fl_b369 : n_all n_ok 6 23616 = true := by decide +kernel
set_option maxRecDepth 100000 in
theorem fl_b370 : n_all n_ok 6 23680 = true := by decide +kernel
set_option maxRecDepth 100000 in
theorem fl_b371 : n_all n_ok 6 23744 = true := by decide +kernel
set_option maxRecDepth 100000 in
theorem fl_b372 : n_all n_ok 6 23808 = true := by decide +kernel
set_option maxRecDepth 100000 in
theorem fl_b373 : n_all n_ok 6 23872 = true := by decide +kernel
set_option maxRecDepth 100000 in
theorem fl_b374 : n_all n_ok 6 23936 = true := by decide +kernel
set_option maxRecDepth 100000 in
theorem fl_b375 : n_all n_ok 6 24000 = true := by decide +kernel
set_option maxRecDepth 100000 in
theorem fl_b376 : n_all n_ok 6 24064 = true := by decide +kernel
set_option maxRecDepth 100000 in
theorem fl_b377 : n_all n_ok 6 24128 = true := by decide +kernel
set_option maxRecDepth 100000 in
theorem fl_b378 : n_all n_ok 6 24192 = true := by decide +kernel
set_option maxRecDepth 100000 in
theorem fl_b379 : n_all n_ok 6 24256 = true := by decide +kernel
set_option maxRecDepth 100000 in
theorem fl_b380 : n_all n_ok 6 24320 = true := by decide +kernel
set_option maxRecDepth 100000 in
theorem fl_b381 : n_all n_ok 6 24384 = true := by decide +kernel
set_option maxRecDepth 100000 in
theorem fl_b382 : n_all n_ok 6 24448 = true := by decide +kernel
set_option maxRecDepth 100000 in
theorem fl_b383 : n_all n_ok 6 24512 = true := by decide +kernel
theorem fl_r2_0 : fl_R 16384 16448 := fl_L 16384 fl_b256
theorem fl_r2_1 : fl_R 16384 16512 := fl_J fl_r2_0 (fl_L 16448 fl_b257)
theorem fl_r2_2 : fl_R 16384 16576 := fl_J fl_r2_1 (fl_L 16512 fl_b258)
theorem fl_r2_3 : fl_R 16384 16640 := fl_J fl_r2_2 (fl_L 16576 fl_b259)
theorem fl_r2_4 : fl_R 16384 16704 := fl_J fl_r2_3 (fl_L 16640 fl_b260)
theorem fl_r2_5 : fl_R 16384 16768 := fl_J fl_r2_4 (fl_L 16704 fl_b261)
theorem fl_r2_6 : fl_R 16384 16832 := fl_J fl_r2_5 (fl_L 16768 fl_b262)
theorem fl_r2_7 : fl_R 16384 16896 := fl_J fl_r2_6 (fl_L 16832 fl_b263)
theorem fl_r2_8 : fl_R 16384 16960 := fl_J fl_r2_7 (fl_L 16896 fl_b264)
theorem fl_r2_9 : fl_R 16384 17024 := fl_J fl_r2_8 (fl_L 16960 fl_b265)
theorem fl_r2_10 : fl_R 16384 17088 := fl_J fl_r2_9 (fl_L 17024 fl_b266)
theorem fl_r2_11 : fl_R 16384 17152 := fl_J fl_r2_10 (fl_L 17088 fl_b267)
theorem fl_r2_12 : fl_R 16384 17216 := fl_J fl_r2_11 (fl_L 17152 fl_b268)
theorem fl_r2_13 : fl_R 16384 17280 := fl_J fl_r2_12 (fl_L 17216 fl_b269)
theorem fl_r2_14 : fl_R 16384 17344 := fl_J fl_r2_13 (fl_L 17280 fl_b270)
theorem fl_r2_15 : fl_R 16384 17408 := fl_J fl_r2_14 (fl_L 17344 fl_b271)
theorem fl_r2_16 : fl_R 16384 17472 := fl_J fl_r2_15 (fl_L 17408 fl_b272)
theorem fl_r2_17 : fl_R 16384 17536 := fl_J fl_r2_16 (fl_L 17472 fl_b273)
theorem fl_r2_18 : fl_R 16384 17600 := fl_J fl_r2_17 (fl_L 17536 fl_b274)
theorem fl_r2_19 : fl_R 16384 17664 := fl_J fl_r2_18 (fl_L 17600 fl_b275)
theorem fl_r2_20 : fl_R 16384 17728 := fl_J fl_r2_19 (fl_L 17664 fl_b276)
theorem fl_r2_21 : fl_R 16384 17792 := fl_J fl_r2_20 (fl_L 17728 fl_b277)
theorem fl_r2_22 : fl_R 16384 17856 := fl_J fl_r2_21 (fl_L 17792 fl_b278)
theorem fl_r2_23 : fl_R 16384 17920 := fl_J fl_r2_22 (fl_L 17856 fl_b279)
theorem fl_r2_24 : fl_R 16384 17984 := fl_J fl_r2_23 (fl_L 17920 fl_b280)
theorem fl_r2_25 : fl_R 16384 18048 := fl_J fl_r2_24 (fl_L 17984 fl_b281)
theorem fl_r2_26 : fl_R 16384 18112 := fl_J fl_r2_25 (fl_L 18048 fl_b282)
theorem fl_r2_27 : fl_R 16384 18176 := fl_J fl_r2_26 (fl_L 18112 fl_b283)
theorem fl_r2_28 : fl_R 16384 18240 := fl_J fl_r2_27 (fl_L 18176 fl_b284)
theorem fl_r2_29 : fl_R 16384 18304 := fl_J fl_r2_28 (fl_L 18240 fl_b285)
theorem fl_r2_30 : fl_R 16384 18368 := fl_J fl_r2_29 (fl_L 18304 fl_b286)
theorem fl_r2_31 : fl_R 16384 18432 := fl_J fl_r2_30 (fl_L 18368 fl_b287)
theorem fl_r2_32 : fl_R 16384 18496 := fl_J fl_r2_31 (fl_L 18432 fl_b288)
theorem fl_r2_33 : fl_R 16384 18560 := fl_J fl_r2_32 (fl_L 18496 fl_b289)
theorem fl_r2_34 : fl_R 16384 18624 := fl_J fl_r2_33 (fl_L 18560 fl_b290)
theorem fl_r2_35 : fl_R 16384 18688 := fl_J fl_r2_34 (fl_L 18624 fl_b291)
theorem fl_r2_36 : fl_R 16384 18752 := fl_J fl_r2_35 (fl_L 18688 fl_b292)
theorem fl_r2_37 : fl_R 16384 18816 := fl_J fl_r2_36 (fl_L 18752 fl_b293)
theorem fl_r2_38 : fl_R 16384 18880 := fl_J fl_r2_37 (fl_L 18816 fl_b294)
theorem fl_r2_39 : fl_R 16384 18944 := fl_J fl_r2_38 (fl_L 18880 fl_b295)
theorem fl_r2_40 : fl_R 16384 19008 := fl_J fl_r2_39 (fl_L 18944 fl_b296)
theorem fl_r2_41 : fl_R 16384 19072 := fl_J fl_r2_40 (fl_L 19008 fl_b297)
theorem fl_r2_42 : fl_R 16384 19136 := fl_J fl_r2_41 (fl_L 19072 fl_b298)
theorem fl_r2_43 : fl_R 16384 19200 := fl_J fl_r2_42 (fl_L 19136 fl_b299)
theorem fl_r2_44 : fl_R 16384 19264 := fl_J fl_r2_43 (fl_L 19200 fl_b300)
theorem fl_r2_45 : fl_R 16384 19328 := fl_J fl_r2_44 (fl_L 19264 fl_b301)
theorem fl_r2_46 : fl_R 16384 19392 := fl_J fl_r2_45 (fl_L 19328 fl_b302)
theorem fl_r2_47 : fl_R 16384 19456 := fl_J fl_r2_46 (fl_L 19392 fl_b303)
theorem fl_r2_48 : fl_R 16384 19520 := fl_J fl_r2_47 (fl_L 19456 fl_b304)
theorem fl_r2_49 : fl_R 16384 19584 := fl_J fl_r2_48 (fl_L 19520 fl_b305)
theorem fl_r2_50 : fl_R 16384 19648 := fl_J fl_r2_49 (fl_L 19584 fl_b306)
theorem fl_r2_51 : fl_R 16384 19712 := fl_J fl_r2_50 (fl_L 19648 fl_b307)
theorem fl_r2_52 : fl_R 16384 19776 := fl_J fl_r2_51 (fl_L 19712 fl_b308)
theorem fl_r2_53 : fl_R 16384 19840 := fl_J fl_r2_52 (fl_L 19776 fl_b309)
theorem fl_r2_54 : fl_R 16384 19904 := fl_J fl_r2_53 (fl_L 19840 fl_b310)
theorem fl_r2_55 : fl_R 16384 19968 := fl_J fl_r2_54 (fl_L 19904 fl_b311)
theorem fl_r2_56 : fl_R 16384 20032 := fl_J fl_r2_55 (fl_L 19968 fl_b312)
theorem fl_r2_57 : fl_R 16384 20096 := fl_J fl_r2_56 (fl_L 20032 fl_b313)
theorem fl_r2_58 : fl_R 16384 20160 := fl_J fl_r2_57 (fl_L 20096 fl_b314)
theorem fl_r2_59 : fl_R 16384 20224 := fl_J fl_r2_58 (fl_L 20160 fl_b315)
theorem fl_r2_60 : fl_R 16384 20288 := fl_J fl_r2_59 (fl_L 20224 fl_b316)
theorem fl_r2_61 : fl_R 16384 20352 := fl_J fl_r2_60 (fl_L 20288 fl_b317)
theorem fl_r2_62 : fl_R 16384 20416 := fl_J fl_r2_61 (fl_L 20352 fl_b318)
theorem fl_r2_63 : fl_R 16384 20480 := fl_J fl_r2_62 (fl_L 20416 fl_b319)
theorem fl_r2_64 : fl_R 16384 20544 := fl_J fl_r2_63 (fl_L 20480 fl_b320)
theorem fl_r2_65 : fl_R 16384 20608 := fl_J fl_r2_64 (fl_L 20544 fl_b321)
theorem fl_r2_66 : fl_R 16384 20672 := fl_J fl_r2_65 (fl_L 20608 fl_b322)
theorem fl_r2_67 : fl_R 16384 20736 := fl_J fl_r2_66 (fl_L 20672 fl_b323)
theorem fl_r2_68 : fl_R 16384 20800 := fl_J fl_r2_67 (fl_L 20736 fl_b324)
theorem fl_r2_69 : fl_R 16384 20864 := fl_J fl_r2_68 (fl_L 20800 fl_b325)
theorem fl_r2_70 : fl_R 16384 20928 := fl_J fl_r2_69 (fl_L 20864 fl_b326)
theorem fl_r2_71 : fl_R 16384 20992 := fl_J fl_r2_70 (fl_L 20928 fl_b327)
theorem fl_r2_72 : fl_R 16384 21056 := fl_J fl_r2_71 (fl_L 20992 fl_b328)
theorem fl_r2_73 : fl_R 16384 21120 := fl_J fl_r2_72 (fl_L 21056 fl_b329)
theorem fl_r2_74 : fl_R 16384 21184 := fl_J fl_r2_73 (fl_L 21120 fl_b330)
theorem fl_r2_75 : fl_R 16384 21248 := fl_J fl_r2_74 (fl_L 21184 fl_b331)
theorem fl_r2_76 : fl_R 16384 21312 := fl_J fl_r2_75 (fl_L 21248 fl_b332)
theorem fl_r2_77 : fl_R 16384 21376 := fl_J fl_r2_76 (fl_L 21312 fl_b333)
theorem fl_r2_78 : fl_R 16384 21440 := fl_J fl_r2_77 (fl_L 21376 fl_b334)
theorem fl_r2_79 : fl_R 16384 21504 := fl_J fl_r2_78 (fl_L 21440 fl_b335)
theorem fl_r2_80 : fl_R 16384 21568 := fl_J fl_r2_79 (fl_L 21504 fl_b336)
theorem fl_r2_81 : fl_R 16384 21632 := fl_J fl_r2_80 (fl_L 21568 fl_b337)
theorem fl_r2_82 : fl_R 16384 21696 := fl_J fl_r2_81 (fl_L 21632 fl_b338)
theorem fl_r2_83 : fl_R 16384 21760 := fl_J fl_r2_82 (fl_L 21696 fl_b339)
theorem fl_r2_84 : fl_R 16384 21824 := fl_J fl_r2_83 (fl_L 21760 fl_b340)
theorem fl_r2_85 : fl_R 16384 21888 := fl_J fl_r2_84 (fl_L 21824 fl_b341)
theorem fl_r2_86 : fl_R 16384 21952 := fl_J fl_r2_85 (fl_L 21888 fl_b342)
theorem fl_r2_87 : fl_R 16384 22016 := fl_J fl_r2_86 (fl_L 21952 fl_b343)
theorem fl_r2_88 : fl_R 16384 22080 := fl_J fl_r2_87 (fl_L 22016 fl_b344)
theorem fl_r2_89 : fl_R 16384 22144 := fl_J fl_r2_88 (fl_L 22080 fl_b345)
theorem fl_r2_90 : fl_R 16384 22208 := fl_J fl_r2_89 (fl_L 22144 fl_b346)
theorem fl_r2_91 : fl_R 16384 22272 := fl_J fl_r2_90 (fl_L 22208 fl_b347)
theorem fl_r2_92 : fl_R 16384 22336 := fl_J fl_r2_91 (fl_L 22272 fl_b348)
theorem fl_r2_93 : fl_R 16384 22400 := fl_J fl_r2_92 (fl_L 22336 fl_b349)
theorem fl_r2_94 : fl_R 16384 22464 := fl_J fl_r2_93 (fl_L 22400 fl_b350)
theorem fl_r2_95 : fl_R 16384 22528 := fl_J fl_r2_94 (fl_L 22464 fl_b351)
theorem fl_r2_96 : fl_R 16384 22592 := fl_J fl_r2_95 (fl_L 22528 fl_b352)
theorem fl_r2_97 : fl_R 16384 22656 := fl_J fl_r2_96 (fl_L 22592 fl_b353)
theorem fl_r2_98 : fl_R 16384 22720 := fl_J fl_r2_97 (fl_L 22656 fl_b354)
theorem fl_r2_99 : fl_R 16384 22784 := fl_J fl_r2_98 (fl_L 22720 fl_b355)
theorem fl_r2_100 : fl_R 16384 22848 := fl_J fl_r2_99 (fl_L 22784 fl_b356)
theorem fl_r2_101 : fl_R 16384 22912 := fl_J fl_r2_100 (fl_L 22848 fl_b357)
theorem fl_r2_102 : fl_R 16384 22976 := fl_J fl_r2_101 (fl_L 22912 fl_b358)
theorem fl_r2_103 : fl_R 16384 23040 := fl_J fl_r2_102 (fl_L 22976 fl_b359)
theorem fl_r2_104 : fl_R 16384 23104 := fl_J fl_r2_103 (fl_L 23040 fl_b360)
theorem fl_r2_105 : fl_R 16384 23168 := fl_J fl_r2_104 (fl_L 23104 fl_b361)
theorem fl_r2_106 : fl_R 16384 23232 := fl_J fl_r2_105 (fl_L 23168 fl_b362)
theorem fl_r2_107 : fl_R 16384 23296 := fl_J fl_r2_106 (fl_L 23232 fl_b363)
theorem fl_r2_108 : fl_R 16384 23360 := fl_J fl_r2_107 (fl_L 23296 fl_b364)
theorem fl_r2_109 : fl_R 16384 23424 := fl_J fl_r2_108 (fl_L 23360 fl_b365)
theorem fl_r2_110 : fl_R 16384 23488 := fl_J fl_r2_109 (fl_L 23424 fl_b366)
theorem fl_r2_111 : fl_R 16384 23552 := fl_J fl_r2_110 (fl_L 23488 fl_b367)
theorem fl_r2_112 : fl_R 16384 23616 := fl_J fl_r2_111 (fl_L 23552 fl_b368)
theorem fl_r2_113 : fl_R 16384 23680 := fl_J fl_r2_112 (fl_L 23616 fl_b369)
theorem fl_r2_114 : fl_R 16384 23744 := fl_J fl_r2_113 (fl_L 23680 fl_b370)
theorem fl_r2_115 : fl_R 16384 23808 := fl_J fl_r2_114 (fl_L 23744 fl_b371)
theorem fl_r2_116 : fl_R 16384 23872 := fl_J fl_r2_115 (fl_L 23808 fl_b372)
theorem fl_r2_117 : fl_R 16384 23936 := fl_J fl_r2_116 (fl_L 23872 fl_b373)
theorem fl_r2_118 : fl_R 16384 24000 := fl_J fl_r2_117 (fl_L 23936 fl_b374)
theorem fl_r2_119 : fl_R 16384 24064 := fl_J fl_r2_118 (fl_L 24000 fl_b375)
theorem fl_r2_120 : fl_R 16384 24128 := fl_J fl_r2_119 (fl_L 24064 fl_b376)
theorem fl_r2_121 : fl_R 16384 24192 := fl_J fl_r2_120 (fl_L 24128 fl_b377)
theorem fl_r2_122 : fl_R 16384 24256 := fl_J fl_r2_121 (fl_L 24192 fl_b378)
theorem fl_r2_123 : fl_R 16384 24320 := fl_J fl_r2_122 (fl_L 24256 fl_b379)
theorem fl_r2_124 : fl_R 16384 24384 := fl_J fl_r2_123 (fl_L 24320 fl_b380)
theorem fl_r2_125 : fl_R 16384 24448 := fl_J fl_r2_124 (fl_L 24384 fl_b381)
theorem fl_r2_126 : fl_R 16384 24512 := fl_J fl_r2_125 (fl_L 24448 fl_b382)
theorem fl_r2_127 : fl_R 16384 24576 := fl_J fl_r2_126 (fl_L 24512 fl_b383)
theorem fl_R2 : fl_R 16384 24576 := fl_r2_127

theorem ckb_0_1373 : pz_chb 12 code (some .boolean) false 4 bz_0_1373 = true := by decide +kernel
theorem ckb_0_1387 : pz_chb 12 code (some .boolean) false 4 bz_0_1387 = true := by decide +kernel
theorem ckb_0_1390 : pz_chb 12 code (some .boolean) false 4 bz_0_1390 = true := by decide +kernel
theorem ckb_0_1392 : pz_chb 12 code (some .boolean) false 4 bz_0_1392 = true := by decide +kernel
theorem ckb_0_1401 : pz_chb 12 code (some .boolean) false 4 bz_0_1401 = true := by decide +kernel
theorem ckb_0_1410 : pz_chb 12 code (some .boolean) false 4 bz_0_1410 = true := by decide +kernel
theorem ckb_0_1413 : pz_chb 12 code (some .boolean) false 4 bz_0_1413 = true := by decide +kernel
theorem ckb_0_1415 : pz_chb 12 code (some .boolean) false 4 bz_0_1415 = true := by decide +kernel
theorem ckb_0_1424 : pz_chb 12 code (some .boolean) false 4 bz_0_1424 = true := by decide +kernel
theorem ckb_0_1433 : pz_chb 12 code (some .boolean) false 4 bz_0_1433 = true := by decide +kernel
theorem ckb_0_1436 : pz_chb 12 code (some .boolean) false 4 bz_0_1436 = true := by decide +kernel
theorem ckb_0_1438 : pz_chb 12 code (some .boolean) false 4 bz_0_1438 = true := by decide +kernel
theorem ckb_0_1447 : pz_chb 12 code (some .boolean) false 4 bz_0_1447 = true := by decide +kernel
theorem ckb_0_1456 : pz_chb 12 code (some .boolean) false 4 bz_0_1456 = true := by decide +kernel
theorem ckb_0_1459 : pz_chb 12 code (some .boolean) false 4 bz_0_1459 = true := by decide +kernel
theorem ckb_0_1461 : pz_chb 12 code (some .boolean) false 4 bz_0_1461 = true := by decide +kernel
theorem ckb_0_1470 : pz_chb 12 code (some .boolean) false 4 bz_0_1470 = true := by decide +kernel
theorem ckb_0_1479 : pz_chb 12 code (some .boolean) false 4 bz_0_1479 = true := by decide +kernel
theorem ckb_0_1482 : pz_chb 12 code (some .boolean) false 4 bz_0_1482 = true := by decide +kernel
theorem ckb_0_1484 : pz_chb 12 code (some .boolean) false 4 bz_0_1484 = true := by decide +kernel
theorem ckb_0_1490 : pz_chb 12 code (some .boolean) false 4 bz_0_1490 = true := by decide +kernel
theorem ck_0 : pz_chm mz_0 = true := pz_al ckb_0_0 (pz_al ckb_0_7 (pz_al ckb_0_15 (pz_al ckb_0_18 (pz_al ckb_0_27 (pz_al ckb_0_212 (pz_al ckb_0_241 (pz_al ckb_0_270 (pz_al ckb_0_273 (pz_al ckb_0_275 (pz_al ckb_0_284 (pz_al ckb_0_293 (pz_al ckb_0_296 (pz_al ckb_0_298 (pz_al ckb_0_302 (pz_al ckb_0_306 (pz_al ckb_0_309 (pz_al ckb_0_311 (pz_al ckb_0_320 (pz_al ckb_0_329 (pz_al ckb_0_332 (pz_al ckb_0_334 (pz_al ckb_0_348 (pz_al ckb_0_362 (pz_al ckb_0_365 (pz_al ckb_0_367 (pz_al ckb_0_381 (pz_al ckb_0_395 (pz_al ckb_0_398 (pz_al ckb_0_400 (pz_al ckb_0_419 (pz_al ckb_0_423 (pz_al ckb_0_424 (pz_al ckb_0_427 (pz_al ckb_0_446 (pz_al ckb_0_450 (pz_al ckb_0_451 (pz_al ckb_0_454 (pz_al ckb_0_457 (pz_al ckb_0_459 (pz_al ckb_0_473 (pz_al ckb_0_487 (pz_al ckb_0_490 (pz_al ckb_0_492 (pz_al ckb_0_501 (pz_al ckb_0_510 (pz_al ckb_0_513 (pz_al ckb_0_515 (pz_al ckb_0_519 (pz_al ckb_0_523 (pz_al ckb_0_526 (pz_al ckb_0_528 (pz_al ckb_0_542 (pz_al ckb_0_556 (pz_al ckb_0_559 (pz_al ckb_0_561 (pz_al ckb_0_570 (pz_al ckb_0_579 (pz_al ckb_0_582 (pz_al ckb_0_584 (pz_al ckb_0_598 (pz_al ckb_0_612 (pz_al ckb_0_615 (pz_al ckb_0_617 (pz_al ckb_0_631 (pz_al ckb_0_645 (pz_al ckb_0_648 (pz_al ckb_0_650 (pz_al ckb_0_659 (pz_al ckb_0_668 (pz_al ckb_0_671 (pz_al ckb_0_673 (pz_al ckb_0_682 (pz_al ckb_0_691 (pz_al ckb_0_694 (pz_al ckb_0_696 (pz_al ckb_0_720 (pz_al ckb_0_744 (pz_al ckb_0_747 (pz_al ckb_0_749 (pz_al ckb_0_778 (pz_al ckb_0_807 (pz_al ckb_0_810 (pz_al ckb_0_812 (pz_al ckb_0_826 (pz_al ckb_0_840 (pz_al ckb_0_843 (pz_al ckb_0_845 (pz_al ckb_0_854 (pz_al ckb_0_863 (pz_al ckb_0_866 (pz_al ckb_0_868 (pz_al ckb_0_872 (pz_al ckb_0_876 (pz_al ckb_0_879 (pz_al ckb_0_881 (pz_al ckb_0_890 (pz_al ckb_0_899 (pz_al ckb_0_902 (pz_al ckb_0_904 (pz_al ckb_0_913 (pz_al ckb_0_922 (pz_al ckb_0_925 (pz_al ckb_0_927 (pz_al ckb_0_931 (pz_al ckb_0_935 (pz_al ckb_0_938 (pz_al ckb_0_940 (pz_al ckb_0_949 (pz_al ckb_0_958 (pz_al ckb_0_961 (pz_al ckb_0_963 (pz_al ckb_0_982 (pz_al ckb_0_1001 (pz_al ckb_0_1004 (pz_al ckb_0_1006 (pz_al ckb_0_1025 (pz_al ckb_0_1029 (pz_al ckb_0_1030 (pz_al ckb_0_1033 (pz_al ckb_0_1052 (pz_al ckb_0_1056 (pz_al ckb_0_1057 (pz_al ckb_0_1060 (pz_al ckb_0_1063 (pz_al ckb_0_1065 (pz_al ckb_0_1074 (pz_al ckb_0_1078 (pz_al ckb_0_1079 (pz_al ckb_0_1087 (pz_al ckb_0_1096 (pz_al ckb_0_1100 (pz_al ckb_0_1101 (pz_al ckb_0_1109 (pz_al ckb_0_1112 (pz_al ckb_0_1114 (pz_al ckb_0_1123 (pz_al ckb_0_1132 (pz_al ckb_0_1135 (pz_al ckb_0_1137 (pz_al ckb_0_1151 (pz_al ckb_0_1165 (pz_al ckb_0_1168 (pz_al ckb_0_1170 (pz_al ckb_0_1184 (pz_al ckb_0_1198 (pz_al ckb_0_1201 (pz_al ckb_0_1203 (pz_al ckb_0_1217 (pz_al ckb_0_1231 (pz_al ckb_0_1235 (pz_al ckb_0_1237 (pz_al ckb_0_1251 (pz_al ckb_0_1265 (pz_al ckb_0_1268 (pz_al ckb_0_1270 (pz_al ckb_0_1284 (pz_al ckb_0_1298 (pz_al ckb_0_1301 (pz_al ckb_0_1303 (pz_al ckb_0_1312 (pz_al ckb_0_1321 (pz_al ckb_0_1324 (pz_al ckb_0_1326 (pz_al ckb_0_1340 (pz_al ckb_0_1354 (pz_al ckb_0_1357 (pz_al ckb_0_1359 (pz_al ckb_0_1373 (pz_al ckb_0_1387 (pz_al ckb_0_1390 (pz_al ckb_0_1392 (pz_al ckb_0_1401 (pz_al ckb_0_1410 (pz_al ckb_0_1413 (pz_al ckb_0_1415 (pz_al ckb_0_1424 (pz_al ckb_0_1433 (pz_al ckb_0_1436 (pz_al ckb_0_1438 (pz_al ckb_0_1447 (pz_al ckb_0_1456 (pz_al ckb_0_1459 (pz_al ckb_0_1461 (pz_al ckb_0_1470 (pz_al ckb_0_1479 (pz_al ckb_0_1482 (pz_al ckb_0_1484 (pz_al ckb_0_1490 (rfl)))))))))))))))))))))))))))))))))))))))))))))))))))))))))))))))))))))))))))))))))))))))))))))))))))))))))))))))))))))))))))))))))))))))))))))))))))))))))))))))))))))))))))))))))))))))))))))
theorem ck_1 : pz_chm mz_1 = true := by decide +kernel
theorem ckb_2_0 : pz_chb 11 prog_13_method_1_code none true 2 bz_2_0 = true := by decide +kernel
theorem ckb_2_512 : pz_chb 11 prog_13_method_1_code none true 2 bz_2_512 = true := by decide +kernel
theorem ckb_2_514 : pz_chb 11 prog_13_method_1_code none true 2 bz_2_514 = true := by decide +kernel
theorem ckb_2_519 : pz_chb 11 prog_13_method_1_code none true 2 bz_2_519 = true := by decide +kernel
theorem ckb_2_532 : pz_chb 11 prog_13_method_1_code none true 2 bz_2_532 = true := by decide +kernel
theorem ckb_2_541 : pz_chb 11 prog_13_method_1_code none true 2 bz_2_541 = true := by decide +kernel
theorem ck_2 : pz_chm mz_2 = true := pz_al ckb_2_0 (pz_al ckb_2_512 (pz_al ckb_2_514 (pz_al ckb_2_519 (pz_al ckb_2_532 (pz_al ckb_2_541 (rfl))))))
theorem ck_3 : pz_chm mz_3 = true := by decide +kernel
theorem ck_4 : pz_chm mz_4 = true := by decide +kernel
theorem ck_5 : pz_chm mz_5 = true := by decide +kernel
theorem ck_6 : pz_chm mz_6 = true := by decide +kernel
theorem ck_7 : pz_chm mz_7 = true := by decide +kernel
theorem ck_8 : pz_chm mz_8 = true := by decide +kernel
theorem ck_9 : pz_chm mz_9 = true := by decide +kernel
theorem ck_10 : pz_chm mz_10 = true := by decide +kernel
theorem ck_11 : pz_chm mz_11 = true := by decide +kernel
theorem ck_12 : pz_chm mz_12 = true := by decide +kernel
theorem ck_13 : pz_chm mz_13 = true := by decide +kernel
theorem ck_14 : pz_chm mz_14 = true := by decide +kernel
theorem ck_15 : pz_chm mz_15 = true := by decide +kernel
theorem ck_16 : pz_chm mz_16 = true := by decide +kernel
theorem ck_17 : pz_chm mz_17 = true := by decide +kernel
theorem ck_18 : pz_chm mz_18 = true := by decide +kernel
theorem ck_19 : pz_chm mz_19 = true := by decide +kernel
theorem ck_20 : pz_chm mz_20 = true := by decide +kernel
theorem ck_21 : pz_chm mz_21 = true := by decide +kernel
theorem ck_22 : pz_chm mz_22 = true := by decide +kernel
theorem ck_23 : pz_chm mz_23 = true := by decide +kernel
theorem ck_24 : pz_chm mz_24 = true := by decide +kernel
theorem ck_25 : pz_chm mz_25 = true := by decide +kernel
theorem ck_26 : pz_chm mz_26 = true := by decide +kernel
theorem ck_27 : pz_chm mz_27 = true := by decide +kernel
theorem ck_28 : pz_chm mz_28 = true := by decide +kernel
theorem ck_29 : pz_chm mz_29 = true := by decide +kernel
theorem ck_30 : pz_chm mz_30 = true := by decide +kernel
theorem ck_31 : pz_chm mz_31 = true := by decide +kernel
theorem ck_32 : pz_chm mz_32 = true := by decide +kernel
theorem ck_33 : pz_chm mz_33 = true := by decide +kernel
theorem ck_34 : pz_chm mz_34 = true := by decide +kernel
theorem ck_35 : pz_chm mz_35 = true := by decide +kernel
theorem ck_36 : pz_chm mz_36 = true := by decide +kernel
theorem ck_37 : pz_chm mz_37 = true := by decide +kernel
theorem ck_38 : pz_chm mz_38 = true := by decide +kernel
theorem ck_39 : pz_chm mz_39 = true := by decide +kernel
theorem ck_40 : pz_chm mz_40 = true := by decide +kernel
theorem ck_41 : pz_chm mz_41 = true := by decide +kernel
theorem ck_42 : pz_chm mz_42 = true := by decide +kernel
theorem ck_43 : pz_chm mz_43 = true := by decide +kernel
theorem ck_44 : pz_chm mz_44 = true := by decide +kernel
theorem ck_45 : pz_chm mz_45 = true := by decide +kernel
theorem ck_46 : pz_chm mz_46 = true := by decide +kernel
theorem ck_47 : pz_chm mz_47 = true := by decide +kernel
theorem ck_48 : pz_chm mz_48 = true := by decide +kernel
theorem ck_49 : pz_chm mz_49 = true := by decide +kernel
theorem ck_50 : pz_chm mz_50 = true := by decide +kernel
theorem ck_51 : pz_chm mz_51 = true := by decide +kernel
theorem ck_52 : pz_chm mz_52 = true := by decide +kernel
theorem ck_53 : pz_chm mz_53 = true := by decide +kernel
theorem ck_54 : pz_chm mz_54 = true := by decide +kernel
theorem ck_55 : pz_chm mz_55 = true := by decide +kernel
theorem ck_56 : pz_chm mz_56 = true := by decide +kernel
theorem ck_57 : pz_chm mz_57 = true := by decide +kernel
theorem ck_58 : pz_chm mz_58 = true := by decide +kernel
theorem ck_59 : pz_chm mz_59 = true := by decide +kernel
theorem ck_60 : pz_chm mz_60 = true := by decide +kernel
theorem ck_61 : pz_chm mz_61 = true := by decide +kernel
theorem ck_62 : pz_chm mz_62 = true := by decide +kernel
theorem ck_63 : pz_chm mz_63 = true := by decide +kernel
theorem ck_64 : pz_chm mz_64 = true := by decide +kernel
theorem ck_65 : pz_chm mz_65 = true := by decide +kernel
theorem ck_66 : pz_chm mz_66 = true := by decide +kernel
theorem ck_67 : pz_chm mz_67 = true := by decide +kernel
theorem ck_68 : pz_chm mz_68 = true := by decide +kernel
theorem ck_69 : pz_chm mz_69 = true := by decide +kernel
theorem ck_70 : pz_chm mz_70 = true := by decide +kernel

theorem mf_Store_letGo : MFV yX8_letGo cX8_letGo 4 none 1 := ⟨tb_mem 988 (by decide +kernel) (by decide +kernel), tb_mem 986 (by decide +kernel) (by decide +kernel), tb_mem 987 (by decide +kernel) (by decide +kernel), tb_mem 3 (by decide +kernel) (by decide +kernel), ⟨by decide, by decide⟩, by decide +kernel⟩
theorem ml_X6_90 : Cond.methodLink RX6 90 yJx4a65c_remove_915e3 ∈ TBG := tb_mem 993 (by decide +kernel) (by decide +kernel)
theorem mf_Al_remove : MFV yJx4a65c_remove_915e3 cJx4a65c_remove_915e3 4 (some (.object "java/lang/Object")) 1 := ⟨tb_mem 996 (by decide +kernel) (by decide +kernel), tb_mem 994 (by decide +kernel) (by decide +kernel), tb_mem 995 (by decide +kernel) (by decide +kernel), tb_mem 6 (by decide +kernel) (by decide +kernel), ⟨by decide, by decide⟩, by decide +kernel⟩
theorem ml_X6_119 : Cond.methodLink RX6 119 yX6_latest ∈ TBG := tb_mem 1331 (by decide +kernel) (by decide +kernel)
theorem ml_X6_123 : Cond.methodLink RX6 123 yX10_isLocked ∈ TBG := tb_mem 1332 (by decide +kernel) (by decide +kernel)
theorem mf_Version_isLocked : MFV yX10_isLocked cX10_isLocked 2 (some .boolean) 1 := ⟨tb_mem 980 (by decide +kernel) (by decide +kernel), tb_mem 978 (by decide +kernel) (by decide +kernel), tb_mem 979 (by decide +kernel) (by decide +kernel), tb_mem 21 (by decide +kernel) (by decide +kernel), ⟨by decide, by decide⟩, by decide +kernel⟩
theorem ml_X6_127 : Cond.methodLink RX6 127 yX6_takeOut ∈ TBG := tb_mem 1333 (by decide +kernel) (by decide +kernel)
theorem mf_Region_takeOut : MFV yX6_takeOut cX6_takeOut 3 none 1 := ⟨tb_mem 984 (by decide +kernel) (by decide +kernel), tb_mem 982 (by decide +kernel) (by decide +kernel), tb_mem 983 (by decide +kernel) (by decide +kernel), tb_mem 2 (by decide +kernel) (by decide +kernel), ⟨by decide, by decide⟩, by decide +kernel⟩
theorem ml_X6_106 : Cond.methodLink RX6 106 yX3_isMark ∈ TBG := tb_mem 1329 (by decide +kernel) (by decide +kernel)
theorem fl_X6_110 : FLK RX6 110 10 2 := ⟨_, tyX10, "BlobHarbor$Version", rfl, by decide, by decide, by decide, rfl, inK_10, tyX10_ok, nmX10, fun _ _ _ x h => h, Or.inr ⟨"BlobHarbor", ns_mem 691 (by decide +kernel) (by decide +kernel)⟩⟩
theorem fp_X6_10_2 : FPT RX6 10 2 .int false := ⟨_, rfl, by decide +kernel, rfl, fun h => by cases h⟩
theorem ml_X6_113 : Cond.methodLink RX6 113 Lib.Math.max.name ∈ TBG := tb_mem 1330 (by decide +kernel) (by decide +kernel)
theorem ml_X6_93 : Cond.methodLink RX6 93 yX7_isFor ∈ TBG := tb_mem 1320 (by decide +kernel) (by decide +kernel)
theorem mf_Rule_isFor : MFV yX7_isFor cX7_isFor 3 (some .boolean) 2 := ⟨tb_mem 1323 (by decide +kernel) (by decide +kernel), tb_mem 1321 (by decide +kernel) (by decide +kernel), tb_mem 1322 (by decide +kernel) (by decide +kernel), tb_mem 35 (by decide +kernel) (by decide +kernel), ⟨by decide, by decide⟩, by decide +kernel⟩
theorem fl_X6_99 : FLK RX6 99 7 2 := ⟨_, tyX7, "BlobHarbor$Rule", rfl, by decide, by decide, by decide, rfl, inK_7, tyX7_ok, nmX7, fun _ _ _ x h => h, Or.inr ⟨"BlobHarbor", ns_mem 1293 (by decide +kernel) (by decide +kernel)⟩⟩
theorem ml_X6_102 : Cond.methodLink RX6 102 yX6_ageOne ∈ TBG := tb_mem 1325 (by decide +kernel) (by decide +kernel)
theorem mf_Region_ageOne : MFV yX6_ageOne cX6_ageOne 6 none 3 := ⟨tb_mem 1328 (by decide +kernel) (by decide +kernel), tb_mem 1327 (by decide +kernel) (by decide +kernel), tb_sel (k := 4) 25 (by decide +kernel), tb_mem 2 (by decide +kernel) (by decide +kernel), ⟨by decide, by decide⟩, by decide +kernel⟩
theorem ml_X11_136 : Cond.methodLink RX11 136 yJx4a65c_size_8abf5 ∈ TBG := tb_mem 1088 (by decide +kernel) (by decide +kernel)
theorem ml_X11_315 : Cond.methodLink RX11 315 yJx4a65c_get_915e3 ∈ TBG := tb_mem 1124 (by decide +kernel) (by decide +kernel)
theorem ml_X11_352 : Cond.methodLink RX11 352 yX6_age ∈ TBG := tb_mem 1316 (by decide +kernel) (by decide +kernel)
theorem mf_Region_age : MFV yX6_age cX6_age 5 none 2 := ⟨tb_mem 1319 (by decide +kernel) (by decide +kernel), tb_mem 1317 (by decide +kernel) (by decide +kernel), tb_mem 1318 (by decide +kernel) (by decide +kernel), tb_mem 2 (by decide +kernel) (by decide +kernel), ⟨by decide, by decide⟩, by decide +kernel⟩
theorem cw_X11_258 : Cond.classLink RX11 258 "BlobHarbor$Rule" ∈ TBG := tb_mem 1284 (by decide +kernel) (by decide +kernel)
theorem fl_X11_273 : FLK RX11 273 6 2 := ⟨_, tyX6, "BlobHarbor$Region", rfl, by decide, by decide, by decide, rfl, inK_6, tyX6_ok, nmX6, fun _ _ _ x h => h, Or.inr ⟨"BlobHarbor", ns_mem 143 (by decide +kernel) (by decide +kernel)⟩⟩
theorem ml_X10_33 : Cond.methodLink RX10 33 yX10_isAskedFor ∈ TBG := tb_mem 1031 (by decide +kernel) (by decide +kernel)
theorem fl_X11_215 : FLK RX11 215 6 0 := ⟨_, tyX6, "BlobHarbor$Region", rfl, by decide, by decide, by decide, rfl, inK_6, tyX6_ok, nmX6, fun _ _ _ x h => h, Or.inr ⟨"BlobHarbor", ns_mem 140 (by decide +kernel) (by decide +kernel)⟩⟩
theorem ml_X11_325 : Cond.methodLink RX11 325 yX8_byteAt ∈ TBG := tb_mem 1039 (by decide +kernel) (by decide +kernel)
theorem mf_Store_byteAt : MFV yX8_byteAt cX8_byteAt 6 (some .int) 2 := ⟨tb_mem 1042 (by decide +kernel) (by decide +kernel), tb_mem 1040 (by decide +kernel) (by decide +kernel), tb_mem 1041 (by decide +kernel) (by decide +kernel), tb_mem 3 (by decide +kernel) (by decide +kernel), ⟨by decide, by decide⟩, by decide +kernel⟩
theorem ml_X11_322 : Cond.methodLink RX11 322 yX10_isOpen ∈ TBG := tb_mem 1027 (by decide +kernel) (by decide +kernel)
theorem mf_Version_isOpen : MFV yX10_isOpen cX10_isOpen 2 (some .boolean) 1 := ⟨tb_mem 1030 (by decide +kernel) (by decide +kernel), tb_mem 1028 (by decide +kernel) (by decide +kernel), tb_mem 1029 (by decide +kernel) (by decide +kernel), tb_mem 21 (by decide +kernel) (by decide +kernel), ⟨by decide, by decide⟩, by decide +kernel⟩
theorem ml_X11_185 : Cond.methodLink RX11 185 yX4_isKey ∈ TBG := tb_mem 395 (by decide +kernel) (by decide +kernel)
theorem mf_Keys_isKey : MFS yX4_isKey cX4_isKey 1 (some .boolean) 1 := ⟨tb_mem 397 (by decide +kernel) (by decide +kernel), tb_mem 396 (by decide +kernel) (by decide +kernel), tb_mem 17 (by decide +kernel) (by decide +kernel), ⟨by decide, by decide⟩, by decide +kernel⟩
theorem fp_X0_1_1 : FPT RX0 1 1 .int false := ⟨_, rfl, by decide +kernel, rfl, fun h => by cases h⟩
theorem ml_X11_62 : Cond.methodLink RX11 62 yX0_makeEmpty ∈ TBG := tb_mem 210 (by decide +kernel) (by decide +kernel)
theorem mf_Bytes_makeEmpty : MFV yX0_makeEmpty cX0_makeEmpty 1 none 0 := ⟨tb_mem 213 (by decide +kernel) (by decide +kernel), tb_mem 211 (by decide +kernel) (by decide +kernel), tb_mem 212 (by decide +kernel) (by decide +kernel), tb_mem 9 (by decide +kernel) (by decide +kernel), ⟨by decide, by decide⟩, by decide +kernel⟩
theorem ml_X8_58 : Cond.methodLink RX8 58 yX8_isUp ∈ TBG := tb_mem 413 (by decide +kernel) (by decide +kernel)
theorem mf_Store_isUp : MFV yX8_isUp cX8_isUp 2 (some .boolean) 1 := ⟨tb_mem 416 (by decide +kernel) (by decide +kernel), tb_mem 414 (by decide +kernel) (by decide +kernel), tb_mem 415 (by decide +kernel) (by decide +kernel), tb_mem 3 (by decide +kernel) (by decide +kernel), ⟨by decide, by decide⟩, by decide +kernel⟩
theorem ml_X2_33 : Cond.methodLink RX2 33 yX0_at ∈ TBG := tb_mem 428 (by decide +kernel) (by decide +kernel)
theorem fl_X2_18 : FLK RX2 18 3 2 := ⟨_, tyX2, "BlobHarbor$Cut", rfl, by decide, by decide, by decide, rfl, inK_3, tyX2_ok, nmX2, fun _ _ _ x h => h, Or.inl (tb_mem 91 (by decide +kernel) (by decide +kernel))⟩
theorem fp_X2_3_2 : FPT RX2 3 2 .int false := ⟨_, rfl, by decide +kernel, rfl, fun h => by cases h⟩
theorem fl_X2_22 : FLK RX2 22 1 1 := ⟨_, tyX0, "BlobHarbor$Bytes", rfl, by decide, by decide, by decide, rfl, inK_1, tyX0_ok, nmX0, fun _ _ _ x h => h, Or.inr ⟨"BlobHarbor", ns_mem 162 (by decide +kernel) (by decide +kernel)⟩⟩
theorem ml_X2_29 : Cond.methodLink RX2 29 yX2_addPart ∈ TBG := tb_mem 429 (by decide +kernel) (by decide +kernel)
theorem mf_Cut_addPart : MFV yX2_addPart cX2_addPart 3 none 2 := ⟨tb_mem 432 (by decide +kernel) (by decide +kernel), tb_mem 431 (by decide +kernel) (by decide +kernel), tb_sel (k := 3) 3 (by decide +kernel), tb_mem 7 (by decide +kernel) (by decide +kernel), ⟨by decide, by decide⟩, by decide +kernel⟩
theorem ml_X2_25 : Cond.methodLink RX2 25 yX2_endsPart ∈ TBG := tb_mem 425 (by decide +kernel) (by decide +kernel)
theorem mf_Cut_endsPart : MFS yX2_endsPart cX2_endsPart 4 (some .boolean) 3 := ⟨tb_mem 427 (by decide +kernel) (by decide +kernel), tb_mem 426 (by decide +kernel) (by decide +kernel), tb_mem 7 (by decide +kernel) (by decide +kernel), ⟨by decide, by decide⟩, by decide +kernel⟩
theorem fl_X5_30 : FLK RX5 30 5 1 := ⟨_, tyX5, "BlobHarbor$Part", rfl, by decide, by decide, by decide, rfl, inK_5, tyX5_ok, nmX5, fun _ _ _ x h => h, Or.inl (tb_mem 523 (by decide +kernel) (by decide +kernel))⟩
theorem fl_X5_9 : FLK RX5 9 5 2 := ⟨_, tyX5, "BlobHarbor$Part", rfl, by decide, by decide, by decide, rfl, inK_5, tyX5_ok, nmX5, fun _ _ _ x h => h, Or.inl (tb_mem 526 (by decide +kernel) (by decide +kernel))⟩
theorem ml_X5_33 : Cond.methodLink RX5 33 yX0_at ∈ TBG := tb_mem 452 (by decide +kernel) (by decide +kernel)
theorem ml_X8_92 : Cond.methodLink RX8 92 yX5_isSame ∈ TBG := tb_mem 448 (by decide +kernel) (by decide +kernel)
theorem mf_Part_isSame : MFV yX5_isSame cX5_isSame 5 (some .boolean) 3 := ⟨tb_mem 451 (by decide +kernel) (by decide +kernel), tb_mem 449 (by decide +kernel) (by decide +kernel), tb_mem 450 (by decide +kernel) (by decide +kernel), tb_mem 23 (by decide +kernel) (by decide +kernel), ⟨by decide, by decide⟩, by decide +kernel⟩
theorem ml_X8_72 : Cond.methodLink RX8 72 yX2_endOf ∈ TBG := tb_mem 438 (by decide +kernel) (by decide +kernel)
theorem mf_Cut_endOf : MFV yX2_endOf cX2_endOf 2 (some .int) 1 := ⟨tb_mem 441 (by decide +kernel) (by decide +kernel), tb_mem 439 (by decide +kernel) (by decide +kernel), tb_mem 440 (by decide +kernel) (by decide +kernel), tb_mem 7 (by decide +kernel) (by decide +kernel), ⟨by decide, by decide⟩, by decide +kernel⟩
theorem ml_X8_69 : Cond.methodLink RX8 69 yX2_startOf ∈ TBG := tb_mem 434 (by decide +kernel) (by decide +kernel)
theorem mf_Cut_startOf : MFV yX2_startOf cX2_startOf 2 (some .int) 1 := ⟨tb_mem 437 (by decide +kernel) (by decide +kernel), tb_mem 435 (by decide +kernel) (by decide +kernel), tb_mem 436 (by decide +kernel) (by decide +kernel), tb_mem 7 (by decide +kernel) (by decide +kernel), ⟨by decide, by decide⟩, by decide +kernel⟩
theorem ml_X8_83 : Cond.methodLink RX8 83 yX8_areSame ∈ TBG := tb_mem 457 (by decide +kernel) (by decide +kernel)
theorem mf_Store_areSame : MFV yX8_areSame cX8_areSame 6 (some .boolean) 3 := ⟨tb_mem 460 (by decide +kernel) (by decide +kernel), tb_mem 459 (by decide +kernel) (by decide +kernel), tb_sel (k := 5) 6 (by decide +kernel), tb_mem 3 (by decide +kernel) (by decide +kernel), ⟨by decide, by decide⟩, by decide +kernel⟩
theorem ml_X8_62 : Cond.methodLink RX8 62 yX2_cut ∈ TBG := tb_mem 421 (by decide +kernel) (by decide +kernel)
theorem mf_Cut_cut : MFV yX2_cut cX2_cut 4 none 1 := ⟨tb_mem 424 (by decide +kernel) (by decide +kernel), tb_mem 422 (by decide +kernel) (by decide +kernel), tb_mem 423 (by decide +kernel) (by decide +kernel), tb_mem 7 (by decide +kernel) (by decide +kernel), ⟨by decide, by decide⟩, by decide +kernel⟩
theorem fl_X8_65 : FLK RX8 65 3 2 := ⟨_, tyX2, "BlobHarbor$Cut", rfl, by decide, by decide, by decide, rfl, inK_3, tyX2_ok, nmX2, fun _ _ _ x h => h, Or.inr ⟨"BlobHarbor", ns_mem 92 (by decide +kernel) (by decide +kernel)⟩⟩
theorem ml_X8_75 : Cond.methodLink RX8 75 yX8_find ∈ TBG := tb_mem 442 (by decide +kernel) (by decide +kernel)
theorem mf_Store_find : MFV yX8_find cX8_find 6 (some (.object "BlobHarbor$Part")) 3 := ⟨tb_mem 445 (by decide +kernel) (by decide +kernel), tb_mem 444 (by decide +kernel) (by decide +kernel), tb_sel (k := 5) 4 (by decide +kernel), tb_mem 3 (by decide +kernel) (by decide +kernel), ⟨by decide, by decide⟩, by decide +kernel⟩
theorem ml_X8_79 : Cond.methodLink RX8 79 yX8_isFirstInCut ∈ TBG := tb_mem 453 (by decide +kernel) (by decide +kernel)
theorem mf_Store_isFirstInCut : MFV yX8_isFirstInCut cX8_isFirstInCut 4 (some .boolean) 2 := ⟨tb_mem 456 (by decide +kernel) (by decide +kernel), tb_mem 455 (by decide +kernel) (by decide +kernel), tb_sel (k := 5) 5 (by decide +kernel), tb_mem 3 (by decide +kernel) (by decide +kernel), ⟨by decide, by decide⟩, by decide +kernel⟩
theorem fl_X6_55 : FLK RX6 55 1 1 := ⟨_, tyX0, "BlobHarbor$Bytes", rfl, by decide, by decide, by decide, rfl, inK_1, tyX0_ok, nmX0, fun _ _ _ x h => h, Or.inr ⟨"BlobHarbor", ns_mem 166 (by decide +kernel) (by decide +kernel)⟩⟩
theorem ml_X6_60 : Cond.methodLink RX6 60 yX8_manyUp ∈ TBG := tb_mem 409 (by decide +kernel) (by decide +kernel)
theorem mf_Store_manyUp : MFV yX8_manyUp cX8_manyUp 3 (some .int) 0 := ⟨tb_mem 412 (by decide +kernel) (by decide +kernel), tb_mem 410 (by decide +kernel) (by decide +kernel), tb_mem 411 (by decide +kernel) (by decide +kernel), tb_mem 3 (by decide +kernel) (by decide +kernel), ⟨by decide, by decide⟩, by decide +kernel⟩
theorem ml_X6_63 : Cond.methodLink RX6 63 yX8_manyEverWith ∈ TBG := tb_mem 417 (by decide +kernel) (by decide +kernel)
theorem mf_Store_manyEverWith : MFV yX8_manyEverWith cX8_manyEverWith 4 (some .int) 1 := ⟨tb_mem 420 (by decide +kernel) (by decide +kernel), tb_mem 418 (by decide +kernel) (by decide +kernel), tb_mem 419 (by decide +kernel) (by decide +kernel), tb_mem 3 (by decide +kernel) (by decide +kernel), ⟨by decide, by decide⟩, by decide +kernel⟩
theorem ml_X3_9 : ∃ h, Cond.methodLinkNest RX3 9 yX0_init h ∈ NST := ⟨"BlobHarbor", ns_mem 469 (by decide +kernel) (by decide +kernel)⟩
theorem fp_X3_4_3 : FPT RX3 4 3 (.object "BlobHarbor$Bytes") true := ⟨_, rfl, by decide +kernel, rfl, fun _ => rfl⟩
theorem fl_X3_16 : FLK RX3 16 4 0 := ⟨_, tyX3, "BlobHarbor$Entry", rfl, by decide, by decide, by decide, rfl, inK_4, tyX3_ok, nmX3, fun _ _ _ x h => h, Or.inl (tb_mem 470 (by decide +kernel) (by decide +kernel))⟩
theorem fp_X3_4_0 : FPT RX3 4 0 .int true := ⟨_, rfl, by decide +kernel, rfl, fun _ => rfl⟩
theorem fl_X3_20 : FLK RX3 20 4 1 := ⟨_, tyX3, "BlobHarbor$Entry", rfl, by decide, by decide, by decide, rfl, inK_4, tyX3_ok, nmX3, fun _ _ _ x h => h, Or.inl (tb_mem 473 (by decide +kernel) (by decide +kernel))⟩
theorem fp_X3_4_1 : FPT RX3 4 1 .int true := ⟨_, rfl, by decide +kernel, rfl, fun _ => rfl⟩
theorem fl_X3_23 : FLK RX3 23 4 2 := ⟨_, tyX3, "BlobHarbor$Entry", rfl, by decide, by decide, by decide, rfl, inK_4, tyX3_ok, nmX3, fun _ _ _ x h => h, Or.inl (tb_mem 476 (by decide +kernel) (by decide +kernel))⟩
theorem fp_X3_4_2 : FPT RX3 4 2 .int true := ⟨_, rfl, by decide +kernel, rfl, fun _ => rfl⟩
theorem cl_X3_7 : CLK RX3 7 1 := ⟨_, tyX0, rfl, by decide, by decide, rfl, inK_1, tyX0_ok, by decide +kernel, by decide, tb_mem 468 (by decide +kernel) (by decide +kernel), tb_mem 155 (by decide +kernel) (by decide +kernel), tb_mem 9 (by decide +kernel) (by decide +kernel)⟩
theorem ml_X3_1 : Cond.methodLink RX3 1 objectInit ∈ TBG := tb_mem 467 (by decide +kernel) (by decide +kernel)
theorem ml_X0_23 : Cond.methodLink RX0 23 yX0_append ∈ TBG := tb_mem 496 (by decide +kernel) (by decide +kernel)
theorem mf_Bytes_append : MFV yX0_append cX0_append 2 none 1 := ⟨tb_mem 360 (by decide +kernel) (by decide +kernel), tb_mem 358 (by decide +kernel) (by decide +kernel), tb_mem 359 (by decide +kernel) (by decide +kernel), tb_mem 9 (by decide +kernel) (by decide +kernel), ⟨by decide, by decide⟩, by decide +kernel⟩
theorem fp_X5_5_2 : FPT RX5 5 2 (.array .byte) true := ⟨_, rfl, by decide +kernel, rfl, fun _ => rfl⟩
theorem fp_X5_5_3 : FPT RX5 5 3 (.array .byte) true := ⟨_, rfl, by decide +kernel, rfl, fun _ => rfl⟩
theorem fp_X5_5_4 : FPT RX5 5 4 (.array .int) true := ⟨_, rfl, by decide +kernel, rfl, fun _ => rfl⟩
theorem fp_X5_5_5 : FPT RX5 5 5 (.array .boolean) true := ⟨_, rfl, by decide +kernel, rfl, fun _ => rfl⟩
theorem fl_X5_26 : FLK RX5 26 5 0 := ⟨_, tyX5, "BlobHarbor$Part", rfl, by decide, by decide, by decide, rfl, inK_5, tyX5_ok, nmX5, fun _ _ _ x h => h, Or.inl (tb_mem 521 (by decide +kernel) (by decide +kernel))⟩
theorem fp_X5_5_0 : FPT RX5 5 0 .int true := ⟨_, rfl, by decide +kernel, rfl, fun _ => rfl⟩
theorem fp_X5_5_1 : FPT RX5 5 1 .int true := ⟨_, rfl, by decide +kernel, rfl, fun _ => rfl⟩
theorem ml_X5_39 : Cond.methodLink RX5 39 yJ7_fill_53178 ∈ TBG := tb_mem 518 (by decide +kernel) (by decide +kernel)
theorem ml_X5_3 : Cond.methodLink RX5 3 objectInit ∈ TBG := tb_mem 517 (by decide +kernel) (by decide +kernel)
theorem cn_J8_200 : Cond.constant RJ8 200 2147483639 ∈ TBG := tb_mem 571 (by decide +kernel) (by decide +kernel)
theorem ml_J8_194 : Cond.methodLink RJ8 194 Lib.Math.max.name ∈ TBG := tb_mem 570 (by decide +kernel) (by decide +kernel)
theorem ml_J7_150 : Cond.methodLink RJ7 150 arraycopyName ∈ TBG := tb_mem 609 (by decide +kernel) (by decide +kernel)
theorem ml_J7_304 : Cond.methodLink RJ7 304 Lib.Math.min.name ∈ TBG := tb_mem 606 (by decide +kernel) (by decide +kernel)
theorem cw_J7_2 : Cond.classLink RJ7 2 "java/lang/Object" ∈ TBG := tb_mem 605 (by decide +kernel) (by decide +kernel)
theorem cw_J7_110 : Cond.classLink RJ7 110 "[Ljava/lang/Object;" ∈ TBG := tb_mem 603 (by decide +kernel) (by decide +kernel)
theorem ml_J7_300 : Cond.methodLink RJ7 300 yJ7_copyOf_6403c ∈ TBG := tb_mem 600 (by decide +kernel) (by decide +kernel)
theorem mf_Ar_copyOf2 : MFS yJ7_copyOf_6403c cJ7_copyOf_6403c 4 (some (.array (.object "java/lang/Object"))) 3 := ⟨tb_mem 602 (by decide +kernel) (by decide +kernel), tb_mem 601 (by decide +kernel) (by decide +kernel), tb_mem 24 (by decide +kernel) (by decide +kernel), ⟨by decide, by decide⟩, by decide +kernel⟩
theorem ml_J7_86 : Cond.methodLink RJ7 86 ⟨"java/lang/Object", "getClass", "()Ljava/lang/Class;"⟩ ∈ TBG := tb_mem 578 (by decide +kernel) (by decide +kernel)
theorem ml_Jx4a65c_73 : Cond.methodLink RJx4a65c 73 yJ8_newLength_cabcc ∈ TBG := tb_mem 567 (by decide +kernel) (by decide +kernel)
theorem mf_As_newLength : MFS yJ8_newLength_cabcc cJ8_newLength_cabcc 4 (some .int) 3 := ⟨tb_mem 569 (by decide +kernel) (by decide +kernel), tb_mem 568 (by decide +kernel) (by decide +kernel), tb_mem 25 (by decide +kernel) (by decide +kernel), ⟨by decide, by decide⟩, by decide +kernel⟩
theorem ml_Jx4a65c_66 : Cond.methodLink RJx4a65c 66 yJ7_copyOf_1904c ∈ TBG := tb_mem 575 (by decide +kernel) (by decide +kernel)
theorem mf_Ar_copyOf1 : MFS yJ7_copyOf_1904c cJ7_copyOf_1904c 2 (some (.array (.object "java/lang/Object"))) 2 := ⟨tb_mem 577 (by decide +kernel) (by decide +kernel), tb_mem 576 (by decide +kernel) (by decide +kernel), tb_mem 24 (by decide +kernel) (by decide +kernel), ⟨by decide, by decide⟩, by decide +kernel⟩
theorem cw_Jx4a65c_7 : Cond.classLink RJx4a65c 7 "java/lang/Object" ∈ TBG := tb_mem 613 (by decide +kernel) (by decide +kernel)
theorem ml_Jx4a65c_79 : Cond.methodLink RJx4a65c 79 Lib.Math.max.name ∈ TBG := tb_mem 612 (by decide +kernel) (by decide +kernel)
theorem ml_Jx4a65c_69 : Cond.methodLink RJx4a65c 69 yJx4a65c_grow_92f84 ∈ TBG := tb_mem 563 (by decide +kernel) (by decide +kernel)
theorem mf_Al_grow1 : MFV yJx4a65c_grow_92f84 cJx4a65c_grow_92f84 4 (some (.array (.object "java/lang/Object"))) 1 := ⟨tb_mem 566 (by decide +kernel) (by decide +kernel), tb_mem 565 (by decide +kernel) (by decide +kernel), tb_sel (k := 3) 10 (by decide +kernel), tb_mem 6 (by decide +kernel) (by decide +kernel), ⟨by decide, by decide⟩, by decide +kernel⟩
theorem ml_Jx4a65c_129 : Cond.methodLink RJx4a65c 129 yJx4a65c_grow_d5877 ∈ TBG := tb_mem 559 (by decide +kernel) (by decide +kernel)
theorem mf_Al_grow0 : MFV yJx4a65c_grow_d5877 cJx4a65c_grow_d5877 1 (some (.array (.object "java/lang/Object"))) 0 := ⟨tb_mem 562 (by decide +kernel) (by decide +kernel), tb_mem 561 (by decide +kernel) (by decide +kernel), tb_sel (k := 3) 9 (by decide +kernel), tb_mem 6 (by decide +kernel) (by decide +kernel), ⟨by decide, by decide⟩, by decide +kernel⟩
theorem ml_Jx4a65c_131 : Cond.methodLink RJx4a65c 131 yJx4a65c_add_72be8 ∈ TBG := tb_mem 555 (by decide +kernel) (by decide +kernel)
theorem mf_Al_add2 : MFV yJx4a65c_add_72be8 cJx4a65c_add_72be8 4 none 3 := ⟨tb_mem 558 (by decide +kernel) (by decide +kernel), tb_mem 557 (by decide +kernel) (by decide +kernel), tb_sel (k := 3) 8 (by decide +kernel), tb_mem 6 (by decide +kernel) (by decide +kernel), ⟨by decide, by decide⟩, by decide +kernel⟩
theorem ml_X8_118 : Cond.methodLink RX8 118 yX5_init ∈ TBG := tb_mem 514 (by decide +kernel) (by decide +kernel)
theorem mf_Part_init : MFI yX5_init cX5_init 6 4 := ⟨tb_mem 516 (by decide +kernel) (by decide +kernel), tb_mem 515 (by decide +kernel) (by decide +kernel), rfl, tb_mem 23 (by decide +kernel) (by decide +kernel), ⟨by decide, by decide⟩, by decide +kernel⟩
theorem ml_X8_121 : Cond.methodLink RX8 121 yJx4a65c_add_9ea2d ∈ TBG := tb_mem 551 (by decide +kernel) (by decide +kernel)
theorem mf_Al_add1 : MFV yJx4a65c_add_9ea2d cJx4a65c_add_9ea2d 2 (some .boolean) 1 := ⟨tb_mem 554 (by decide +kernel) (by decide +kernel), tb_mem 552 (by decide +kernel) (by decide +kernel), tb_mem 553 (by decide +kernel) (by decide +kernel), tb_mem 6 (by decide +kernel) (by decide +kernel), ⟨by decide, by decide⟩, by decide +kernel⟩
theorem cl_X8_48 : CLK RX8 48 5 := ⟨_, tyX5, rfl, by decide, by decide, rfl, inK_5, tyX5_ok, by decide +kernel, by decide, tb_mem 447 (by decide +kernel) (by decide +kernel), tb_mem 513 (by decide +kernel) (by decide +kernel), tb_mem 23 (by decide +kernel) (by decide +kernel)⟩
theorem ml_X5_48 : Cond.methodLink RX5 48 yX5_isGood ∈ TBG := tb_mem 622 (by decide +kernel) (by decide +kernel)
theorem ml_X5_52 : Cond.methodLink RX5 52 yX5_manyGood ∈ TBG := tb_mem 618 (by decide +kernel) (by decide +kernel)
theorem mf_Part_manyGood : MFV yX5_manyGood cX5_manyGood 3 (some .int) 0 := ⟨tb_mem 621 (by decide +kernel) (by decide +kernel), tb_mem 619 (by decide +kernel) (by decide +kernel), tb_mem 620 (by decide +kernel) (by decide +kernel), tb_mem 23 (by decide +kernel) (by decide +kernel), ⟨by decide, by decide⟩, by decide +kernel⟩
theorem fl_X1_32 : FLK RX1 32 5 2 := ⟨_, tyX5, "BlobHarbor$Part", rfl, by decide, by decide, by decide, rfl, inK_5, tyX5_ok, nmX5, fun _ _ _ x h => h, Or.inr ⟨"BlobHarbor", ns_mem 527 (by decide +kernel) (by decide +kernel)⟩⟩
theorem ml_X1_37 : Cond.methodLink RX1 37 yX1_plainByte ∈ TBG := tb_mem 646 (by decide +kernel) (by decide +kernel)
theorem fl_X8_115 : FLK RX8 115 5 0 := ⟨_, tyX5, "BlobHarbor$Part", rfl, by decide, by decide, by decide, rfl, inK_5, tyX5_ok, nmX5, fun _ _ _ x h => h, Or.inr ⟨"BlobHarbor", ns_mem 522 (by decide +kernel) (by decide +kernel)⟩⟩
theorem ml_X8_142 : Cond.methodLink RX8 142 yX5_isOn ∈ TBG := tb_mem 662 (by decide +kernel) (by decide +kernel)
theorem mf_Part_isOn : MFV yX5_isOn cX5_isOn 3 (some .boolean) 1 := ⟨tb_mem 665 (by decide +kernel) (by decide +kernel), tb_mem 663 (by decide +kernel) (by decide +kernel), tb_mem 664 (by decide +kernel) (by decide +kernel), tb_mem 23 (by decide +kernel) (by decide +kernel), ⟨by decide, by decide⟩, by decide +kernel⟩
theorem ml_X5_56 : Cond.methodLink RX5 56 yX1_codedByte ∈ TBG := tb_mem 670 (by decide +kernel) (by decide +kernel)
theorem mf_Code_codedByte : MFV yX1_codedByte cX1_codedByte 4 (some .int) 2 := ⟨tb_mem 673 (by decide +kernel) (by decide +kernel), tb_mem 671 (by decide +kernel) (by decide +kernel), tb_mem 672 (by decide +kernel) (by decide +kernel), tb_mem 8 (by decide +kernel) (by decide +kernel), ⟨by decide, by decide⟩, by decide +kernel⟩
theorem ml_X5_62 : Cond.methodLink RX5 62 yX5_setShardByte ∈ TBG := tb_mem 674 (by decide +kernel) (by decide +kernel)
theorem mf_Part_setShardByte : MFV yX5_setShardByte cX5_setShardByte 5 none 3 := ⟨tb_mem 677 (by decide +kernel) (by decide +kernel), tb_mem 676 (by decide +kernel) (by decide +kernel), tb_sel (k := 8) 13 (by decide +kernel), tb_mem 23 (by decide +kernel) (by decide +kernel), ⟨by decide, by decide⟩, by decide +kernel⟩
theorem ml_X8_125 : Cond.methodLink RX8 125 yX5_loseAll ∈ TBG := tb_mem 634 (by decide +kernel) (by decide +kernel)
theorem mf_Part_loseAll : MFV yX5_loseAll cX5_loseAll 1 none 0 := ⟨tb_mem 637 (by decide +kernel) (by decide +kernel), tb_mem 635 (by decide +kernel) (by decide +kernel), tb_mem 636 (by decide +kernel) (by decide +kernel), tb_mem 23 (by decide +kernel) (by decide +kernel), ⟨by decide, by decide⟩, by decide +kernel⟩
theorem ml_X8_128 : Cond.methodLink RX8 128 yX1_takePlain ∈ TBG := tb_mem 638 (by decide +kernel) (by decide +kernel)
theorem mf_Code_takePlain : MFV yX1_takePlain cX1_takePlain 3 none 1 := ⟨tb_mem 641 (by decide +kernel) (by decide +kernel), tb_mem 639 (by decide +kernel) (by decide +kernel), tb_mem 640 (by decide +kernel) (by decide +kernel), tb_mem 8 (by decide +kernel) (by decide +kernel), ⟨by decide, by decide⟩, by decide +kernel⟩
theorem ml_X8_131 : Cond.methodLink RX8 131 yX1_encodePlain ∈ TBG := tb_mem 642 (by decide +kernel) (by decide +kernel)
theorem mf_Code_encodePlain : MFV yX1_encodePlain cX1_encodePlain 5 none 0 := ⟨tb_mem 645 (by decide +kernel) (by decide +kernel), tb_mem 643 (by decide +kernel) (by decide +kernel), tb_mem 644 (by decide +kernel) (by decide +kernel), tb_mem 8 (by decide +kernel) (by decide +kernel), ⟨by decide, by decide⟩, by decide +kernel⟩
theorem ml_X8_134 : Cond.methodLink RX8 134 yX8_freeNode ∈ TBG := tb_mem 658 (by decide +kernel) (by decide +kernel)
theorem mf_Store_freeNode : MFV yX8_freeNode cX8_freeNode 6 (some .int) 1 := ⟨tb_mem 661 (by decide +kernel) (by decide +kernel), tb_mem 660 (by decide +kernel) (by decide +kernel), tb_sel (k := 5) 12 (by decide +kernel), tb_mem 3 (by decide +kernel) (by decide +kernel), ⟨by decide, by decide⟩, by decide +kernel⟩
theorem ml_X8_138 : Cond.methodLink RX8 138 yX5_place ∈ TBG := tb_mem 666 (by decide +kernel) (by decide +kernel)
theorem mf_Part_place : MFV yX5_place cX5_place 5 none 3 := ⟨tb_mem 669 (by decide +kernel) (by decide +kernel), tb_mem 667 (by decide +kernel) (by decide +kernel), tb_mem 668 (by decide +kernel) (by decide +kernel), tb_mem 23 (by decide +kernel) (by decide +kernel), ⟨by decide, by decide⟩, by decide +kernel⟩
theorem ml_X8_101 : Cond.methodLink RX8 101 yX8_findOrAdd ∈ TBG := tb_mem 509 (by decide +kernel) (by decide +kernel)
theorem mf_Store_findOrAdd : MFV yX8_findOrAdd cX8_findOrAdd 5 (some (.object "BlobHarbor$Part")) 3 := ⟨tb_mem 512 (by decide +kernel) (by decide +kernel), tb_mem 511 (by decide +kernel) (by decide +kernel), tb_sel (k := 5) 7 (by decide +kernel), tb_mem 3 (by decide +kernel) (by decide +kernel), ⟨by decide, by decide⟩, by decide +kernel⟩
theorem ml_X8_104 : Cond.methodLink RX8 104 yX5_canBeRead ∈ TBG := tb_mem 614 (by decide +kernel) (by decide +kernel)
theorem mf_Part_canBeRead : MFV yX5_canBeRead cX5_canBeRead 1 (some .boolean) 0 := ⟨tb_mem 617 (by decide +kernel) (by decide +kernel), tb_mem 615 (by decide +kernel) (by decide +kernel), tb_mem 616 (by decide +kernel) (by decide +kernel), tb_mem 23 (by decide +kernel) (by decide +kernel), ⟨by decide, by decide⟩, by decide +kernel⟩
theorem ml_X8_108 : Cond.methodLink RX8 108 yX8_spread ∈ TBG := tb_mem 630 (by decide +kernel) (by decide +kernel)
theorem mf_Store_spread : MFV yX8_spread cX8_spread 4 none 1 := ⟨tb_mem 633 (by decide +kernel) (by decide +kernel), tb_mem 632 (by decide +kernel) (by decide +kernel), tb_sel (k := 5) 11 (by decide +kernel), tb_mem 3 (by decide +kernel) (by decide +kernel), ⟨by decide, by decide⟩, by decide +kernel⟩
theorem ml_X8_95 : Cond.methodLink RX8 95 Lib.Math.max.name ∈ TBG := tb_mem 506 (by decide +kernel) (by decide +kernel)
theorem fp_X10_10_3 : FPT RX10 10 3 .int false := ⟨_, rfl, by decide +kernel, rfl, fun h => by cases h⟩
theorem fp_X10_10_4 : FPT RX10 10 4 .int false := ⟨_, rfl, by decide +kernel, rfl, fun h => by cases h⟩
theorem fl_X10_18 : FLK RX10 18 10 0 := ⟨_, tyX10, "BlobHarbor$Version", rfl, by decide, by decide, by decide, rfl, inK_10, tyX10_ok, nmX10, fun _ _ _ x h => h, Or.inl (tb_mem 682 (by decide +kernel) (by decide +kernel))⟩
theorem fp_X10_10_0 : FPT RX10 10 0 (.object "BlobHarbor$Entry") true := ⟨_, rfl, by decide +kernel, rfl, fun _ => rfl⟩
theorem fl_X10_22 : FLK RX10 22 10 1 := ⟨_, tyX10, "BlobHarbor$Version", rfl, by decide, by decide, by decide, rfl, inK_10, tyX10_ok, nmX10, fun _ _ _ x h => h, Or.inl (tb_mem 686 (by decide +kernel) (by decide +kernel))⟩
theorem fp_X10_10_1 : FPT RX10 10 1 (.array .int) true := ⟨_, rfl, by decide +kernel, rfl, fun _ => rfl⟩
theorem ml_X10_3 : Cond.methodLink RX10 3 objectInit ∈ TBG := tb_mem 681 (by decide +kernel) (by decide +kernel)
theorem ml_Jx4a65c_135 : Cond.methodLink RJx4a65c 135 yJx4a65c_rangeCheckForAdd_d00df ∈ TBG := tb_mem 712 (by decide +kernel) (by decide +kernel)
theorem mf_Al_rangeCheckForAdd : MFV yJx4a65c_rangeCheckForAdd_d00df cJx4a65c_rangeCheckForAdd_d00df 2 none 1 := ⟨tb_mem 715 (by decide +kernel) (by decide +kernel), tb_mem 714 (by decide +kernel) (by decide +kernel), tb_sel (k := 3) 14 (by decide +kernel), tb_mem 6 (by decide +kernel) (by decide +kernel), ⟨by decide, by decide⟩, by decide +kernel⟩
theorem fl_X6_67 : FLK RX6 67 4 3 := ⟨_, tyX3, "BlobHarbor$Entry", rfl, by decide, by decide, by decide, rfl, inK_4, tyX3_ok, nmX3, fun _ _ _ x h => h, Or.inr ⟨"BlobHarbor", ns_mem 480 (by decide +kernel) (by decide +kernel)⟩⟩
theorem ml_X6_71 : Cond.methodLink RX6 71 yX8_takeIn ∈ TBG := tb_mem 502 (by decide +kernel) (by decide +kernel)
theorem mf_Store_takeIn : MFV yX8_takeIn cX8_takeIn 5 (some (.array .int)) 1 := ⟨tb_mem 505 (by decide +kernel) (by decide +kernel), tb_mem 503 (by decide +kernel) (by decide +kernel), tb_mem 504 (by decide +kernel) (by decide +kernel), tb_mem 3 (by decide +kernel) (by decide +kernel), ⟨by decide, by decide⟩, by decide +kernel⟩
theorem ml_X6_75 : Cond.methodLink RX6 75 yX10_init ∈ TBG := tb_mem 678 (by decide +kernel) (by decide +kernel)
theorem mf_Version_init : MFI yX10_init cX10_init 3 2 := ⟨tb_mem 680 (by decide +kernel) (by decide +kernel), tb_mem 679 (by decide +kernel) (by decide +kernel), rfl, tb_mem 21 (by decide +kernel) (by decide +kernel), ⟨by decide, by decide⟩, by decide +kernel⟩
theorem ml_X6_78 : Cond.methodLink RX6 78 yJx4a65c_add_7a177 ∈ TBG := tb_mem 708 (by decide +kernel) (by decide +kernel)
theorem mf_Al_add0 : MFV yJx4a65c_add_7a177 cJx4a65c_add_7a177 5 none 2 := ⟨tb_mem 711 (by decide +kernel) (by decide +kernel), tb_mem 709 (by decide +kernel) (by decide +kernel), tb_mem 710 (by decide +kernel) (by decide +kernel), tb_mem 6 (by decide +kernel) (by decide +kernel), ⟨by decide, by decide⟩, by decide +kernel⟩
theorem cl_X6_40 : CLK RX6 40 10 := ⟨_, tyX10, rfl, by decide, by decide, rfl, inK_10, tyX10_ok, by decide +kernel, by decide, tb_mem 240 (by decide +kernel) (by decide +kernel), tb_mem 501 (by decide +kernel) (by decide +kernel), tb_mem 21 (by decide +kernel) (by decide +kernel)⟩
theorem fl_X11_329 : FLK RX11 329 11 8 := ⟨_, tyX11, "BlobHarbor", rfl, by decide, by decide, by decide, rfl, inK_11, tyX11_ok, nmX11, fun _ _ _ x h => h, Or.inl (tb_mem 183 (by decide +kernel) (by decide +kernel))⟩
theorem fp_X11_11_8 : FPT RX11 11 8 .int false := ⟨_, rfl, by decide +kernel, rfl, fun h => by cases h⟩
theorem ml_X11_335 : Cond.methodLink RX11 335 yX3_init ∈ TBG := tb_mem 464 (by decide +kernel) (by decide +kernel)
theorem mf_Entry_init : MFI yX3_init cX3_init 4 3 := ⟨tb_mem 466 (by decide +kernel) (by decide +kernel), tb_mem 465 (by decide +kernel) (by decide +kernel), rfl, tb_mem 20 (by decide +kernel) (by decide +kernel), ⟨by decide, by decide⟩, by decide +kernel⟩
theorem ml_X11_336 : Cond.methodLink RX11 336 yX0_appendAll ∈ TBG := tb_mem 492 (by decide +kernel) (by decide +kernel)
theorem mf_Bytes_appendAll : MFV yX0_appendAll cX0_appendAll 3 none 1 := ⟨tb_mem 495 (by decide +kernel) (by decide +kernel), tb_mem 493 (by decide +kernel) (by decide +kernel), tb_mem 494 (by decide +kernel) (by decide +kernel), tb_mem 9 (by decide +kernel) (by decide +kernel), ⟨by decide, by decide⟩, by decide +kernel⟩
theorem ml_X11_339 : Cond.methodLink RX11 339 yX6_take ∈ TBG := tb_mem 497 (by decide +kernel) (by decide +kernel)
theorem mf_Region_take : MFV yX6_take cX6_take 4 none 1 := ⟨tb_mem 500 (by decide +kernel) (by decide +kernel), tb_mem 498 (by decide +kernel) (by decide +kernel), tb_mem 499 (by decide +kernel) (by decide +kernel), tb_mem 2 (by decide +kernel) (by decide +kernel), ⟨by decide, by decide⟩, by decide +kernel⟩
theorem ml_X11_144 : Cond.methodLink RX11 144 yJx4a65c_add_9ea2d ∈ TBG := tb_mem 954 (by decide +kernel) (by decide +kernel)
theorem cl_X11_201 : CLK RX11 201 4 := ⟨_, tyX3, rfl, by decide, by decide, rfl, inK_4, tyX3_ok, by decide +kernel, by decide, tb_mem 462 (by decide +kernel) (by decide +kernel), tb_mem 463 (by decide +kernel) (by decide +kernel), tb_mem 20 (by decide +kernel) (by decide +kernel)⟩
theorem ml_X11_332 : Cond.methodLink RX11 332 yX6_hasRoom ∈ TBG := tb_mem 405 (by decide +kernel) (by decide +kernel)
theorem mf_Region_hasRoom : MFV yX6_hasRoom cX6_hasRoom 2 (some .boolean) 1 := ⟨tb_mem 408 (by decide +kernel) (by decide +kernel), tb_mem 406 (by decide +kernel) (by decide +kernel), tb_mem 407 (by decide +kernel) (by decide +kernel), tb_mem 2 (by decide +kernel) (by decide +kernel), ⟨by decide, by decide⟩, by decide +kernel⟩
theorem ml_X11_69 : Cond.methodLink RX11 69 yX11_checkKey ∈ TBG := tb_mem 392 (by decide +kernel) (by decide +kernel)
theorem mf_Hb_checkKey : MFS yX11_checkKey cX11_checkKey 1 none 1 := ⟨tb_mem 394 (by decide +kernel) (by decide +kernel), tb_mem 393 (by decide +kernel) (by decide +kernel), tb_mem 1 (by decide +kernel) (by decide +kernel), ⟨by decide, by decide⟩, by decide +kernel⟩
theorem ml_X11_83 : Cond.methodLink RX11 83 yX11_store ∈ TBG := tb_mem 401 (by decide +kernel) (by decide +kernel)
theorem mf_Hb_store : MFV yX11_store cX11_store 5 (some .int) 3 := ⟨tb_mem 404 (by decide +kernel) (by decide +kernel), tb_mem 403 (by decide +kernel) (by decide +kernel), tb_sel (k := 10) 2 (by decide +kernel), tb_mem 1 (by decide +kernel) (by decide +kernel), ⟨by decide, by decide⟩, by decide +kernel⟩
theorem ml_X11_58 : Cond.methodLink RX11 58 yX0_append ∈ TBG := tb_mem 357 (by decide +kernel) (by decide +kernel)
theorem ml_X11_98 : Cond.methodLink RX11 98 yX10_isLocked ∈ TBG := tb_mem 977 (by decide +kernel) (by decide +kernel)
theorem ml_X11_104 : Cond.methodLink RX11 104 yX6_takeOut ∈ TBG := tb_mem 981 (by decide +kernel) (by decide +kernel)
theorem ml_X11_108 : Cond.methodLink RX11 108 yX6_manyOf ∈ TBG := tb_mem 1001 (by decide +kernel) (by decide +kernel)
theorem mf_Region_manyOf : MFV yX6_manyOf cX6_manyOf 4 (some .int) 1 := ⟨tb_mem 1004 (by decide +kernel) (by decide +kernel), tb_mem 1002 (by decide +kernel) (by decide +kernel), tb_mem 1003 (by decide +kernel) (by decide +kernel), tb_mem 2 (by decide +kernel) (by decide +kernel), ⟨by decide, by decide⟩, by decide +kernel⟩
theorem inK_9 : ∀ w ∈ u_ws RX9 TX9 4, w ∈ TBG := by
  have h : (u_ws RX9 TX9 4).all (fun w => goodWord w && decide (w ∈ lw_tbl)) = true := by decide +kernel
  intro w hw
  have h1 := List.all_eq_true.mp h w hw
  rw [Bool.and_eq_true] at h1
  exact List.mem_filter.mpr ⟨of_decide_eq_true h1.2, h1.1⟩
theorem fl_X11_160 : FLK RX11 160 9 3 := ⟨_, tyX9, "BlobHarbor$Upload", rfl, by decide, by decide, by decide, rfl, inK_9, tyX9_ok, nmX9, fun _ _ _ x h => h, Or.inr ⟨"BlobHarbor", ns_mem 1103 (by decide +kernel) (by decide +kernel)⟩⟩
theorem cw_X11_139 : Cond.classLink RX11 139 "BlobHarbor$Upload" ∈ TBG := tb_mem 1089 (by decide +kernel) (by decide +kernel)
theorem ml_X9_33 : Cond.methodLink RX9 33 yX0_makeEmpty ∈ TBG := tb_mem 1138 (by decide +kernel) (by decide +kernel)
theorem fl_X9_11 : FLK RX9 11 9 2 := ⟨_, tyX9, "BlobHarbor$Upload", rfl, by decide, by decide, by decide, rfl, inK_9, tyX9_ok, nmX9, fun _ _ _ x h => h, Or.inl (tb_mem 1102 (by decide +kernel) (by decide +kernel))⟩
theorem ml_X9_36 : Cond.methodLink RX9 36 yX0_appendAll ∈ TBG := tb_mem 1139 (by decide +kernel) (by decide +kernel)
theorem ml_X11_148 : Cond.methodLink RX11 148 yX11_openUpload ∈ TBG := tb_mem 1120 (by decide +kernel) (by decide +kernel)
theorem mf_Hb_openUpload : MFV yX11_openUpload cX11_openUpload 3 (some (.object "BlobHarbor$Upload")) 1 := ⟨tb_mem 1123 (by decide +kernel) (by decide +kernel), tb_mem 1122 (by decide +kernel) (by decide +kernel), tb_sel (k := 10) 22 (by decide +kernel), tb_mem 1 (by decide +kernel) (by decide +kernel), ⟨by decide, by decide⟩, by decide +kernel⟩
theorem ml_X11_164 : Cond.methodLink RX11 164 yX9_joinInto ∈ TBG := tb_mem 1147 (by decide +kernel) (by decide +kernel)
theorem mf_Upload_joinInto : MFV yX9_joinInto cX9_joinInto 3 none 1 := ⟨tb_mem 1150 (by decide +kernel) (by decide +kernel), tb_mem 1148 (by decide +kernel) (by decide +kernel), tb_mem 1149 (by decide +kernel) (by decide +kernel), tb_mem 34 (by decide +kernel) (by decide +kernel), ⟨by decide, by decide⟩, by decide +kernel⟩
theorem fl_X11_168 : FLK RX11 168 9 0 := ⟨_, tyX9, "BlobHarbor$Upload", rfl, by decide, by decide, by decide, rfl, inK_9, tyX9_ok, nmX9, fun _ _ _ x h => h, Or.inr ⟨"BlobHarbor", ns_mem 1099 (by decide +kernel) (by decide +kernel)⟩⟩
theorem fl_X11_171 : FLK RX11 171 9 1 := ⟨_, tyX9, "BlobHarbor$Upload", rfl, by decide, by decide, by decide, rfl, inK_9, tyX9_ok, nmX9, fun _ _ _ x h => h, Or.inr ⟨"BlobHarbor", ns_mem 1101 (by decide +kernel) (by decide +kernel)⟩⟩
theorem fp_X11_9_3 : FPT RX11 9 3 .boolean false := ⟨_, rfl, by decide +kernel, rfl, fun h => by cases h⟩
theorem ml_X11_343 : Cond.methodLink RX11 343 yJx4a65c_isEmpty_aae02 ∈ TBG := tb_mem 1352 (by decide +kernel) (by decide +kernel)
theorem mf_Al_isEmpty : MFV yJx4a65c_isEmpty_aae02 cJx4a65c_isEmpty_aae02 1 (some .boolean) 0 := ⟨tb_mem 1355 (by decide +kernel) (by decide +kernel), tb_mem 1353 (by decide +kernel) (by decide +kernel), tb_mem 1354 (by decide +kernel) (by decide +kernel), tb_mem 6 (by decide +kernel) (by decide +kernel), ⟨by decide, by decide⟩, by decide +kernel⟩
theorem fl_X11_319 : FLK RX11 319 4 1 := ⟨_, tyX3, "BlobHarbor$Entry", rfl, by decide, by decide, by decide, rfl, inK_4, tyX3_ok, nmX3, fun _ _ _ x h => h, Or.inr ⟨"BlobHarbor", ns_mem 475 (by decide +kernel) (by decide +kernel)⟩⟩
theorem ml_X11_346 : Cond.methodLink RX11 346 yX6_hadNumber ∈ TBG := tb_mem 1356 (by decide +kernel) (by decide +kernel)
theorem mf_Region_hadNumber : MFV yX6_hadNumber cX6_hadNumber 2 (some .boolean) 1 := ⟨tb_mem 1359 (by decide +kernel) (by decide +kernel), tb_mem 1357 (by decide +kernel) (by decide +kernel), tb_mem 1358 (by decide +kernel) (by decide +kernel), tb_mem 2 (by decide +kernel) (by decide +kernel), ⟨by decide, by decide⟩, by decide +kernel⟩
theorem ml_X11_349 : Cond.methodLink RX11 349 yJx4a65c_remove_915e3 ∈ TBG := tb_mem 1360 (by decide +kernel) (by decide +kernel)
theorem cw_X11_201 : Cond.classLink RX11 201 "BlobHarbor$Entry" ∈ TBG := tb_mem 462 (by decide +kernel) (by decide +kernel)
theorem ml_X11_269 : Cond.methodLink RX11 269 yX11_takeFirst ∈ TBG := tb_mem 1348 (by decide +kernel) (by decide +kernel)
theorem mf_Hb_takeFirst : MFV yX11_takeFirst cX11_takeFirst 5 (some .boolean) 2 := ⟨tb_mem 1351 (by decide +kernel) (by decide +kernel), tb_mem 1350 (by decide +kernel) (by decide +kernel), tb_sel (k := 10) 26 (by decide +kernel), tb_mem 1 (by decide +kernel) (by decide +kernel), ⟨by decide, by decide⟩, by decide +kernel⟩
theorem ml_X4_9 : Cond.methodLink RX4 9 yX4_lettersOf ∈ TBG := tb_mem 1167 (by decide +kernel) (by decide +kernel)
theorem mf_Keys_lettersOf : MFS yX4_lettersOf cX4_lettersOf 1 (some .int) 1 := ⟨tb_mem 1169 (by decide +kernel) (by decide +kernel), tb_mem 1168 (by decide +kernel) (by decide +kernel), tb_mem 17 (by decide +kernel) (by decide +kernel), ⟨by decide, by decide⟩, by decide +kernel⟩
theorem ml_X4_13 : Cond.methodLink RX4 13 yX4_asWord ∈ TBG := tb_mem 1164 (by decide +kernel) (by decide +kernel)
theorem mf_Keys_asWord : MFS yX4_asWord cX4_asWord 2 (some .int) 1 := ⟨tb_mem 1166 (by decide +kernel) (by decide +kernel), tb_mem 1165 (by decide +kernel) (by decide +kernel), tb_mem 17 (by decide +kernel) (by decide +kernel), ⟨by decide, by decide⟩, by decide +kernel⟩
theorem ml_X11_283 : Cond.methodLink RX11 283 yX4_digit ∈ TBG := tb_mem 1403 (by decide +kernel) (by decide +kernel)
theorem mf_Keys_digit : MFS yX4_digit cX4_digit 3 (some .int) 2 := ⟨tb_mem 1405 (by decide +kernel) (by decide +kernel), tb_mem 1404 (by decide +kernel) (by decide +kernel), tb_mem 17 (by decide +kernel) (by decide +kernel), ⟨by decide, by decide⟩, by decide +kernel⟩
theorem ml_X11_174 : Cond.methodLink RX11 174 yX11_checkBeginning ∈ TBG := tb_mem 1158 (by decide +kernel) (by decide +kernel)
theorem mf_Hb_checkBeginning : MFS yX11_checkBeginning cX11_checkBeginning 1 none 1 := ⟨tb_mem 1160 (by decide +kernel) (by decide +kernel), tb_mem 1159 (by decide +kernel) (by decide +kernel), tb_mem 1 (by decide +kernel) (by decide +kernel), ⟨by decide, by decide⟩, by decide +kernel⟩
theorem ml_X11_177 : Cond.methodLink RX11 177 yX4_wordBehind ∈ TBG := tb_mem 1161 (by decide +kernel) (by decide +kernel)
theorem mf_Keys_wordBehind : MFS yX4_wordBehind cX4_wordBehind 1 (some .int) 1 := ⟨tb_mem 1163 (by decide +kernel) (by decide +kernel), tb_mem 1162 (by decide +kernel) (by decide +kernel), tb_mem 17 (by decide +kernel) (by decide +kernel), ⟨by decide, by decide⟩, by decide +kernel⟩
theorem ml_X11_182 : Cond.methodLink RX11 182 yX4_ofWord ∈ TBG := tb_mem 1170 (by decide +kernel) (by decide +kernel)
theorem mf_Keys_ofWord : MFS yX4_ofWord cX4_ofWord 1 (some .int) 1 := ⟨tb_mem 1172 (by decide +kernel) (by decide +kernel), tb_mem 1171 (by decide +kernel) (by decide +kernel), tb_mem 17 (by decide +kernel) (by decide +kernel), ⟨by decide, by decide⟩, by decide +kernel⟩
theorem ml_X11_188 : Cond.methodLink RX11 188 yX4_begins ∈ TBG := tb_mem 1173 (by decide +kernel) (by decide +kernel)
theorem fp_X11_10_3 : FPT RX11 10 3 .int false := ⟨_, rfl, by decide +kernel, rfl, fun h => by cases h⟩
theorem ml_X8_163 : Cond.methodLink RX8 163 yX5_nodeOf ∈ TBG := tb_mem 1264 (by decide +kernel) (by decide +kernel)
theorem ml_X8_166 : Cond.methodLink RX8 166 yX5_isGood ∈ TBG := tb_mem 1265 (by decide +kernel) (by decide +kernel)
theorem ml_X8_157 : Cond.methodLink RX8 157 yX5_manyGood ∈ TBG := tb_mem 1259 (by decide +kernel) (by decide +kernel)
theorem ml_X8_160 : Cond.methodLink RX8 160 yX8_mendShard ∈ TBG := tb_mem 1260 (by decide +kernel) (by decide +kernel)
theorem mf_Store_mendShard : MFV yX8_mendShard cX8_mendShard 4 (some .boolean) 1 := ⟨tb_mem 1263 (by decide +kernel) (by decide +kernel), tb_mem 1262 (by decide +kernel) (by decide +kernel), tb_sel (k := 5) 23 (by decide +kernel), tb_mem 3 (by decide +kernel) (by decide +kernel), ⟨by decide, by decide⟩, by decide +kernel⟩
theorem ml_X11_252 : Cond.methodLink RX11 252 yX8_mendOne ∈ TBG := tb_mem 1255 (by decide +kernel) (by decide +kernel)
theorem mf_Store_mendOne : MFV yX8_mendOne cX8_mendOne 4 (some .boolean) 0 := ⟨tb_mem 1258 (by decide +kernel) (by decide +kernel), tb_mem 1256 (by decide +kernel) (by decide +kernel), tb_mem 1257 (by decide +kernel) (by decide +kernel), tb_mem 3 (by decide +kernel) (by decide +kernel), ⟨by decide, by decide⟩, by decide +kernel⟩
theorem ml_X8_50 : Cond.methodLink RX8 50 yX5_loseOn ∈ TBG := tb_mem 1231 (by decide +kernel) (by decide +kernel)
theorem mf_Part_loseOn : MFV yX5_loseOn cX5_loseOn 4 (some .int) 1 := ⟨tb_mem 1234 (by decide +kernel) (by decide +kernel), tb_mem 1232 (by decide +kernel) (by decide +kernel), tb_mem 1233 (by decide +kernel) (by decide +kernel), tb_mem 23 (by decide +kernel) (by decide +kernel), ⟨by decide, by decide⟩, by decide +kernel⟩
theorem ml_X11_234 : Cond.methodLink RX11 234 yX8_isUp ∈ TBG := tb_mem 1222 (by decide +kernel) (by decide +kernel)

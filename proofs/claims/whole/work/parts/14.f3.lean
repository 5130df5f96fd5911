theorem ml_X11_239 : Cond.methodLink RX11 239 yX8_turn ∈ TBG := tb_mem 1223 (by decide +kernel) (by decide +kernel)
theorem mf_Store_turn : MFV yX8_turn cX8_turn 3 none 2 := ⟨tb_mem 1226 (by decide +kernel) (by decide +kernel), tb_mem 1224 (by decide +kernel) (by decide +kernel), tb_mem 1225 (by decide +kernel) (by decide +kernel), tb_mem 3 (by decide +kernel) (by decide +kernel), ⟨by decide, by decide⟩, by decide +kernel⟩
theorem ml_X11_243 : Cond.methodLink RX11 243 yX8_loseShardsOn ∈ TBG := tb_mem 1227 (by decide +kernel) (by decide +kernel)
theorem mf_Store_loseShardsOn : MFV yX8_loseShardsOn cX8_loseShardsOn 4 (some .int) 1 := ⟨tb_mem 1230 (by decide +kernel) (by decide +kernel), tb_mem 1228 (by decide +kernel) (by decide +kernel), tb_mem 1229 (by decide +kernel) (by decide +kernel), tb_mem 3 (by decide +kernel) (by decide +kernel), ⟨by decide, by decide⟩, by decide +kernel⟩
theorem ml_X11_309 : Cond.methodLink RX11 309 yX8_partAt ∈ TBG := tb_mem 1211 (by decide +kernel) (by decide +kernel)
theorem ml_X11_218 : Cond.methodLink RX11 218 yX11_partOf ∈ TBG := tb_mem 1208 (by decide +kernel) (by decide +kernel)
theorem mf_Hb_partOf : MFS yX11_partOf cX11_partOf 3 (some (.object "BlobHarbor$Part")) 2 := ⟨tb_mem 1210 (by decide +kernel) (by decide +kernel), tb_mem 1209 (by decide +kernel) (by decide +kernel), tb_mem 1 (by decide +kernel) (by decide +kernel), ⟨by decide, by decide⟩, by decide +kernel⟩
theorem ml_X11_231 : Cond.methodLink RX11 231 yX5_nodeOf ∈ TBG := tb_mem 1214 (by decide +kernel) (by decide +kernel)
theorem fl_X11_222 : FLK RX11 222 5 6 := ⟨_, tyX5, "BlobHarbor$Part", rfl, by decide, by decide, by decide, rfl, inK_5, tyX5_ok, nmX5, fun _ _ _ x h => h, Or.inr ⟨"BlobHarbor", ns_mem 532 (by decide +kernel) (by decide +kernel)⟩⟩
theorem fl_X11_227 : FLK RX11 227 5 1 := ⟨_, tyX5, "BlobHarbor$Part", rfl, by decide, by decide, by decide, rfl, inK_5, tyX5_ok, nmX5, fun _ _ _ x h => h, Or.inr ⟨"BlobHarbor", ns_mem 525 (by decide +kernel) (by decide +kernel)⟩⟩
theorem ml_X11_228 : Cond.methodLink RX11 228 yX5_manyGood ∈ TBG := tb_mem 1213 (by decide +kernel) (by decide +kernel)
theorem ml_X11_262 : Cond.methodLink RX11 262 yX6_charge ∈ TBG := tb_mem 1308 (by decide +kernel) (by decide +kernel)
theorem mf_Region_charge : MFV yX6_charge cX6_charge 4 none 1 := ⟨tb_mem 1311 (by decide +kernel) (by decide +kernel), tb_mem 1309 (by decide +kernel) (by decide +kernel), tb_mem 1310 (by decide +kernel) (by decide +kernel), tb_mem 2 (by decide +kernel) (by decide +kernel), ⟨by decide, by decide⟩, by decide +kernel⟩
theorem fp_X11_11_9 : FPT RX11 11 9 .int false := ⟨_, rfl, by decide +kernel, rfl, fun h => by cases h⟩
theorem ml_X11_266 : Cond.methodLink RX11 266 yX11_beginDay ∈ TBG := tb_mem 1312 (by decide +kernel) (by decide +kernel)
theorem mf_Hb_beginDay : MFV yX11_beginDay cX11_beginDay 2 none 0 := ⟨tb_mem 1315 (by decide +kernel) (by decide +kernel), tb_mem 1314 (by decide +kernel) (by decide +kernel), tb_sel (k := 10) 24 (by decide +kernel), tb_mem 1 (by decide +kernel) (by decide +kernel), ⟨by decide, by decide⟩, by decide +kernel⟩
theorem fl_X9_26 : FLK RX9 26 1 1 := ⟨_, tyX0, "BlobHarbor$Bytes", rfl, by decide, by decide, by decide, rfl, inK_1, tyX0_ok, nmX0, fun _ _ _ x h => h, Or.inr ⟨"BlobHarbor", ns_mem 163 (by decide +kernel) (by decide +kernel)⟩⟩
theorem ml_X9_29 : Cond.methodLink RX9 29 yX9_manyOf ∈ TBG := tb_mem 1129 (by decide +kernel) (by decide +kernel)
theorem mf_Upload_manyOf : MFV yX9_manyOf cX9_manyOf 2 (some .int) 1 := ⟨tb_mem 1132 (by decide +kernel) (by decide +kernel), tb_mem 1130 (by decide +kernel) (by decide +kernel), tb_mem 1131 (by decide +kernel) (by decide +kernel), tb_mem 34 (by decide +kernel) (by decide +kernel), ⟨by decide, by decide⟩, by decide +kernel⟩
theorem ml_X11_152 : Cond.methodLink RX11 152 yX9_total ∈ TBG := tb_mem 1125 (by decide +kernel) (by decide +kernel)
theorem mf_Upload_total : MFV yX9_total cX9_total 3 (some .int) 0 := ⟨tb_mem 1128 (by decide +kernel) (by decide +kernel), tb_mem 1126 (by decide +kernel) (by decide +kernel), tb_mem 1127 (by decide +kernel) (by decide +kernel), tb_mem 34 (by decide +kernel) (by decide +kernel), ⟨by decide, by decide⟩, by decide +kernel⟩
theorem ml_X11_155 : Cond.methodLink RX11 155 yX9_manyOf ∈ TBG := tb_mem 1133 (by decide +kernel) (by decide +kernel)
theorem ml_X11_156 : Cond.methodLink RX11 156 yX9_replace ∈ TBG := tb_mem 1134 (by decide +kernel) (by decide +kernel)
theorem mf_Upload_replace : MFV yX9_replace cX9_replace 3 none 2 := ⟨tb_mem 1137 (by decide +kernel) (by decide +kernel), tb_mem 1135 (by decide +kernel) (by decide +kernel), tb_mem 1136 (by decide +kernel) (by decide +kernel), tb_mem 34 (by decide +kernel) (by decide +kernel), ⟨by decide, by decide⟩, by decide +kernel⟩
theorem ml_X11_79 : Cond.methodLink RX11 79 yX11_holds ∈ TBG := tb_mem 398 (by decide +kernel) (by decide +kernel)
theorem mf_Hb_holds : MFS yX11_holds cX11_holds 2 (some .boolean) 2 := ⟨tb_mem 400 (by decide +kernel) (by decide +kernel), tb_mem 399 (by decide +kernel) (by decide +kernel), tb_mem 1 (by decide +kernel) (by decide +kernel), ⟨by decide, by decide⟩, by decide +kernel⟩
theorem ml_X11_118 : Cond.methodLink RX11 118 yX11_byteOf ∈ TBG := tb_mem 1019 (by decide +kernel) (by decide +kernel)
theorem mf_Hb_byteOf : MFV yX11_byteOf cX11_byteOf 4 (some .int) 3 := ⟨tb_mem 1022 (by decide +kernel) (by decide +kernel), tb_mem 1021 (by decide +kernel) (by decide +kernel), tb_sel (k := 10) 17 (by decide +kernel), tb_mem 1 (by decide +kernel) (by decide +kernel), ⟨by decide, by decide⟩, by decide +kernel⟩
theorem ml_X5_66 : Cond.methodLink RX5 66 yX5_shardByte ∈ TBG := tb_mem 1247 (by decide +kernel) (by decide +kernel)
theorem ml_X11_246 : Cond.methodLink RX11 246 yX5_isGood ∈ TBG := tb_mem 1242 (by decide +kernel) (by decide +kernel)
theorem ml_X11_249 : Cond.methodLink RX11 249 yX5_spoil ∈ TBG := tb_mem 1243 (by decide +kernel) (by decide +kernel)
theorem mf_Part_spoil : MFV yX5_spoil cX5_spoil 3 none 1 := ⟨tb_mem 1246 (by decide +kernel) (by decide +kernel), tb_mem 1244 (by decide +kernel) (by decide +kernel), tb_mem 1245 (by decide +kernel) (by decide +kernel), tb_mem 23 (by decide +kernel) (by decide +kernel), ⟨by decide, by decide⟩, by decide +kernel⟩
theorem fp_X7_7_0 : FPT RX7 7 0 .int true := ⟨_, rfl, by decide +kernel, rfl, fun _ => rfl⟩
theorem fp_X7_7_1 : FPT RX7 7 1 .int true := ⟨_, rfl, by decide +kernel, rfl, fun _ => rfl⟩
theorem fl_X7_16 : FLK RX7 16 7 2 := ⟨_, tyX7, "BlobHarbor$Rule", rfl, by decide, by decide, by decide, rfl, inK_7, tyX7_ok, nmX7, fun _ _ _ x h => h, Or.inl (tb_mem 1292 (by decide +kernel) (by decide +kernel))⟩
theorem fp_X7_7_2 : FPT RX7 7 2 .int true := ⟨_, rfl, by decide +kernel, rfl, fun _ => rfl⟩
theorem ml_X7_1 : Cond.methodLink RX7 1 objectInit ∈ TBG := tb_mem 1289 (by decide +kernel) (by decide +kernel)
theorem ml_X11_260 : Cond.methodLink RX11 260 yX7_init ∈ TBG := tb_mem 1286 (by decide +kernel) (by decide +kernel)
theorem mf_Rule_init : MFI yX7_init cX7_init 4 3 := ⟨tb_mem 1288 (by decide +kernel) (by decide +kernel), tb_mem 1287 (by decide +kernel) (by decide +kernel), rfl, tb_mem 35 (by decide +kernel) (by decide +kernel), ⟨by decide, by decide⟩, by decide +kernel⟩
theorem cl_X11_258 : CLK RX11 258 7 := ⟨_, tyX7, rfl, by decide, by decide, rfl, inK_7, tyX7_ok, by decide +kernel, by decide, tb_mem 1284 (by decide +kernel) (by decide +kernel), tb_mem 1285 (by decide +kernel) (by decide +kernel), tb_mem 35 (by decide +kernel) (by decide +kernel)⟩
theorem fp_X8_5_7 : FPT RX8 5 7 .boolean false := ⟨_, rfl, by decide +kernel, rfl, fun h => by cases h⟩
theorem ml_X11_255 : Cond.methodLink RX11 255 yX8_sweepUnused ∈ TBG := tb_mem 1273 (by decide +kernel) (by decide +kernel)
theorem mf_Store_sweepUnused : MFV yX8_sweepUnused cX8_sweepUnused 5 (some .int) 1 := ⟨tb_mem 1276 (by decide +kernel) (by decide +kernel), tb_mem 1274 (by decide +kernel) (by decide +kernel), tb_mem 1275 (by decide +kernel) (by decide +kernel), tb_mem 3 (by decide +kernel) (by decide +kernel), ⟨by decide, by decide⟩, by decide +kernel⟩
theorem fp_X9_9_2 : FPT RX9 9 2 (.array (.object "BlobHarbor$Bytes")) true := ⟨_, rfl, by decide +kernel, rfl, fun _ => rfl⟩
theorem fl_X9_17 : FLK RX9 17 9 0 := ⟨_, tyX9, "BlobHarbor$Upload", rfl, by decide, by decide, by decide, rfl, inK_9, tyX9_ok, nmX9, fun _ _ _ x h => h, Or.inl (tb_mem 1098 (by decide +kernel) (by decide +kernel))⟩
theorem fp_X9_9_0 : FPT RX9 9 0 (.object "BlobHarbor$Region") true := ⟨_, rfl, by decide +kernel, rfl, fun _ => rfl⟩
theorem fl_X9_21 : FLK RX9 21 9 1 := ⟨_, tyX9, "BlobHarbor$Upload", rfl, by decide, by decide, by decide, rfl, inK_9, tyX9_ok, nmX9, fun _ _ _ x h => h, Or.inl (tb_mem 1100 (by decide +kernel) (by decide +kernel))⟩
theorem fp_X9_9_1 : FPT RX9 9 1 .int true := ⟨_, rfl, by decide +kernel, rfl, fun _ => rfl⟩
theorem ml_X9_25 : ∃ h, Cond.methodLinkNest RX9 25 yX0_init h ∈ NST := ⟨"BlobHarbor", ns_mem 1097 (by decide +kernel) (by decide +kernel)⟩
theorem cl_X9_9 : CLK RX9 9 1 := ⟨_, tyX0, rfl, by decide, by decide, rfl, inK_1, tyX0_ok, by decide +kernel, by decide, tb_mem 1095 (by decide +kernel) (by decide +kernel), tb_mem 155 (by decide +kernel) (by decide +kernel), tb_mem 9 (by decide +kernel) (by decide +kernel)⟩
theorem cw_X9_9 : Cond.classLink RX9 9 "BlobHarbor$Bytes" ∈ TBG := tb_mem 1095 (by decide +kernel) (by decide +kernel)
theorem ml_X9_3 : Cond.methodLink RX9 3 objectInit ∈ TBG := tb_mem 1094 (by decide +kernel) (by decide +kernel)
theorem ml_X11_141 : Cond.methodLink RX11 141 yX9_init ∈ TBG := tb_mem 1091 (by decide +kernel) (by decide +kernel)
theorem mf_Upload_init : MFI yX9_init cX9_init 4 2 := ⟨tb_mem 1093 (by decide +kernel) (by decide +kernel), tb_mem 1092 (by decide +kernel) (by decide +kernel), rfl, tb_mem 34 (by decide +kernel) (by decide +kernel), ⟨by decide, by decide⟩, by decide +kernel⟩
theorem cl_X11_139 : CLK RX11 139 9 := ⟨_, tyX9, rfl, by decide, by decide, rfl, inK_9, tyX9_ok, by decide +kernel, by decide, tb_mem 1089 (by decide +kernel) (by decide +kernel), tb_mem 1090 (by decide +kernel) (by decide +kernel), tb_mem 34 (by decide +kernel) (by decide +kernel)⟩
theorem ml_X11_192 : Cond.methodLink RX11 192 yX6_numberAt ∈ TBG := tb_mem 1183 (by decide +kernel) (by decide +kernel)
theorem mf_Region_numberAt : MFV yX6_numberAt cX6_numberAt 6 (some .int) 2 := ⟨tb_mem 1186 (by decide +kernel) (by decide +kernel), tb_mem 1184 (by decide +kernel) (by decide +kernel), tb_mem 1185 (by decide +kernel) (by decide +kernel), tb_mem 2 (by decide +kernel) (by decide +kernel), ⟨by decide, by decide⟩, by decide +kernel⟩
theorem ml_X12_132 : Cond.methodLink RX12 132 yX12_isIn ∈ TBG := tb_mem 1562 (by decide +kernel) (by decide +kernel)
theorem mf_Md_isIn : MFS yX12_isIn cX12_isIn 3 (some .boolean) 3 := ⟨tb_mem 1564 (by decide +kernel) (by decide +kernel), tb_mem 1563 (by decide +kernel) (by decide +kernel), tb_mem 10 (by decide +kernel) (by decide +kernel), ⟨by decide, by decide⟩, by decide +kernel⟩
theorem ml_X12_136 : Cond.methodLink RX12 136 yX12_letters ∈ TBG := tb_mem 1583 (by decide +kernel) (by decide +kernel)
theorem mf_Md_letters : MFS yX12_letters cX12_letters 4 (some .int) 1 := ⟨tb_mem 1585 (by decide +kernel) (by decide +kernel), tb_mem 1584 (by decide +kernel) (by decide +kernel), tb_mem 10 (by decide +kernel) (by decide +kernel), ⟨by decide, by decide⟩, by decide +kernel⟩
theorem inK_13 : ∀ w ∈ u_ws RX12 TX12 47, w ∈ TBG := by
  have h : (u_ws RX12 TX12 47).all (fun w => goodWord w && decide (w ∈ lw_tbl)) = true := by decide +kernel
  intro w hw
  have h1 := List.all_eq_true.mp h w hw
  rw [Bool.and_eq_true] at h1
  exact List.mem_filter.mpr ⟨of_decide_eq_true h1.2, h1.1⟩
theorem fl_X12_68 : FLK RX12 68 13 26 := ⟨_, tyX12, "BlobHarborModel", rfl, by decide, by decide, by decide, rfl, inK_13, tyX12_ok, nmX12, fun _ _ _ x h => h, Or.inl (tb_mem 1438 (by decide +kernel) (by decide +kernel))⟩
theorem ml_X12_219 : Cond.methodLink RX12 219 yX12_endOf ∈ TBG := tb_mem 1590 (by decide +kernel) (by decide +kernel)
theorem mf_Md_endOf : MFV yX12_endOf cX12_endOf 2 (some .int) 1 := ⟨tb_mem 1593 (by decide +kernel) (by decide +kernel), tb_mem 1592 (by decide +kernel) (by decide +kernel), tb_sel (k := 47) 29 (by decide +kernel), tb_mem 10 (by decide +kernel) (by decide +kernel), ⟨by decide, by decide⟩, by decide +kernel⟩
theorem fl_X12_74 : FLK RX12 74 13 28 := ⟨_, tyX12, "BlobHarborModel", rfl, by decide, by decide, by decide, rfl, inK_13, tyX12_ok, nmX12, fun _ _ _ x h => h, Or.inl (tb_mem 1440 (by decide +kernel) (by decide +kernel))⟩
theorem fl_X12_71 : FLK RX12 71 13 27 := ⟨_, tyX12, "BlobHarborModel", rfl, by decide, by decide, by decide, rfl, inK_13, tyX12_ok, nmX12, fun _ _ _ x h => h, Or.inl (tb_mem 1439 (by decide +kernel) (by decide +kernel))⟩
theorem ml_X12_225 : Cond.methodLink RX12 225 yX12_isRegion ∈ TBG := tb_mem 1577 (by decide +kernel) (by decide +kernel)
theorem mf_Md_isRegion : MFS yX12_isRegion cX12_isRegion 1 (some .boolean) 1 := ⟨tb_mem 1579 (by decide +kernel) (by decide +kernel), tb_mem 1578 (by decide +kernel) (by decide +kernel), tb_mem 10 (by decide +kernel) (by decide +kernel), ⟨by decide, by decide⟩, by decide +kernel⟩
theorem ml_X12_228 : Cond.methodLink RX12 228 yX12_isKey ∈ TBG := tb_mem 1580 (by decide +kernel) (by decide +kernel)
theorem mf_Md_isKey : MFS yX12_isKey cX12_isKey 1 (some .boolean) 1 := ⟨tb_mem 1582 (by decide +kernel) (by decide +kernel), tb_mem 1581 (by decide +kernel) (by decide +kernel), tb_mem 10 (by decide +kernel) (by decide +kernel), ⟨by decide, by decide⟩, by decide +kernel⟩
theorem ml_X12_231 : Cond.methodLink RX12 231 yX12_versionAt ∈ TBG := tb_mem 1698 (by decide +kernel) (by decide +kernel)
theorem mf_Md_versionAt : MFV yX12_versionAt cX12_versionAt 5 (some .int) 3 := ⟨tb_mem 1701 (by decide +kernel) (by decide +kernel), tb_mem 1700 (by decide +kernel) (by decide +kernel), tb_sel (k := 47) 51 (by decide +kernel), tb_mem 10 (by decide +kernel) (by decide +kernel), ⟨by decide, by decide⟩, by decide +kernel⟩
theorem fl_X12_128 : FLK RX12 128 13 0 := ⟨_, tyX12, "BlobHarborModel", rfl, by decide, by decide, by decide, rfl, inK_13, tyX12_ok, nmX12, fun _ _ _ x h => h, Or.inl (tb_mem 1412 (by decide +kernel) (by decide +kernel))⟩
theorem fp_X12_13_0 : FPT RX12 13 0 .int false := ⟨_, rfl, by decide +kernel, rfl, fun h => by cases h⟩
theorem fl_X12_22 : FLK RX12 22 13 9 := ⟨_, tyX12, "BlobHarborModel", rfl, by decide, by decide, by decide, rfl, inK_13, tyX12_ok, nmX12, fun _ _ _ x h => h, Or.inl (tb_mem 1421 (by decide +kernel) (by decide +kernel))⟩
theorem ml_X12_262 : Cond.methodLink RX12 262 yX12_isVersion ∈ TBG := tb_mem 1694 (by decide +kernel) (by decide +kernel)
theorem mf_Md_isVersion : MFV yX12_isVersion cX12_isVersion 4 (some .boolean) 3 := ⟨tb_mem 1697 (by decide +kernel) (by decide +kernel), tb_mem 1696 (by decide +kernel) (by decide +kernel), tb_sel (k := 47) 50 (by decide +kernel), tb_mem 10 (by decide +kernel) (by decide +kernel), ⟨by decide, by decide⟩, by decide +kernel⟩
theorem ml_X12_150 : Cond.methodLink RX12 150 yX12_holds ∈ TBG := tb_mem 1565 (by decide +kernel) (by decide +kernel)
theorem mf_Md_holds : MFV yX12_holds cX12_holds 2 (some .boolean) 1 := ⟨tb_mem 1568 (by decide +kernel) (by decide +kernel), tb_mem 1567 (by decide +kernel) (by decide +kernel), tb_sel (k := 47) 27 (by decide +kernel), tb_mem 10 (by decide +kernel) (by decide +kernel), ⟨by decide, by decide⟩, by decide +kernel⟩
theorem fl_X12_89 : FLK RX12 89 13 33 := ⟨_, tyX12, "BlobHarborModel", rfl, by decide, by decide, by decide, rfl, inK_13, tyX12_ok, nmX12, fun _ _ _ x h => h, Or.inl (tb_mem 1445 (by decide +kernel) (by decide +kernel))⟩
theorem fl_X12_80 : FLK RX12 80 13 30 := ⟨_, tyX12, "BlobHarborModel", rfl, by decide, by decide, by decide, rfl, inK_13, tyX12_ok, nmX12, fun _ _ _ x h => h, Or.inl (tb_mem 1442 (by decide +kernel) (by decide +kernel))⟩
theorem fl_X12_77 : FLK RX12 77 13 29 := ⟨_, tyX12, "BlobHarborModel", rfl, by decide, by decide, by decide, rfl, inK_13, tyX12_ok, nmX12, fun _ _ _ x h => h, Or.inl (tb_mem 1441 (by decide +kernel) (by decide +kernel))⟩
theorem fl_X12_83 : FLK RX12 83 13 31 := ⟨_, tyX12, "BlobHarborModel", rfl, by decide, by decide, by decide, rfl, inK_13, tyX12_ok, nmX12, fun _ _ _ x h => h, Or.inl (tb_mem 1443 (by decide +kernel) (by decide +kernel))⟩
theorem ml_X12_250 : Cond.methodLink RX12 250 yX12_isMark ∈ TBG := tb_mem 1594 (by decide +kernel) (by decide +kernel)
theorem mf_Md_isMark : MFV yX12_isMark cX12_isMark 2 (some .boolean) 1 := ⟨tb_mem 1597 (by decide +kernel) (by decide +kernel), tb_mem 1596 (by decide +kernel) (by decide +kernel), tb_sel (k := 47) 30 (by decide +kernel), tb_mem 10 (by decide +kernel) (by decide +kernel), ⟨by decide, by decide⟩, by decide +kernel⟩
theorem ml_X12_140 : Cond.methodLink RX12 140 yX12_letterOf ∈ TBG := tb_mem 1776 (by decide +kernel) (by decide +kernel)
theorem mf_Md_letterOf : MFS yX12_letterOf cX12_letterOf 5 (some .int) 2 := ⟨tb_mem 1778 (by decide +kernel) (by decide +kernel), tb_mem 1777 (by decide +kernel) (by decide +kernel), tb_mem 10 (by decide +kernel) (by decide +kernel), ⟨by decide, by decide⟩, by decide +kernel⟩
theorem fl_X12_222 : FLK RX12 222 13 11 := ⟨_, tyX12, "BlobHarborModel", rfl, by decide, by decide, by decide, rfl, inK_13, tyX12_ok, nmX12, fun _ _ _ x h => h, Or.inl (tb_mem 1423 (by decide +kernel) (by decide +kernel))⟩
theorem fl_X12_86 : FLK RX12 86 13 32 := ⟨_, tyX12, "BlobHarborModel", rfl, by decide, by decide, by decide, rfl, inK_13, tyX12_ok, nmX12, fun _ _ _ x h => h, Or.inl (tb_mem 1444 (by decide +kernel) (by decide +kernel))⟩
theorem fl_X12_92 : FLK RX12 92 13 34 := ⟨_, tyX12, "BlobHarborModel", rfl, by decide, by decide, by decide, rfl, inK_13, tyX12_ok, nmX12, fun _ _ _ x h => h, Or.inl (tb_mem 1446 (by decide +kernel) (by decide +kernel))⟩
theorem ml_X12_206 : Cond.methodLink RX12 206 yX12_moves ∈ TBG := tb_mem 1642 (by decide +kernel) (by decide +kernel)
theorem mf_Md_moves : MFV yX12_moves cX12_moves 4 none 2 := ⟨tb_mem 1645 (by decide +kernel) (by decide +kernel), tb_mem 1644 (by decide +kernel) (by decide +kernel), tb_sel (k := 47) 42 (by decide +kernel), tb_mem 10 (by decide +kernel) (by decide +kernel), ⟨by decide, by decide⟩, by decide +kernel⟩
theorem fl_X12_50 : FLK RX12 50 13 20 := ⟨_, tyX12, "BlobHarborModel", rfl, by decide, by decide, by decide, rfl, inK_13, tyX12_ok, nmX12, fun _ _ _ x h => h, Or.inl (tb_mem 1432 (by decide +kernel) (by decide +kernel))⟩
theorem fl_X12_31 : FLK RX12 31 13 14 := ⟨_, tyX12, "BlobHarborModel", rfl, by decide, by decide, by decide, rfl, inK_13, tyX12_ok, nmX12, fun _ _ _ x h => h, Or.inl (tb_mem 1426 (by decide +kernel) (by decide +kernel))⟩
theorem ml_X12_301 : Cond.methodLink RX12 301 yX12_begins ∈ TBG := tb_mem 1783 (by decide +kernel) (by decide +kernel)
theorem mf_Md_begins : MFS yX12_begins cX12_begins 4 (some .boolean) 2 := ⟨tb_mem 1785 (by decide +kernel) (by decide +kernel), tb_mem 1784 (by decide +kernel) (by decide +kernel), tb_mem 10 (by decide +kernel) (by decide +kernel), ⟨by decide, by decide⟩, by decide +kernel⟩
theorem fl_X12_34 : FLK RX12 34 13 15 := ⟨_, tyX12, "BlobHarborModel", rfl, by decide, by decide, by decide, rfl, inK_13, tyX12_ok, nmX12, fun _ _ _ x h => h, Or.inl (tb_mem 1427 (by decide +kernel) (by decide +kernel))⟩
theorem fl_X12_37 : FLK RX12 37 13 16 := ⟨_, tyX12, "BlobHarborModel", rfl, by decide, by decide, by decide, rfl, inK_13, tyX12_ok, nmX12, fun _ _ _ x h => h, Or.inl (tb_mem 1428 (by decide +kernel) (by decide +kernel))⟩
theorem ml_X12_247 : Cond.methodLink RX12 247 yX12_latest ∈ TBG := tb_mem 1586 (by decide +kernel) (by decide +kernel)
theorem mf_Md_latest : MFV yX12_latest cX12_latest 5 (some .int) 2 := ⟨tb_mem 1589 (by decide +kernel) (by decide +kernel), tb_mem 1588 (by decide +kernel) (by decide +kernel), tb_sel (k := 47) 28 (by decide +kernel), tb_mem 10 (by decide +kernel) (by decide +kernel), ⟨by decide, by decide⟩, by decide +kernel⟩
theorem ml_X12_265 : Cond.methodLink RX12 265 yX12_isLocked ∈ TBG := tb_mem 1702 (by decide +kernel) (by decide +kernel)
theorem mf_Md_isLocked : MFV yX12_isLocked cX12_isLocked 2 (some .boolean) 1 := ⟨tb_mem 1705 (by decide +kernel) (by decide +kernel), tb_mem 1704 (by decide +kernel) (by decide +kernel), tb_sel (k := 47) 52 (by decide +kernel), tb_mem 10 (by decide +kernel) (by decide +kernel), ⟨by decide, by decide⟩, by decide +kernel⟩
theorem ml_X12_268 : Cond.methodLink RX12 268 yX12_goes ∈ TBG := tb_mem 1706 (by decide +kernel) (by decide +kernel)
theorem mf_Md_goes : MFV yX12_goes cX12_goes 4 none 2 := ⟨tb_mem 1709 (by decide +kernel) (by decide +kernel), tb_mem 1708 (by decide +kernel) (by decide +kernel), tb_sel (k := 47) 53 (by decide +kernel), tb_mem 10 (by decide +kernel) (by decide +kernel), ⟨by decide, by decide⟩, by decide +kernel⟩
theorem fl_X12_59 : FLK RX12 59 13 23 := ⟨_, tyX12, "BlobHarborModel", rfl, by decide, by decide, by decide, rfl, inK_13, tyX12_ok, nmX12, fun _ _ _ x h => h, Or.inl (tb_mem 1435 (by decide +kernel) (by decide +kernel))⟩
theorem fl_X12_65 : FLK RX12 65 13 25 := ⟨_, tyX12, "BlobHarborModel", rfl, by decide, by decide, by decide, rfl, inK_13, tyX12_ok, nmX12, fun _ _ _ x h => h, Or.inl (tb_mem 1437 (by decide +kernel) (by decide +kernel))⟩
theorem ml_X12_196 : Cond.methodLink RX12 196 yX12_isGood ∈ TBG := tb_mem 1654 (by decide +kernel) (by decide +kernel)
theorem mf_Md_isGood : MFV yX12_isGood cX12_isGood 3 (some .boolean) 2 := ⟨tb_mem 1657 (by decide +kernel) (by decide +kernel), tb_mem 1656 (by decide +kernel) (by decide +kernel), tb_sel (k := 47) 45 (by decide +kernel), tb_mem 10 (by decide +kernel) (by decide +kernel), ⟨by decide, by decide⟩, by decide +kernel⟩
theorem ml_X12_144 : Cond.methodLink RX12 144 yX12_times ∈ TBG := tb_mem 1683 (by decide +kernel) (by decide +kernel)
theorem mf_Md_times : MFS yX12_times cX12_times 4 (some .int) 2 := ⟨tb_mem 1685 (by decide +kernel) (by decide +kernel), tb_mem 1684 (by decide +kernel) (by decide +kernel), tb_mem 10 (by decide +kernel) (by decide +kernel), ⟨by decide, by decide⟩, by decide +kernel⟩
theorem fl_X12_125 : FLK RX12 125 13 46 := ⟨_, tyX12, "BlobHarborModel", rfl, by decide, by decide, by decide, rfl, inK_13, tyX12_ok, nmX12, fun _ _ _ x h => h, Or.inl (tb_mem 1458 (by decide +kernel) (by decide +kernel))⟩
theorem ml_X12_203 : Cond.methodLink RX12 203 yX12_inverse ∈ TBG := tb_mem 1738 (by decide +kernel) (by decide +kernel)
theorem mf_Md_inverse : MFS yX12_inverse cX12_inverse 3 (some .int) 1 := ⟨tb_mem 1740 (by decide +kernel) (by decide +kernel), tb_mem 1739 (by decide +kernel) (by decide +kernel), tb_mem 10 (by decide +kernel) (by decide +kernel), ⟨by decide, by decide⟩, by decide +kernel⟩
theorem ml_X12_199 : Cond.methodLink RX12 199 yX12_turns ∈ TBG := tb_mem 1734 (by decide +kernel) (by decide +kernel)
theorem mf_Md_turns : MFV yX12_turns cX12_turns 7 none 1 := ⟨tb_mem 1737 (by decide +kernel) (by decide +kernel), tb_mem 1736 (by decide +kernel) (by decide +kernel), tb_sel (k := 47) 58 (by decide +kernel), tb_mem 10 (by decide +kernel) (by decide +kernel), ⟨by decide, by decide⟩, by decide +kernel⟩
theorem fl_X12_62 : FLK RX12 62 13 24 := ⟨_, tyX12, "BlobHarborModel", rfl, by decide, by decide, by decide, rfl, inK_13, tyX12_ok, nmX12, fun _ _ _ x h => h, Or.inl (tb_mem 1436 (by decide +kernel) (by decide +kernel))⟩
theorem ml_X12_179 : Cond.methodLink RX12 179 yX12_weight ∈ TBG := tb_mem 1676 (by decide +kernel) (by decide +kernel)
theorem mf_Md_weight : MFS yX12_weight cX12_weight 2 (some .int) 2 := ⟨tb_mem 1678 (by decide +kernel) (by decide +kernel), tb_mem 1677 (by decide +kernel) (by decide +kernel), tb_mem 10 (by decide +kernel) (by decide +kernel), ⟨by decide, by decide⟩, by decide +kernel⟩
theorem fl_X12_53 : FLK RX12 53 13 21 := ⟨_, tyX12, "BlobHarborModel", rfl, by decide, by decide, by decide, rfl, inK_13, tyX12_ok, nmX12, fun _ _ _ x h => h, Or.inl (tb_mem 1433 (by decide +kernel) (by decide +kernel))⟩
theorem ml_X12_213 : Cond.methodLink RX12 213 yX12_goodMany ∈ TBG := tb_mem 1650 (by decide +kernel) (by decide +kernel)
theorem mf_Md_goodMany : MFV yX12_goodMany cX12_goodMany 4 (some .int) 1 := ⟨tb_mem 1653 (by decide +kernel) (by decide +kernel), tb_mem 1652 (by decide +kernel) (by decide +kernel), tb_sel (k := 47) 44 (by decide +kernel), tb_mem 10 (by decide +kernel) (by decide +kernel), ⟨by decide, by decide⟩, by decide +kernel⟩
theorem ml_X12_274 : Cond.methodLink RX12 274 yX12_readAt ∈ TBG := tb_mem 1730 (by decide +kernel) (by decide +kernel)
theorem mf_Md_readAt : MFV yX12_readAt cX12_readAt 6 (some .int) 2 := ⟨tb_mem 1733 (by decide +kernel) (by decide +kernel), tb_mem 1732 (by decide +kernel) (by decide +kernel), tb_sel (k := 47) 57 (by decide +kernel), tb_mem 10 (by decide +kernel) (by decide +kernel), ⟨by decide, by decide⟩, by decide +kernel⟩
theorem fl_X12_44 : FLK RX12 44 13 18 := ⟨_, tyX12, "BlobHarborModel", rfl, by decide, by decide, by decide, rfl, inK_13, tyX12_ok, nmX12, fun _ _ _ x h => h, Or.inl (tb_mem 1430 (by decide +kernel) (by decide +kernel))⟩
theorem fl_X12_47 : FLK RX12 47 13 19 := ⟨_, tyX12, "BlobHarborModel", rfl, by decide, by decide, by decide, rfl, inK_13, tyX12_ok, nmX12, fun _ _ _ x h => h, Or.inl (tb_mem 1431 (by decide +kernel) (by decide +kernel))⟩
theorem ml_X12_280 : Cond.methodLink RX12 280 yX12_byteOf ∈ TBG := tb_mem 1726 (by decide +kernel) (by decide +kernel)
theorem mf_Md_byteOf : MFV yX12_byteOf cX12_byteOf 7 (some .int) 3 := ⟨tb_mem 1729 (by decide +kernel) (by decide +kernel), tb_mem 1728 (by decide +kernel) (by decide +kernel), tb_sel (k := 47) 56 (by decide +kernel), tb_mem 10 (by decide +kernel) (by decide +kernel), ⟨by decide, by decide⟩, by decide +kernel⟩
theorem fl_X12_25 : FLK RX12 25 13 10 := ⟨_, tyX12, "BlobHarborModel", rfl, by decide, by decide, by decide, rfl, inK_13, tyX12_ok, nmX12, fun _ _ _ x h => h, Or.inl (tb_mem 1422 (by decide +kernel) (by decide +kernel))⟩
theorem ml_X12_298 : Cond.methodLink RX12 298 yX12_isObject ∈ TBG := tb_mem 1779 (by decide +kernel) (by decide +kernel)
theorem mf_Md_isObject : MFV yX12_isObject cX12_isObject 3 (some .boolean) 2 := ⟨tb_mem 1782 (by decide +kernel) (by decide +kernel), tb_mem 1781 (by decide +kernel) (by decide +kernel), tb_sel (k := 47) 62 (by decide +kernel), tb_mem 10 (by decide +kernel) (by decide +kernel), ⟨by decide, by decide⟩, by decide +kernel⟩
theorem ml_X12_327 : Cond.methodLink RX12 327 yX12_areSameBytes ∈ TBG := tb_mem 1874 (by decide +kernel) (by decide +kernel)
theorem mf_Md_areSameBytes : MFV yX12_areSameBytes cX12_areSameBytes 5 (some .boolean) 2 := ⟨tb_mem 1877 (by decide +kernel) (by decide +kernel), tb_mem 1876 (by decide +kernel) (by decide +kernel), tb_sel (k := 47) 71 (by decide +kernel), tb_mem 10 (by decide +kernel) (by decide +kernel), ⟨by decide, by decide⟩, by decide +kernel⟩
theorem ml_X12_330 : Cond.methodLink RX12 330 yX12_isWithin ∈ TBG := tb_mem 1870 (by decide +kernel) (by decide +kernel)
theorem mf_Md_isWithin : MFV yX12_isWithin cX12_isWithin 5 (some .boolean) 1 := ⟨tb_mem 1873 (by decide +kernel) (by decide +kernel), tb_mem 1872 (by decide +kernel) (by decide +kernel), tb_sel (k := 47) 70 (by decide +kernel), tb_mem 10 (by decide +kernel) (by decide +kernel), ⟨by decide, by decide⟩, by decide +kernel⟩
theorem fl_X12_154 : FLK RX12 154 13 5 := ⟨_, tyX12, "BlobHarborModel", rfl, by decide, by decide, by decide, rfl, inK_13, tyX12_ok, nmX12, fun _ _ _ x h => h, Or.inl (tb_mem 1417 (by decide +kernel) (by decide +kernel))⟩
theorem fp_X12_13_5 : FPT RX12 13 5 .int false := ⟨_, rfl, by decide +kernel, rfl, fun h => by cases h⟩
theorem fl_X12_157 : FLK RX12 157 13 3 := ⟨_, tyX12, "BlobHarborModel", rfl, by decide, by decide, by decide, rfl, inK_13, tyX12_ok, nmX12, fun _ _ _ x h => h, Or.inl (tb_mem 1415 (by decide +kernel) (by decide +kernel))⟩
theorem fl_X12_16 : FLK RX12 16 13 6 := ⟨_, tyX12, "BlobHarborModel", rfl, by decide, by decide, by decide, rfl, inK_13, tyX12_ok, nmX12, fun _ _ _ x h => h, Or.inl (tb_mem 1418 (by decide +kernel) (by decide +kernel))⟩
theorem fl_X12_19 : FLK RX12 19 13 7 := ⟨_, tyX12, "BlobHarborModel", rfl, by decide, by decide, by decide, rfl, inK_13, tyX12_ok, nmX12, fun _ _ _ x h => h, Or.inl (tb_mem 1419 (by decide +kernel) (by decide +kernel))⟩
theorem fl_X12_13 : FLK RX12 13 13 4 := ⟨_, tyX12, "BlobHarborModel", rfl, by decide, by decide, by decide, rfl, inK_13, tyX12_ok, nmX12, fun _ _ _ x h => h, Or.inl (tb_mem 1416 (by decide +kernel) (by decide +kernel))⟩
theorem fl_X12_147 : FLK RX12 147 13 1 := ⟨_, tyX12, "BlobHarborModel", rfl, by decide, by decide, by decide, rfl, inK_13, tyX12_ok, nmX12, fun _ _ _ x h => h, Or.inl (tb_mem 1413 (by decide +kernel) (by decide +kernel))⟩
theorem fp_X12_13_3 : FPT RX12 13 3 .int false := ⟨_, rfl, by decide +kernel, rfl, fun h => by cases h⟩
theorem ml_X12_160 : Cond.methodLink RX12 160 yX12_cuts ∈ TBG := tb_mem 1602 (by decide +kernel) (by decide +kernel)
theorem mf_Md_cuts : MFV yX12_cuts cX12_cuts 5 none 0 := ⟨tb_mem 1605 (by decide +kernel) (by decide +kernel), tb_mem 1604 (by decide +kernel) (by decide +kernel), tb_sel (k := 47) 32 (by decide +kernel), tb_mem 10 (by decide +kernel) (by decide +kernel), ⟨by decide, by decide⟩, by decide +kernel⟩
theorem fl_X12_7 : FLK RX12 7 13 2 := ⟨_, tyX12, "BlobHarborModel", rfl, by decide, by decide, by decide, rfl, inK_13, tyX12_ok, nmX12, fun _ _ _ x h => h, Or.inl (tb_mem 1414 (by decide +kernel) (by decide +kernel))⟩
theorem fl_X12_98 : FLK RX12 98 13 36 := ⟨_, tyX12, "BlobHarborModel", rfl, by decide, by decide, by decide, rfl, inK_13, tyX12_ok, nmX12, fun _ _ _ x h => h, Or.inl (tb_mem 1448 (by decide +kernel) (by decide +kernel))⟩
theorem fp_X12_13_1 : FPT RX12 13 1 .int false := ⟨_, rfl, by decide +kernel, rfl, fun h => by cases h⟩
theorem ml_X12_176 : Cond.methodLink RX12 176 yX12_weigh ∈ TBG := tb_mem 1665 (by decide +kernel) (by decide +kernel)
theorem mf_Md_weigh : MFS yX12_weigh cX12_weigh 2 (some .int) 2 := ⟨tb_mem 1667 (by decide +kernel) (by decide +kernel), tb_mem 1666 (by decide +kernel) (by decide +kernel), tb_mem 10 (by decide +kernel) (by decide +kernel), ⟨by decide, by decide⟩, by decide +kernel⟩
theorem fl_X12_56 : FLK RX12 56 13 22 := ⟨_, tyX12, "BlobHarborModel", rfl, by decide, by decide, by decide, rfl, inK_13, tyX12_ok, nmX12, fun _ _ _ x h => h, Or.inl (tb_mem 1434 (by decide +kernel) (by decide +kernel))⟩
theorem ml_X12_182 : Cond.methodLink RX12 182 yX12_dataAt ∈ TBG := tb_mem 1679 (by decide +kernel) (by decide +kernel)
theorem mf_Md_dataAt : MFV yX12_dataAt cX12_dataAt 5 (some .int) 3 := ⟨tb_mem 1682 (by decide +kernel) (by decide +kernel), tb_mem 1681 (by decide +kernel) (by decide +kernel), tb_sel (k := 47) 49 (by decide +kernel), tb_mem 10 (by decide +kernel) (by decide +kernel), ⟨by decide, by decide⟩, by decide +kernel⟩
theorem ml_X12_186 : Cond.methodLink RX12 186 yX12_made ∈ TBG := tb_mem 1672 (by decide +kernel) (by decide +kernel)
theorem mf_Md_made : MFV yX12_made cX12_made 6 (some .int) 3 := ⟨tb_mem 1675 (by decide +kernel) (by decide +kernel), tb_mem 1674 (by decide +kernel) (by decide +kernel), tb_sel (k := 47) 48 (by decide +kernel), tb_mem 10 (by decide +kernel) (by decide +kernel), ⟨by decide, by decide⟩, by decide +kernel⟩
theorem ml_X12_189 : Cond.methodLink RX12 189 yX12_ordered ∈ TBG := tb_mem 1662 (by decide +kernel) (by decide +kernel)
theorem mf_Md_ordered : MFS yX12_ordered cX12_ordered 7 (some .int) 2 := ⟨tb_mem 1664 (by decide +kernel) (by decide +kernel), tb_mem 1663 (by decide +kernel) (by decide +kernel), tb_mem 10 (by decide +kernel) (by decide +kernel), ⟨by decide, by decide⟩, by decide +kernel⟩
theorem fl_X12_40 : FLK RX12 40 13 17 := ⟨_, tyX12, "BlobHarborModel", rfl, by decide, by decide, by decide, rfl, inK_13, tyX12_ok, nmX12, fun _ _ _ x h => h, Or.inl (tb_mem 1429 (by decide +kernel) (by decide +kernel))⟩
theorem ml_X12_192 : Cond.methodLink RX12 192 yX12_lays ∈ TBG := tb_mem 1668 (by decide +kernel) (by decide +kernel)
theorem mf_Md_lays : MFV yX12_lays cX12_lays 5 none 3 := ⟨tb_mem 1671 (by decide +kernel) (by decide +kernel), tb_mem 1670 (by decide +kernel) (by decide +kernel), tb_sel (k := 47) 47 (by decide +kernel), tb_mem 10 (by decide +kernel) (by decide +kernel), ⟨by decide, by decide⟩, by decide +kernel⟩
theorem fl_X12_28 : FLK RX12 28 13 12 := ⟨_, tyX12, "BlobHarborModel", rfl, by decide, by decide, by decide, rfl, inK_13, tyX12_ok, nmX12, fun _ _ _ x h => h, Or.inl (tb_mem 1424 (by decide +kernel) (by decide +kernel))⟩
theorem fl_X12_234 : FLK RX12 234 13 8 := ⟨_, tyX12, "BlobHarborModel", rfl, by decide, by decide, by decide, rfl, inK_13, tyX12_ok, nmX12, fun _ _ _ x h => h, Or.inl (tb_mem 1420 (by decide +kernel) (by decide +kernel))⟩
theorem fp_X12_13_8 : FPT RX12 13 8 .int false := ⟨_, rfl, by decide +kernel, rfl, fun h => by cases h⟩
theorem fl_X12_104 : FLK RX12 104 13 38 := ⟨_, tyX12, "BlobHarborModel", rfl, by decide, by decide, by decide, rfl, inK_13, tyX12_ok, nmX12, fun _ _ _ x h => h, Or.inl (tb_mem 1450 (by decide +kernel) (by decide +kernel))⟩
theorem fl_X12_107 : FLK RX12 107 13 39 := ⟨_, tyX12, "BlobHarborModel", rfl, by decide, by decide, by decide, rfl, inK_13, tyX12_ok, nmX12, fun _ _ _ x h => h, Or.inl (tb_mem 1451 (by decide +kernel) (by decide +kernel))⟩
theorem fl_X12_101 : FLK RX12 101 13 37 := ⟨_, tyX12, "BlobHarborModel", rfl, by decide, by decide, by decide, rfl, inK_13, tyX12_ok, nmX12, fun _ _ _ x h => h, Or.inl (tb_mem 1449 (by decide +kernel) (by decide +kernel))⟩
theorem ml_X12_163 : Cond.methodLink RX12 163 yX12_found ∈ TBG := tb_mem 1622 (by decide +kernel) (by decide +kernel)
theorem mf_Md_found : MFV yX12_found cX12_found 7 (some .int) 2 := ⟨tb_mem 1625 (by decide +kernel) (by decide +kernel), tb_mem 1624 (by decide +kernel) (by decide +kernel), tb_sel (k := 47) 37 (by decide +kernel), tb_mem 10 (by decide +kernel) (by decide +kernel), ⟨by decide, by decide⟩, by decide +kernel⟩
theorem ml_X12_216 : Cond.methodLink RX12 216 yX12_comes ∈ TBG := tb_mem 1658 (by decide +kernel) (by decide +kernel)
theorem mf_Md_comes : MFV yX12_comes cX12_comes 7 none 2 := ⟨tb_mem 1661 (by decide +kernel) (by decide +kernel), tb_mem 1660 (by decide +kernel) (by decide +kernel), tb_sel (k := 47) 46 (by decide +kernel), tb_mem 10 (by decide +kernel) (by decide +kernel), ⟨by decide, by decide⟩, by decide +kernel⟩
theorem fl_X12_95 : FLK RX12 95 13 35 := ⟨_, tyX12, "BlobHarborModel", rfl, by decide, by decide, by decide, rfl, inK_13, tyX12_ok, nmX12, fun _ _ _ x h => h, Or.inl (tb_mem 1447 (by decide +kernel) (by decide +kernel))⟩
theorem ml_X12_210 : Cond.methodLink RX12 210 yX12_stores ∈ TBG := tb_mem 1646 (by decide +kernel) (by decide +kernel)
theorem mf_Md_stores : MFV yX12_stores cX12_stores 7 (some .int) 2 := ⟨tb_mem 1649 (by decide +kernel) (by decide +kernel), tb_mem 1648 (by decide +kernel) (by decide +kernel), tb_sel (k := 47) 43 (by decide +kernel), tb_mem 10 (by decide +kernel) (by decide +kernel), ⟨by decide, by decide⟩, by decide +kernel⟩
theorem ml_X12_237 : Cond.methodLink RX12 237 yX12_numbers ∈ TBG := tb_mem 1634 (by decide +kernel) (by decide +kernel)
theorem mf_Md_numbers : MFV yX12_numbers cX12_numbers 5 (some .int) 3 := ⟨tb_mem 1637 (by decide +kernel) (by decide +kernel), tb_mem 1636 (by decide +kernel) (by decide +kernel), tb_sel (k := 47) 40 (by decide +kernel), tb_mem 10 (by decide +kernel) (by decide +kernel), ⟨by decide, by decide⟩, by decide +kernel⟩
theorem ml_X12_240 : Cond.methodLink RX12 240 yX12_enters ∈ TBG := tb_mem 1638 (by decide +kernel) (by decide +kernel)
theorem mf_Md_enters : MFV yX12_enters cX12_enters 6 none 3 := ⟨tb_mem 1641 (by decide +kernel) (by decide +kernel), tb_mem 1640 (by decide +kernel) (by decide +kernel), tb_sel (k := 47) 41 (by decide +kernel), tb_mem 10 (by decide +kernel) (by decide +kernel), ⟨by decide, by decide⟩, by decide +kernel⟩
theorem ml_X12_271 : Cond.methodLink RX12 271 yX12_manyOf ∈ TBG := tb_mem 1710 (by decide +kernel) (by decide +kernel)
theorem mf_Md_manyOf : MFV yX12_manyOf cX12_manyOf 5 (some .int) 2 := ⟨tb_mem 1713 (by decide +kernel) (by decide +kernel), tb_mem 1712 (by decide +kernel) (by decide +kernel), tb_sel (k := 47) 54 (by decide +kernel), tb_mem 10 (by decide +kernel) (by decide +kernel), ⟨by decide, by decide⟩, by decide +kernel⟩
theorem fl_X12_283 : FLK RX12 283 13 40 := ⟨_, tyX12, "BlobHarborModel", rfl, by decide, by decide, by decide, rfl, inK_13, tyX12_ok, nmX12, fun _ _ _ x h => h, Or.inl (tb_mem 1452 (by decide +kernel) (by decide +kernel))⟩
theorem fl_X12_116 : FLK RX12 116 13 43 := ⟨_, tyX12, "BlobHarborModel", rfl, by decide, by decide, by decide, rfl, inK_13, tyX12_ok, nmX12, fun _ _ _ x h => h, Or.inl (tb_mem 1455 (by decide +kernel) (by decide +kernel))⟩
theorem fl_X12_119 : FLK RX12 119 13 44 := ⟨_, tyX12, "BlobHarborModel", rfl, by decide, by decide, by decide, rfl, inK_13, tyX12_ok, nmX12, fun _ _ _ x h => h, Or.inl (tb_mem 1456 (by decide +kernel) (by decide +kernel))⟩
theorem fl_X12_122 : FLK RX12 122 13 45 := ⟨_, tyX12, "BlobHarborModel", rfl, by decide, by decide, by decide, rfl, inK_13, tyX12_ok, nmX12, fun _ _ _ x h => h, Or.inl (tb_mem 1457 (by decide +kernel) (by decide +kernel))⟩
theorem ml_X12_166 : Cond.methodLink RX12 166 yX12_isSame ∈ TBG := tb_mem 1626 (by decide +kernel) (by decide +kernel)
theorem mf_Md_isSame : MFV yX12_isSame cX12_isSame 5 (some .boolean) 2 := ⟨tb_mem 1629 (by decide +kernel) (by decide +kernel), tb_mem 1628 (by decide +kernel) (by decide +kernel), tb_sel (k := 47) 38 (by decide +kernel), tb_mem 10 (by decide +kernel) (by decide +kernel), ⟨by decide, by decide⟩, by decide +kernel⟩
theorem ml_X12_170 : Cond.methodLink RX12 170 yX12_upMany ∈ TBG := tb_mem 1614 (by decide +kernel) (by decide +kernel)
theorem mf_Md_upMany : MFV yX12_upMany cX12_upMany 4 (some .int) 1 := ⟨tb_mem 1617 (by decide +kernel) (by decide +kernel), tb_mem 1616 (by decide +kernel) (by decide +kernel), tb_sel (k := 47) 35 (by decide +kernel), tb_mem 10 (by decide +kernel) (by decide +kernel), ⟨by decide, by decide⟩, by decide +kernel⟩
theorem ml_X12_173 : Cond.methodLink RX12 173 yX12_newMany ∈ TBG := tb_mem 1618 (by decide +kernel) (by decide +kernel)
theorem mf_Md_newMany : MFV yX12_newMany cX12_newMany 6 (some .int) 1 := ⟨tb_mem 1621 (by decide +kernel) (by decide +kernel), tb_mem 1620 (by decide +kernel) (by decide +kernel), tb_sel (k := 47) 36 (by decide +kernel), tb_mem 10 (by decide +kernel) (by decide +kernel), ⟨by decide, by decide⟩, by decide +kernel⟩
theorem ml_X12_244 : Cond.methodLink RX12 244 yX12_hasRoom ∈ TBG := tb_mem 1610 (by decide +kernel) (by decide +kernel)
theorem mf_Md_hasRoom : MFV yX12_hasRoom cX12_hasRoom 2 (some .boolean) 1 := ⟨tb_mem 1613 (by decide +kernel) (by decide +kernel), tb_mem 1612 (by decide +kernel) (by decide +kernel), tb_sel (k := 47) 34 (by decide +kernel), tb_mem 10 (by decide +kernel) (by decide +kernel), ⟨by decide, by decide⟩, by decide +kernel⟩
theorem ml_X12_286 : Cond.methodLink RX12 286 yX12_isUpload ∈ TBG := tb_mem 1753 (by decide +kernel) (by decide +kernel)
theorem mf_Md_isUpload : MFV yX12_isUpload cX12_isUpload 2 (some .boolean) 1 := ⟨tb_mem 1756 (by decide +kernel) (by decide +kernel), tb_mem 1755 (by decide +kernel) (by decide +kernel), tb_sel (k := 47) 59 (by decide +kernel), tb_mem 10 (by decide +kernel) (by decide +kernel), ⟨by decide, by decide⟩, by decide +kernel⟩
theorem fl_X12_110 : FLK RX12 110 13 41 := ⟨_, tyX12, "BlobHarborModel", rfl, by decide, by decide, by decide, rfl, inK_13, tyX12_ok, nmX12, fun _ _ _ x h => h, Or.inl (tb_mem 1453 (by decide +kernel) (by decide +kernel))⟩
theorem fl_X12_113 : FLK RX12 113 13 42 := ⟨_, tyX12, "BlobHarborModel", rfl, by decide, by decide, by decide, rfl, inK_13, tyX12_ok, nmX12, fun _ _ _ x h => h, Or.inl (tb_mem 1454 (by decide +kernel) (by decide +kernel))⟩
theorem ml_X12_259 : Cond.methodLink RX12 259 yX12_puts ∈ TBG := tb_mem 1630 (by decide +kernel) (by decide +kernel)
theorem mf_Md_puts : MFV yX12_puts cX12_puts 4 (some .int) 2 := ⟨tb_mem 1633 (by decide +kernel) (by decide +kernel), tb_mem 1632 (by decide +kernel) (by decide +kernel), tb_sel (k := 47) 39 (by decide +kernel), tb_mem 10 (by decide +kernel) (by decide +kernel), ⟨by decide, by decide⟩, by decide +kernel⟩
theorem ml_X12_256 : Cond.methodLink RX12 256 yX12_isFull ∈ TBG := tb_mem 1606 (by decide +kernel) (by decide +kernel)
theorem mf_Md_isFull : MFV yX12_isFull cX12_isFull 2 (some .boolean) 1 := ⟨tb_mem 1609 (by decide +kernel) (by decide +kernel), tb_mem 1608 (by decide +kernel) (by decide +kernel), tb_sel (k := 47) 33 (by decide +kernel), tb_mem 10 (by decide +kernel) (by decide +kernel), ⟨by decide, by decide⟩, by decide +kernel⟩
theorem ml_X12_292 : Cond.methodLink RX12 292 yX12_joins ∈ TBG := tb_mem 1765 (by decide +kernel) (by decide +kernel)
theorem mf_Md_joins : MFV yX12_joins cX12_joins 4 none 1 := ⟨tb_mem 1768 (by decide +kernel) (by decide +kernel), tb_mem 1767 (by decide +kernel) (by decide +kernel), tb_sel (k := 47) 61 (by decide +kernel), tb_mem 10 (by decide +kernel) (by decide +kernel), ⟨by decide, by decide⟩, by decide +kernel⟩
theorem ml_X12_321 : Cond.methodLink RX12 321 yX12_takes ∈ TBG := tb_mem 1858 (by decide +kernel) (by decide +kernel)
theorem mf_Md_takes : MFV yX12_takes cX12_takes 3 none 1 := ⟨tb_mem 1861 (by decide +kernel) (by decide +kernel), tb_mem 1860 (by decide +kernel) (by decide +kernel), tb_sel (k := 47) 69 (by decide +kernel), tb_mem 10 (by decide +kernel) (by decide +kernel), ⟨by decide, by decide⟩, by decide +kernel⟩
theorem ml_X12_324 : Cond.methodLink RX12 324 yX12_follows ∈ TBG := tb_mem 1854 (by decide +kernel) (by decide +kernel)
theorem mf_Md_follows : MFV yX12_follows cX12_follows 7 (some .boolean) 1 := ⟨tb_mem 1857 (by decide +kernel) (by decide +kernel), tb_mem 1856 (by decide +kernel) (by decide +kernel), tb_sel (k := 47) 68 (by decide +kernel), tb_mem 10 (by decide +kernel) (by decide +kernel), ⟨by decide, by decide⟩, by decide +kernel⟩
theorem ml_X12_295 : Cond.methodLink RX12 295 yX12_asWord ∈ TBG := tb_mem 1773 (by decide +kernel) (by decide +kernel)
theorem mf_Md_asWord : MFS yX12_asWord cX12_asWord 1 (some .int) 1 := ⟨tb_mem 1775 (by decide +kernel) (by decide +kernel), tb_mem 1774 (by decide +kernel) (by decide +kernel), tb_mem 10 (by decide +kernel) (by decide +kernel), ⟨by decide, by decide⟩, by decide +kernel⟩
theorem ml_X12_306 : Cond.methodLink RX12 306 yX12_freeNode ∈ TBG := tb_mem 1826 (by decide +kernel) (by decide +kernel)
theorem mf_Md_freeNode : MFV yX12_freeNode cX12_freeNode 8 (some .int) 2 := ⟨tb_mem 1829 (by decide +kernel) (by decide +kernel), tb_mem 1828 (by decide +kernel) (by decide +kernel), tb_sel (k := 47) 66 (by decide +kernel), tb_mem 10 (by decide +kernel) (by decide +kernel), ⟨by decide, by decide⟩, by decide +kernel⟩
theorem ml_X12_309 : Cond.methodLink RX12 309 yX12_mendable ∈ TBG := tb_mem 1822 (by decide +kernel) (by decide +kernel)
theorem mf_Md_mendable : MFV yX12_mendable cX12_mendable 6 (some .int) 2 := ⟨tb_mem 1825 (by decide +kernel) (by decide +kernel), tb_mem 1824 (by decide +kernel) (by decide +kernel), tb_sel (k := 47) 65 (by decide +kernel), tb_mem 10 (by decide +kernel) (by decide +kernel), ⟨by decide, by decide⟩, by decide +kernel⟩
theorem ml_X12_312 : Cond.methodLink RX12 312 yX12_mends ∈ TBG := tb_mem 1818 (by decide +kernel) (by decide +kernel)
theorem mf_Md_mends : MFV yX12_mends cX12_mends 7 (some .boolean) 1 := ⟨tb_mem 1821 (by decide +kernel) (by decide +kernel), tb_mem 1820 (by decide +kernel) (by decide +kernel), tb_sel (k := 47) 64 (by decide +kernel), tb_mem 10 (by decide +kernel) (by decide +kernel), ⟨by decide, by decide⟩, by decide +kernel⟩
theorem ml_X12_303 : Cond.methodLink RX12 303 yX12_isPart ∈ TBG := tb_mem 1802 (by decide +kernel) (by decide +kernel)
theorem mf_Md_isPart : MFV yX12_isPart cX12_isPart 3 (some .boolean) 2 := ⟨tb_mem 1805 (by decide +kernel) (by decide +kernel), tb_mem 1804 (by decide +kernel) (by decide +kernel), tb_sel (k := 47) 63 (by decide +kernel), tb_mem 10 (by decide +kernel) (by decide +kernel), ⟨by decide, by decide⟩, by decide +kernel⟩
theorem fp_X12_13_11 : FPT RX12 13 11 .int false := ⟨_, rfl, by decide +kernel, rfl, fun h => by cases h⟩
theorem fl_X12_315 : FLK RX12 315 13 13 := ⟨_, tyX12, "BlobHarborModel", rfl, by decide, by decide, by decide, rfl, inK_13, tyX12_ok, nmX12, fun _ _ _ x h => h, Or.inl (tb_mem 1425 (by decide +kernel) (by decide +kernel))⟩
theorem ml_X12_318 : Cond.methodLink RX12 318 yX12_ages ∈ TBG := tb_mem 1842 (by decide +kernel) (by decide +kernel)
theorem mf_Md_ages : MFV yX12_ages cX12_ages 5 none 2 := ⟨tb_mem 1845 (by decide +kernel) (by decide +kernel), tb_mem 1844 (by decide +kernel) (by decide +kernel), tb_sel (k := 47) 67 (by decide +kernel), tb_mem 10 (by decide +kernel) (by decide +kernel), ⟨by decide, by decide⟩, by decide +kernel⟩
theorem ml_X12_289 : Cond.methodLink RX12 289 yX12_pieced ∈ TBG := tb_mem 1757 (by decide +kernel) (by decide +kernel)
theorem mf_Md_pieced : MFV yX12_pieced cX12_pieced 4 (some .int) 1 := ⟨tb_mem 1760 (by decide +kernel) (by decide +kernel), tb_mem 1759 (by decide +kernel) (by decide +kernel), tb_sel (k := 47) 60 (by decide +kernel), tb_mem 10 (by decide +kernel) (by decide +kernel), ⟨by decide, by decide⟩, by decide +kernel⟩
theorem ml_X12_253 : Cond.methodLink RX12 253 yX12_atHand ∈ TBG := tb_mem 1598 (by decide +kernel) (by decide +kernel)
theorem mf_Md_atHand : MFV yX12_atHand cX12_atHand 2 none 0 := ⟨tb_mem 1601 (by decide +kernel) (by decide +kernel), tb_mem 1600 (by decide +kernel) (by decide +kernel), tb_sel (k := 47) 31 (by decide +kernel), tb_mem 10 (by decide +kernel) (by decide +kernel), ⟨by decide, by decide⟩, by decide +kernel⟩
theorem ml_X12_277 : Cond.methodLink RX12 277 yX12_isWarm ∈ TBG := tb_mem 1722 (by decide +kernel) (by decide +kernel)
theorem mf_Md_isWarm : MFV yX12_isWarm cX12_isWarm 2 (some .boolean) 1 := ⟨tb_mem 1725 (by decide +kernel) (by decide +kernel), tb_mem 1724 (by decide +kernel) (by decide +kernel), tb_sel (k := 47) 55 (by decide +kernel), tb_mem 10 (by decide +kernel) (by decide +kernel), ⟨by decide, by decide⟩, by decide +kernel⟩
theorem fp_X12_13_13 : FPT RX12 13 13 .int false := ⟨_, rfl, by decide +kernel, rfl, fun h => by cases h⟩
theorem fp_X12_13_40 : FPT RX12 13 40 .int false := ⟨_, rfl, by decide +kernel, rfl, fun h => by cases h⟩

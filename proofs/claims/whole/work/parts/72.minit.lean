theorem fp_X12_13_2 : FPT RX12 13 2 (.array .int) true := ⟨_, rfl, by decide +kernel, rfl, fun _ => rfl⟩
theorem fp_X12_13_4 : FPT RX12 13 4 (.array .int) true := ⟨_, rfl, by decide +kernel, rfl, fun _ => rfl⟩
theorem fp_X12_13_6 : FPT RX12 13 6 (.array .int) true := ⟨_, rfl, by decide +kernel, rfl, fun _ => rfl⟩
theorem fp_X12_13_7 : FPT RX12 13 7 (.array .int) true := ⟨_, rfl, by decide +kernel, rfl, fun _ => rfl⟩
theorem fp_X12_13_9 : FPT RX12 13 9 (.array .int) true := ⟨_, rfl, by decide +kernel, rfl, fun _ => rfl⟩
theorem fp_X12_13_10 : FPT RX12 13 10 (.array .int) true := ⟨_, rfl, by decide +kernel, rfl, fun _ => rfl⟩
theorem fp_X12_13_12 : FPT RX12 13 12 (.array .int) true := ⟨_, rfl, by decide +kernel, rfl, fun _ => rfl⟩
theorem fp_X12_13_14 : FPT RX12 13 14 (.array .int) true := ⟨_, rfl, by decide +kernel, rfl, fun _ => rfl⟩
theorem fp_X12_13_15 : FPT RX12 13 15 (.array .int) true := ⟨_, rfl, by decide +kernel, rfl, fun _ => rfl⟩
theorem fp_X12_13_16 : FPT RX12 13 16 (.array .int) true := ⟨_, rfl, by decide +kernel, rfl, fun _ => rfl⟩
theorem fp_X12_13_17 : FPT RX12 13 17 (.array .boolean) true := ⟨_, rfl, by decide +kernel, rfl, fun _ => rfl⟩
theorem fp_X12_13_18 : FPT RX12 13 18 (.array .int) true := ⟨_, rfl, by decide +kernel, rfl, fun _ => rfl⟩
theorem fp_X12_13_19 : FPT RX12 13 19 (.array .boolean) true := ⟨_, rfl, by decide +kernel, rfl, fun _ => rfl⟩
theorem fp_X12_13_20 : FPT RX12 13 20 (.array .int) true := ⟨_, rfl, by decide +kernel, rfl, fun _ => rfl⟩
theorem fp_X12_13_21 : FPT RX12 13 21 (.array .int) true := ⟨_, rfl, by decide +kernel, rfl, fun _ => rfl⟩
theorem fp_X12_13_22 : FPT RX12 13 22 (.array .int) true := ⟨_, rfl, by decide +kernel, rfl, fun _ => rfl⟩
theorem fp_X12_13_23 : FPT RX12 13 23 (.array .int) true := ⟨_, rfl, by decide +kernel, rfl, fun _ => rfl⟩
theorem fp_X12_13_24 : FPT RX12 13 24 (.array .int) true := ⟨_, rfl, by decide +kernel, rfl, fun _ => rfl⟩
theorem fp_X12_13_25 : FPT RX12 13 25 (.array .boolean) true := ⟨_, rfl, by decide +kernel, rfl, fun _ => rfl⟩
theorem fp_X12_13_26 : FPT RX12 13 26 (.array .int) true := ⟨_, rfl, by decide +kernel, rfl, fun _ => rfl⟩
theorem fp_X12_13_27 : FPT RX12 13 27 (.array .int) true := ⟨_, rfl, by decide +kernel, rfl, fun _ => rfl⟩
theorem fp_X12_13_28 : FPT RX12 13 28 (.array .int) true := ⟨_, rfl, by decide +kernel, rfl, fun _ => rfl⟩
theorem fp_X12_13_29 : FPT RX12 13 29 (.array .int) true := ⟨_, rfl, by decide +kernel, rfl, fun _ => rfl⟩
theorem fp_X12_13_30 : FPT RX12 13 30 (.array .int) true := ⟨_, rfl, by decide +kernel, rfl, fun _ => rfl⟩
theorem fp_X12_13_31 : FPT RX12 13 31 (.array .int) true := ⟨_, rfl, by decide +kernel, rfl, fun _ => rfl⟩
theorem fp_X12_13_32 : FPT RX12 13 32 (.array .int) true := ⟨_, rfl, by decide +kernel, rfl, fun _ => rfl⟩
theorem fp_X12_13_33 : FPT RX12 13 33 (.array .int) true := ⟨_, rfl, by decide +kernel, rfl, fun _ => rfl⟩
theorem fp_X12_13_34 : FPT RX12 13 34 (.array .int) true := ⟨_, rfl, by decide +kernel, rfl, fun _ => rfl⟩
theorem fp_X12_13_35 : FPT RX12 13 35 (.array .boolean) true := ⟨_, rfl, by decide +kernel, rfl, fun _ => rfl⟩
theorem fp_X12_13_36 : FPT RX12 13 36 (.array .int) true := ⟨_, rfl, by decide +kernel, rfl, fun _ => rfl⟩
theorem fp_X12_13_37 : FPT RX12 13 37 (.array .int) true := ⟨_, rfl, by decide +kernel, rfl, fun _ => rfl⟩
theorem fp_X12_13_38 : FPT RX12 13 38 (.array .int) true := ⟨_, rfl, by decide +kernel, rfl, fun _ => rfl⟩
theorem fp_X12_13_39 : FPT RX12 13 39 (.array .int) true := ⟨_, rfl, by decide +kernel, rfl, fun _ => rfl⟩
theorem fp_X12_13_41 : FPT RX12 13 41 (.array .int) true := ⟨_, rfl, by decide +kernel, rfl, fun _ => rfl⟩
theorem fp_X12_13_42 : FPT RX12 13 42 (.array .int) true := ⟨_, rfl, by decide +kernel, rfl, fun _ => rfl⟩
theorem fp_X12_13_43 : FPT RX12 13 43 (.array .boolean) true := ⟨_, rfl, by decide +kernel, rfl, fun _ => rfl⟩
theorem fp_X12_13_44 : FPT RX12 13 44 (.array .int) true := ⟨_, rfl, by decide +kernel, rfl, fun _ => rfl⟩
theorem fp_X12_13_45 : FPT RX12 13 45 (.array .int) true := ⟨_, rfl, by decide +kernel, rfl, fun _ => rfl⟩
theorem fp_X12_13_46 : FPT RX12 13 46 (.array .int) true := ⟨_, rfl, by decide +kernel, rfl, fun _ => rfl⟩
theorem ml_X12_1 : Cond.methodLink RX12 1 objectInit ∈ TBG := tb_mem 1411 (by decide +kernel) (by decide +kernel)
def pMd_init_0 : List BR := [(0, .aload_n 0, 1, 0, 1), (1, .invokespecial 1, 3, 0, 4), (4, .aload_n 0, 1, 0, 5), (5, .bipush 40, 2, 40, 7), (7, .newarray .int, 2, 0, 9), (9, .putfield 7, 3, 0, 12), (12, .aload_n 0, 1, 0, 13), (13, .bipush 40, 2, 40, 15), (15, .newarray .int, 2, 0, 17), (17, .putfield 13, 3, 0, 20), (20, .aload_n 0, 1, 0, 21), (21, .bipush 20, 2, 20, 23), (23, .newarray .int, 2, 0, 25), (25, .putfield 16, 3, 0, 28), (28, .aload_n 0, 1, 0, 29), (29, .bipush 20, 2, 20, 31), (31, .newarray .int, 2, 0, 33), (33, .putfield 19, 3, 0, 36), (36, .aload_n 0, 1, 0, 37), (37, .sipush 201, 3, 201, 40), (40, .newarray .int, 2, 0, 42), (42, .putfield 22, 3, 0, 45), (45, .aload_n 0, 1, 0, 46), (46, .sipush 8040, 3, 8040, 49), (49, .newarray .int, 2, 0, 51), (51, .putfield 25, 3, 0, 54), (54, .aload_n 0, 1, 0, 55), (55, .iconst 3, 1, 3, 56), (56, .newarray .int, 2, 0, 58), (58, .putfield 28, 3, 0, 61), (61, .aload_n 0, 1, 0, 62), (62, .bipush 6, 2, 6, 64), (64, .newarray .int, 2, 0, 66), (66, .putfield 31, 3, 0, 69), (69, .aload_n 0, 1, 0, 70), (70, .bipush 6, 2, 6, 72), (72, .newarray .int, 2, 0, 74), (74, .putfield 34, 3, 0, 77), (77, .aload_n 0, 1, 0, 78), (78, .bipush 6, 2, 6, 80)]
theorem kMd_init_0 : bOK cX12_init 1 pMd_init_0 = true := by decide +kernel
def pMd_init_1 : List BR := [(80, .newarray .int, 2, 0, 82), (82, .putfield 37, 3, 0, 85), (85, .aload_n 0, 1, 0, 86), (86, .bipush 12, 2, 12, 88), (88, .newarray .boolean, 2, 0, 90), (90, .putfield 40, 3, 0, 93), (93, .aload_n 0, 1, 0, 94), (94, .iconst 2, 1, 2, 95), (95, .newarray .int, 2, 0, 97), (97, .putfield 44, 3, 0, 100), (100, .aload_n 0, 1, 0, 101), (101, .sipush 180, 3, 180, 104), (104, .newarray .boolean, 2, 0, 106), (106, .putfield 47, 3, 0, 109), (109, .aload_n 0, 1, 0, 110), (110, .sipush 180, 3, 180, 113), (113, .newarray .int, 2, 0, 115), (115, .putfield 50, 3, 0, 118), (118, .aload_n 0, 1, 0, 119), (119, .sipush 180, 3, 180, 122), (122, .newarray .int, 2, 0, 124), (124, .putfield 53, 3, 0, 127), (127, .aload_n 0, 1, 0, 128), (128, .sipush 1080, 3, 1080, 131), (131, .newarray .int, 2, 0, 133), (133, .putfield 56, 3, 0, 136), (136, .aload_n 0, 1, 0, 137), (137, .sipush 900, 3, 900, 140), (140, .newarray .int, 2, 0, 142), (142, .putfield 59, 3, 0, 145), (145, .aload_n 0, 1, 0, 146), (146, .sipush 1800, 3, 1800, 149), (149, .newarray .int, 2, 0, 151), (151, .putfield 62, 3, 0, 154), (154, .aload_n 0, 1, 0, 155), (155, .sipush 900, 3, 900, 158), (158, .newarray .boolean, 2, 0, 160), (160, .putfield 65, 3, 0, 163), (163, .aload_n 0, 1, 0, 164), (164, .iconst 2, 1, 2, 165)]
theorem kMd_init_1 : bOK cX12_init 1 pMd_init_1 = true := by decide +kernel
def pMd_init_2 : List BR := [(165, .newarray .int, 2, 0, 167), (167, .putfield 68, 3, 0, 170), (170, .aload_n 0, 1, 0, 171), (171, .bipush 80, 2, 80, 173), (173, .newarray .int, 2, 0, 175), (175, .putfield 71, 3, 0, 178), (178, .aload_n 0, 1, 0, 179), (179, .bipush 80, 2, 80, 181), (181, .newarray .int, 2, 0, 183), (183, .putfield 74, 3, 0, 186), (186, .aload_n 0, 1, 0, 187), (187, .bipush 80, 2, 80, 189), (189, .newarray .int, 2, 0, 191), (191, .putfield 77, 3, 0, 194), (194, .aload_n 0, 1, 0, 195), (195, .bipush 80, 2, 80, 197), (197, .newarray .int, 2, 0, 199), (199, .putfield 80, 3, 0, 202), (202, .aload_n 0, 1, 0, 203), (203, .bipush 80, 2, 80, 205), (205, .newarray .int, 2, 0, 207), (207, .putfield 83, 3, 0, 210), (210, .aload_n 0, 1, 0, 211), (211, .bipush 80, 2, 80, 213), (213, .newarray .int, 2, 0, 215), (215, .putfield 86, 3, 0, 218), (218, .aload_n 0, 1, 0, 219), (219, .bipush 80, 2, 80, 221), (221, .newarray .int, 2, 0, 223), (223, .putfield 89, 3, 0, 226), (226, .aload_n 0, 1, 0, 227), (227, .sipush 1600, 3, 1600, 230), (230, .newarray .int, 2, 0, 232), (232, .putfield 92, 3, 0, 235), (235, .aload_n 0, 1, 0, 236), (236, .sipush 402, 3, 402, 239), (239, .newarray .boolean, 2, 0, 241), (241, .putfield 95, 3, 0, 244), (244, .aload_n 0, 1, 0, 245), (245, .iconst 2, 1, 2, 246)]
theorem kMd_init_2 : bOK cX12_init 1 pMd_init_2 = true := by decide +kernel
def pMd_init_3 : List BR := [(246, .newarray .int, 2, 0, 248), (248, .putfield 98, 3, 0, 251), (251, .aload_n 0, 1, 0, 252), (252, .sipush 400, 3, 400, 255), (255, .newarray .int, 2, 0, 257), (257, .putfield 101, 3, 0, 260), (260, .aload_n 0, 1, 0, 261), (261, .sipush 201, 3, 201, 264), (264, .newarray .int, 2, 0, 266), (266, .putfield 104, 3, 0, 269), (269, .aload_n 0, 1, 0, 270), (270, .sipush 201, 3, 201, 273), (273, .newarray .int, 2, 0, 275), (275, .putfield 107, 3, 0, 278), (278, .aload_n 0, 1, 0, 279), (279, .bipush 12, 2, 12, 281), (281, .newarray .int, 2, 0, 283), (283, .putfield 110, 3, 0, 286), (286, .aload_n 0, 1, 0, 287), (287, .bipush 12, 2, 12, 289), (289, .newarray .int, 2, 0, 291), (291, .putfield 113, 3, 0, 294), (294, .aload_n 0, 1, 0, 295), (295, .bipush 12, 2, 12, 297), (297, .newarray .boolean, 2, 0, 299), (299, .putfield 116, 3, 0, 302), (302, .aload_n 0, 1, 0, 303), (303, .bipush 108, 2, 108, 305), (305, .newarray .int, 2, 0, 307), (307, .putfield 119, 3, 0, 310), (310, .aload_n 0, 1, 0, 311), (311, .sipush 4320, 3, 4320, 314), (314, .newarray .int, 2, 0, 316), (316, .putfield 122, 3, 0, 319), (319, .aload_n 0, 1, 0, 320), (320, .bipush 12, 2, 12, 322), (322, .newarray .int, 2, 0, 324), (324, .putfield 125, 3, 0, 327), (327, .return_, 1, 0, 328)]
theorem kMd_init_3 : bOK cX12_init 1 pMd_init_3 = true := by decide +kernel
def pMd_init : List BR := (pMd_init_0 ++ (pMd_init_1 ++ (pMd_init_2 ++ pMd_init_3)))
theorem kMd_init : bOK cX12_init 1 pMd_init = true := (bOK_app kMd_init_0 (bOK_app kMd_init_1 (bOK_app kMd_init_2 kMd_init_3)))
def fMd_init (a0 : Nat) (M : Mm) (n : Nat) : Option ((Unit ⊕ Nat) × Mm × Nat) :=
  nwA 21 8100 40 M n fun y1 M2 n3 =>
  fpR 13 1302 (some a0) y1 M2 fun M4 =>
  nwA 21 8100 40 M4 n3 fun y5 M6 n7 =>
  fpR 13 1304 (some a0) y5 M6 fun M8 =>
  nwA 21 8100 20 M8 n7 fun y9 M10 n11 =>
  fpR 13 1306 (some a0) y9 M10 fun M12 =>
  nwA 21 8100 20 M12 n11 fun y13 M14 n15 =>
  fpR 13 1307 (some a0) y13 M14 fun M16 =>
  nwA 21 8100 201 M16 n15 fun y17 M18 n19 =>
  fpR 13 1309 (some a0) y17 M18 fun M20 =>
  nwA 21 8100 8040 M20 n19 fun y21 M22 n23 =>
  fpR 13 1310 (some a0) y21 M22 fun M24 =>
  nwA 21 8100 3 M24 n23 fun y25 M26 n27 =>
  fpR 13 1312 (some a0) y25 M26 fun M28 =>
  nwA 21 8100 6 M28 n27 fun y29 M30 n31 =>
  fpR 13 1314 (some a0) y29 M30 fun M32 =>
  nwA 21 8100 6 M32 n31 fun y33 M34 n35 =>
  fpR 13 1315 (some a0) y33 M34 fun M36 =>
  nwA 21 8100 6 M36 n35 fun y37 M38 n39 =>
  fpR 13 1316 (some a0) y37 M38 fun M40 =>
  nwA 22 8100 12 M40 n39 fun y41 M42 n43 =>
  fpR 13 1317 (some a0) y41 M42 fun M44 =>
  nwA 21 8100 2 M44 n43 fun y45 M46 n47 =>
  fpR 13 1318 (some a0) y45 M46 fun M48 =>
  nwA 22 8100 180 M48 n47 fun y49 M50 n51 =>
  fpR 13 1319 (some a0) y49 M50 fun M52 =>
  nwA 21 8100 180 M52 n51 fun y53 M54 n55 =>
  fpR 13 1320 (some a0) y53 M54 fun M56 =>
  nwA 21 8100 180 M56 n55 fun y57 M58 n59 =>
  fpR 13 1321 (some a0) y57 M58 fun M60 =>
  nwA 21 8100 1080 M60 n59 fun y61 M62 n63 =>
  fpR 13 1322 (some a0) y61 M62 fun M64 =>
  nwA 21 8100 900 M64 n63 fun y65 M66 n67 =>
  fpR 13 1323 (some a0) y65 M66 fun M68 =>
  nwA 21 8100 1800 M68 n67 fun y69 M70 n71 =>
  fpR 13 1324 (some a0) y69 M70 fun M72 =>
  nwA 22 8100 900 M72 n71 fun y73 M74 n75 =>
  fpR 13 1325 (some a0) y73 M74 fun M76 =>
  nwA 21 8100 2 M76 n75 fun y77 M78 n79 =>
  fpR 13 1326 (some a0) y77 M78 fun M80 =>
  nwA 21 8100 80 M80 n79 fun y81 M82 n83 =>
  fpR 13 1327 (some a0) y81 M82 fun M84 =>
  nwA 21 8100 80 M84 n83 fun y85 M86 n87 =>
  fpR 13 1328 (some a0) y85 M86 fun M88 =>
  nwA 21 8100 80 M88 n87 fun y89 M90 n91 =>
  fpR 13 1329 (some a0) y89 M90 fun M92 =>
  nwA 21 8100 80 M92 n91 fun y93 M94 n95 =>
  fpR 13 1330 (some a0) y93 M94 fun M96 =>
  nwA 21 8100 80 M96 n95 fun y97 M98 n99 =>
  fpR 13 1331 (some a0) y97 M98 fun M100 =>
  nwA 21 8100 80 M100 n99 fun y101 M102 n103 =>
  fpR 13 1332 (some a0) y101 M102 fun M104 =>
  nwA 21 8100 80 M104 n103 fun y105 M106 n107 =>
  fpR 13 1333 (some a0) y105 M106 fun M108 =>
  nwA 21 8100 1600 M108 n107 fun y109 M110 n111 =>
  fpR 13 1334 (some a0) y109 M110 fun M112 =>
  nwA 22 8100 402 M112 n111 fun y113 M114 n115 =>
  fpR 13 1335 (some a0) y113 M114 fun M116 =>
  nwA 21 8100 2 M116 n115 fun y117 M118 n119 =>
  fpR 13 1336 (some a0) y117 M118 fun M120 =>
  nwA 21 8100 400 M120 n119 fun y121 M122 n123 =>
  fpR 13 1337 (some a0) y121 M122 fun M124 =>
  nwA 21 8100 201 M124 n123 fun y125 M126 n127 =>
  fpR 13 1338 (some a0) y125 M126 fun M128 =>
  nwA 21 8100 201 M128 n127 fun y129 M130 n131 =>
  fpR 13 1339 (some a0) y129 M130 fun M132 =>
  nwA 21 8100 12 M132 n131 fun y133 M134 n135 =>
  fpR 13 1341 (some a0) y133 M134 fun M136 =>
  nwA 21 8100 12 M136 n135 fun y137 M138 n139 =>
  fpR 13 1342 (some a0) y137 M138 fun M140 =>
  nwA 22 8100 12 M140 n139 fun y141 M142 n143 =>
  fpR 13 1343 (some a0) y141 M142 fun M144 =>
  nwA 21 8100 108 M144 n143 fun y145 M146 n147 =>
  fpR 13 1344 (some a0) y145 M146 fun M148 =>
  nwA 21 8100 4320 M148 n147 fun y149 M150 n151 =>
  fpR 13 1345 (some a0) y149 M150 fun M152 =>
  nwA 21 8100 12 M152 n151 fun y153 M154 n155 =>
  fpR 13 1346 (some a0) y153 M154 fun M156 =>
  some (.inl (), M156, n155)
theorem wMd_init {X : MC} {G : GE} {n0 : Nat} (C : CX X G RX12 cX12_init pMd_init 1 none n0) (htab : ∀ z ∈ X.2.2.2.2.2.2.2.2.exceptionTable.toList, False) (hin : X.2.2.2.2.2.2.2.1.name = "<init>") {σ : Sg} (a0 : Nat) (M : Mm) (n : Nat) : JS X G 1 8100 0 n0 (EM X G n0 2 8100 (eC rvU σ)) (fMd_init a0 M n) (σ, M, n) 0 [(0, .inr (.inl (some a0)))] [] := by
  unfold fMd_init
  refine s_blk C 0 1 [0] (pc' := 1) (lv' := [(0, .inr (.inl (some a0)))]) (st' := [.inr (.inl (some a0))]) rfl ?_
  refine s_sup C (CE_EM _ _ _ _ _ _) 1 rfl ml_X12_1 (by decide) rfl ?_
  refine s_blk C 2 2 [0] (pc' := 7) (lv' := [(0, .inr (.inl (some a0)))]) (st' := [.inl 40, .inr (.inl (some a0))]) rfl ?_
  refine s_newI C (CE_EM _ _ _ _ _ _) 4 rfl (by decide) (by decide) (fun y1 M2 n3 _ _ => ?_)
  refine s_pR C 5 rfl fl_X12_7 fp_X12_13_2 (fun _ => hin) rfl rfl rfl (fun M4 _ => ?_)
  refine s_blk C 6 2 [0] (pc' := 15) (lv' := [(0, .inr (.inl (some a0)))]) (st' := [.inl 40, .inr (.inl (some a0))]) rfl ?_
  refine s_newI C (CE_EM _ _ _ _ _ _) 8 rfl (by decide) (by decide) (fun y5 M6 n7 _ _ => ?_)
  refine s_pR C 9 rfl fl_X12_13 fp_X12_13_4 (fun _ => hin) rfl rfl rfl (fun M8 _ => ?_)
  refine s_blk C 10 2 [0] (pc' := 23) (lv' := [(0, .inr (.inl (some a0)))]) (st' := [.inl 20, .inr (.inl (some a0))]) rfl ?_
  refine s_newI C (CE_EM _ _ _ _ _ _) 12 rfl (by decide) (by decide) (fun y9 M10 n11 _ _ => ?_)
  refine s_pR C 13 rfl fl_X12_16 fp_X12_13_6 (fun _ => hin) rfl rfl rfl (fun M12 _ => ?_)
  refine s_blk C 14 2 [0] (pc' := 31) (lv' := [(0, .inr (.inl (some a0)))]) (st' := [.inl 20, .inr (.inl (some a0))]) rfl ?_
  refine s_newI C (CE_EM _ _ _ _ _ _) 16 rfl (by decide) (by decide) (fun y13 M14 n15 _ _ => ?_)
  refine s_pR C 17 rfl fl_X12_19 fp_X12_13_7 (fun _ => hin) rfl rfl rfl (fun M16 _ => ?_)
  refine s_blk C 18 2 [0] (pc' := 40) (lv' := [(0, .inr (.inl (some a0)))]) (st' := [.inl 201, .inr (.inl (some a0))]) rfl ?_
  refine s_newI C (CE_EM _ _ _ _ _ _) 20 rfl (by decide) (by decide) (fun y17 M18 n19 _ _ => ?_)
  refine s_pR C 21 rfl fl_X12_22 fp_X12_13_9 (fun _ => hin) rfl rfl rfl (fun M20 _ => ?_)
  refine s_blk C 22 2 [0] (pc' := 49) (lv' := [(0, .inr (.inl (some a0)))]) (st' := [.inl 8040, .inr (.inl (some a0))]) rfl ?_
  refine s_newI C (CE_EM _ _ _ _ _ _) 24 rfl (by decide) (by decide) (fun y21 M22 n23 _ _ => ?_)
  refine s_pR C 25 rfl fl_X12_25 fp_X12_13_10 (fun _ => hin) rfl rfl rfl (fun M24 _ => ?_)
  refine s_blk C 26 2 [0] (pc' := 56) (lv' := [(0, .inr (.inl (some a0)))]) (st' := [.inl 3, .inr (.inl (some a0))]) rfl ?_
  refine s_newI C (CE_EM _ _ _ _ _ _) 28 rfl (by decide) (by decide) (fun y25 M26 n27 _ _ => ?_)
  refine s_pR C 29 rfl fl_X12_28 fp_X12_13_12 (fun _ => hin) rfl rfl rfl (fun M28 _ => ?_)
  refine s_blk C 30 2 [0] (pc' := 64) (lv' := [(0, .inr (.inl (some a0)))]) (st' := [.inl 6, .inr (.inl (some a0))]) rfl ?_
  refine s_newI C (CE_EM _ _ _ _ _ _) 32 rfl (by decide) (by decide) (fun y29 M30 n31 _ _ => ?_)
  refine s_pR C 33 rfl fl_X12_31 fp_X12_13_14 (fun _ => hin) rfl rfl rfl (fun M32 _ => ?_)
  refine s_blk C 34 2 [0] (pc' := 72) (lv' := [(0, .inr (.inl (some a0)))]) (st' := [.inl 6, .inr (.inl (some a0))]) rfl ?_
  refine s_newI C (CE_EM _ _ _ _ _ _) 36 rfl (by decide) (by decide) (fun y33 M34 n35 _ _ => ?_)
  refine s_pR C 37 rfl fl_X12_34 fp_X12_13_15 (fun _ => hin) rfl rfl rfl (fun M36 _ => ?_)
  refine s_blk C 38 2 [0] (pc' := 80) (lv' := [(0, .inr (.inl (some a0)))]) (st' := [.inl 6, .inr (.inl (some a0))]) rfl ?_
  refine s_newI C (CE_EM _ _ _ _ _ _) 40 rfl (by decide) (by decide) (fun y37 M38 n39 _ _ => ?_)
  refine s_pR C 41 rfl fl_X12_37 fp_X12_13_16 (fun _ => hin) rfl rfl rfl (fun M40 _ => ?_)
  refine s_blk C 42 2 [0] (pc' := 88) (lv' := [(0, .inr (.inl (some a0)))]) (st' := [.inl 12, .inr (.inl (some a0))]) rfl ?_
  refine s_newZ C (CE_EM _ _ _ _ _ _) 44 rfl (by decide) (by decide) (fun y41 M42 n43 _ _ => ?_)
  refine s_pR C 45 rfl fl_X12_40 fp_X12_13_17 (fun _ => hin) rfl rfl rfl (fun M44 _ => ?_)
  refine s_blk C 46 2 [0] (pc' := 95) (lv' := [(0, .inr (.inl (some a0)))]) (st' := [.inl 2, .inr (.inl (some a0))]) rfl ?_
  refine s_newI C (CE_EM _ _ _ _ _ _) 48 rfl (by decide) (by decide) (fun y45 M46 n47 _ _ => ?_)
  refine s_pR C 49 rfl fl_X12_44 fp_X12_13_18 (fun _ => hin) rfl rfl rfl (fun M48 _ => ?_)
  refine s_blk C 50 2 [0] (pc' := 104) (lv' := [(0, .inr (.inl (some a0)))]) (st' := [.inl 180, .inr (.inl (some a0))]) rfl ?_
  refine s_newZ C (CE_EM _ _ _ _ _ _) 52 rfl (by decide) (by decide) (fun y49 M50 n51 _ _ => ?_)
  refine s_pR C 53 rfl fl_X12_47 fp_X12_13_19 (fun _ => hin) rfl rfl rfl (fun M52 _ => ?_)
  refine s_blk C 54 2 [0] (pc' := 113) (lv' := [(0, .inr (.inl (some a0)))]) (st' := [.inl 180, .inr (.inl (some a0))]) rfl ?_
  refine s_newI C (CE_EM _ _ _ _ _ _) 56 rfl (by decide) (by decide) (fun y53 M54 n55 _ _ => ?_)
  refine s_pR C 57 rfl fl_X12_50 fp_X12_13_20 (fun _ => hin) rfl rfl rfl (fun M56 _ => ?_)
  refine s_blk C 58 2 [0] (pc' := 122) (lv' := [(0, .inr (.inl (some a0)))]) (st' := [.inl 180, .inr (.inl (some a0))]) rfl ?_
  refine s_newI C (CE_EM _ _ _ _ _ _) 60 rfl (by decide) (by decide) (fun y57 M58 n59 _ _ => ?_)
  refine s_pR C 61 rfl fl_X12_53 fp_X12_13_21 (fun _ => hin) rfl rfl rfl (fun M60 _ => ?_)
  refine s_blk C 62 2 [0] (pc' := 131) (lv' := [(0, .inr (.inl (some a0)))]) (st' := [.inl 1080, .inr (.inl (some a0))]) rfl ?_
  refine s_newI C (CE_EM _ _ _ _ _ _) 64 rfl (by decide) (by decide) (fun y61 M62 n63 _ _ => ?_)
  refine s_pR C 65 rfl fl_X12_56 fp_X12_13_22 (fun _ => hin) rfl rfl rfl (fun M64 _ => ?_)
  refine s_blk C 66 2 [0] (pc' := 140) (lv' := [(0, .inr (.inl (some a0)))]) (st' := [.inl 900, .inr (.inl (some a0))]) rfl ?_
  refine s_newI C (CE_EM _ _ _ _ _ _) 68 rfl (by decide) (by decide) (fun y65 M66 n67 _ _ => ?_)
  refine s_pR C 69 rfl fl_X12_59 fp_X12_13_23 (fun _ => hin) rfl rfl rfl (fun M68 _ => ?_)
  refine s_blk C 70 2 [0] (pc' := 149) (lv' := [(0, .inr (.inl (some a0)))]) (st' := [.inl 1800, .inr (.inl (some a0))]) rfl ?_
  refine s_newI C (CE_EM _ _ _ _ _ _) 72 rfl (by decide) (by decide) (fun y69 M70 n71 _ _ => ?_)
  refine s_pR C 73 rfl fl_X12_62 fp_X12_13_24 (fun _ => hin) rfl rfl rfl (fun M72 _ => ?_)
  refine s_blk C 74 2 [0] (pc' := 158) (lv' := [(0, .inr (.inl (some a0)))]) (st' := [.inl 900, .inr (.inl (some a0))]) rfl ?_
  refine s_newZ C (CE_EM _ _ _ _ _ _) 76 rfl (by decide) (by decide) (fun y73 M74 n75 _ _ => ?_)
  refine s_pR C 77 rfl fl_X12_65 fp_X12_13_25 (fun _ => hin) rfl rfl rfl (fun M76 _ => ?_)
  refine s_blk C 78 2 [0] (pc' := 165) (lv' := [(0, .inr (.inl (some a0)))]) (st' := [.inl 2, .inr (.inl (some a0))]) rfl ?_
  refine s_newI C (CE_EM _ _ _ _ _ _) 80 rfl (by decide) (by decide) (fun y77 M78 n79 _ _ => ?_)
  refine s_pR C 81 rfl fl_X12_68 fp_X12_13_26 (fun _ => hin) rfl rfl rfl (fun M80 _ => ?_)
  refine s_blk C 82 2 [0] (pc' := 173) (lv' := [(0, .inr (.inl (some a0)))]) (st' := [.inl 80, .inr (.inl (some a0))]) rfl ?_
  refine s_newI C (CE_EM _ _ _ _ _ _) 84 rfl (by decide) (by decide) (fun y81 M82 n83 _ _ => ?_)
  refine s_pR C 85 rfl fl_X12_71 fp_X12_13_27 (fun _ => hin) rfl rfl rfl (fun M84 _ => ?_)
  refine s_blk C 86 2 [0] (pc' := 181) (lv' := [(0, .inr (.inl (some a0)))]) (st' := [.inl 80, .inr (.inl (some a0))]) rfl ?_
  refine s_newI C (CE_EM _ _ _ _ _ _) 88 rfl (by decide) (by decide) (fun y85 M86 n87 _ _ => ?_)
  refine s_pR C 89 rfl fl_X12_74 fp_X12_13_28 (fun _ => hin) rfl rfl rfl (fun M88 _ => ?_)
  refine s_blk C 90 2 [0] (pc' := 189) (lv' := [(0, .inr (.inl (some a0)))]) (st' := [.inl 80, .inr (.inl (some a0))]) rfl ?_
  refine s_newI C (CE_EM _ _ _ _ _ _) 92 rfl (by decide) (by decide) (fun y89 M90 n91 _ _ => ?_)
  refine s_pR C 93 rfl fl_X12_77 fp_X12_13_29 (fun _ => hin) rfl rfl rfl (fun M92 _ => ?_)
  refine s_blk C 94 2 [0] (pc' := 197) (lv' := [(0, .inr (.inl (some a0)))]) (st' := [.inl 80, .inr (.inl (some a0))]) rfl ?_
  refine s_newI C (CE_EM _ _ _ _ _ _) 96 rfl (by decide) (by decide) (fun y93 M94 n95 _ _ => ?_)
  refine s_pR C 97 rfl fl_X12_80 fp_X12_13_30 (fun _ => hin) rfl rfl rfl (fun M96 _ => ?_)
  refine s_blk C 98 2 [0] (pc' := 205) (lv' := [(0, .inr (.inl (some a0)))]) (st' := [.inl 80, .inr (.inl (some a0))]) rfl ?_
  refine s_newI C (CE_EM _ _ _ _ _ _) 100 rfl (by decide) (by decide) (fun y97 M98 n99 _ _ => ?_)
  refine s_pR C 101 rfl fl_X12_83 fp_X12_13_31 (fun _ => hin) rfl rfl rfl (fun M100 _ => ?_)
  refine s_blk C 102 2 [0] (pc' := 213) (lv' := [(0, .inr (.inl (some a0)))]) (st' := [.inl 80, .inr (.inl (some a0))]) rfl ?_
  refine s_newI C (CE_EM _ _ _ _ _ _) 104 rfl (by decide) (by decide) (fun y101 M102 n103 _ _ => ?_)
  refine s_pR C 105 rfl fl_X12_86 fp_X12_13_32 (fun _ => hin) rfl rfl rfl (fun M104 _ => ?_)
  refine s_blk C 106 2 [0] (pc' := 221) (lv' := [(0, .inr (.inl (some a0)))]) (st' := [.inl 80, .inr (.inl (some a0))]) rfl ?_
  refine s_newI C (CE_EM _ _ _ _ _ _) 108 rfl (by decide) (by decide) (fun y105 M106 n107 _ _ => ?_)
  refine s_pR C 109 rfl fl_X12_89 fp_X12_13_33 (fun _ => hin) rfl rfl rfl (fun M108 _ => ?_)
  refine s_blk C 110 2 [0] (pc' := 230) (lv' := [(0, .inr (.inl (some a0)))]) (st' := [.inl 1600, .inr (.inl (some a0))]) rfl ?_
  refine s_newI C (CE_EM _ _ _ _ _ _) 112 rfl (by decide) (by decide) (fun y109 M110 n111 _ _ => ?_)
  refine s_pR C 113 rfl fl_X12_92 fp_X12_13_34 (fun _ => hin) rfl rfl rfl (fun M112 _ => ?_)
  refine s_blk C 114 2 [0] (pc' := 239) (lv' := [(0, .inr (.inl (some a0)))]) (st' := [.inl 402, .inr (.inl (some a0))]) rfl ?_
  refine s_newZ C (CE_EM _ _ _ _ _ _) 116 rfl (by decide) (by decide) (fun y113 M114 n115 _ _ => ?_)
  refine s_pR C 117 rfl fl_X12_95 fp_X12_13_35 (fun _ => hin) rfl rfl rfl (fun M116 _ => ?_)
  refine s_blk C 118 2 [0] (pc' := 246) (lv' := [(0, .inr (.inl (some a0)))]) (st' := [.inl 2, .inr (.inl (some a0))]) rfl ?_
  refine s_newI C (CE_EM _ _ _ _ _ _) 120 rfl (by decide) (by decide) (fun y117 M118 n119 _ _ => ?_)
  refine s_pR C 121 rfl fl_X12_98 fp_X12_13_36 (fun _ => hin) rfl rfl rfl (fun M120 _ => ?_)
  refine s_blk C 122 2 [0] (pc' := 255) (lv' := [(0, .inr (.inl (some a0)))]) (st' := [.inl 400, .inr (.inl (some a0))]) rfl ?_
  refine s_newI C (CE_EM _ _ _ _ _ _) 124 rfl (by decide) (by decide) (fun y121 M122 n123 _ _ => ?_)
  refine s_pR C 125 rfl fl_X12_101 fp_X12_13_37 (fun _ => hin) rfl rfl rfl (fun M124 _ => ?_)
  refine s_blk C 126 2 [0] (pc' := 264) (lv' := [(0, .inr (.inl (some a0)))]) (st' := [.inl 201, .inr (.inl (some a0))]) rfl ?_
  refine s_newI C (CE_EM _ _ _ _ _ _) 128 rfl (by decide) (by decide) (fun y125 M126 n127 _ _ => ?_)
  refine s_pR C 129 rfl fl_X12_104 fp_X12_13_38 (fun _ => hin) rfl rfl rfl (fun M128 _ => ?_)
  refine s_blk C 130 2 [0] (pc' := 273) (lv' := [(0, .inr (.inl (some a0)))]) (st' := [.inl 201, .inr (.inl (some a0))]) rfl ?_
  refine s_newI C (CE_EM _ _ _ _ _ _) 132 rfl (by decide) (by decide) (fun y129 M130 n131 _ _ => ?_)
  refine s_pR C 133 rfl fl_X12_107 fp_X12_13_39 (fun _ => hin) rfl rfl rfl (fun M132 _ => ?_)
  refine s_blk C 134 2 [0] (pc' := 281) (lv' := [(0, .inr (.inl (some a0)))]) (st' := [.inl 12, .inr (.inl (some a0))]) rfl ?_
  refine s_newI C (CE_EM _ _ _ _ _ _) 136 rfl (by decide) (by decide) (fun y133 M134 n135 _ _ => ?_)
  refine s_pR C 137 rfl fl_X12_110 fp_X12_13_41 (fun _ => hin) rfl rfl rfl (fun M136 _ => ?_)
  refine s_blk C 138 2 [0] (pc' := 289) (lv' := [(0, .inr (.inl (some a0)))]) (st' := [.inl 12, .inr (.inl (some a0))]) rfl ?_
  refine s_newI C (CE_EM _ _ _ _ _ _) 140 rfl (by decide) (by decide) (fun y137 M138 n139 _ _ => ?_)
  refine s_pR C 141 rfl fl_X12_113 fp_X12_13_42 (fun _ => hin) rfl rfl rfl (fun M140 _ => ?_)
  refine s_blk C 142 2 [0] (pc' := 297) (lv' := [(0, .inr (.inl (some a0)))]) (st' := [.inl 12, .inr (.inl (some a0))]) rfl ?_
  refine s_newZ C (CE_EM _ _ _ _ _ _) 144 rfl (by decide) (by decide) (fun y141 M142 n143 _ _ => ?_)
  refine s_pR C 145 rfl fl_X12_116 fp_X12_13_43 (fun _ => hin) rfl rfl rfl (fun M144 _ => ?_)
  refine s_blk C 146 2 [0] (pc' := 305) (lv' := [(0, .inr (.inl (some a0)))]) (st' := [.inl 108, .inr (.inl (some a0))]) rfl ?_
  refine s_newI C (CE_EM _ _ _ _ _ _) 148 rfl (by decide) (by decide) (fun y145 M146 n147 _ _ => ?_)
  refine s_pR C 149 rfl fl_X12_119 fp_X12_13_44 (fun _ => hin) rfl rfl rfl (fun M148 _ => ?_)
  refine s_blk C 150 2 [0] (pc' := 314) (lv' := [(0, .inr (.inl (some a0)))]) (st' := [.inl 4320, .inr (.inl (some a0))]) rfl ?_
  refine s_newI C (CE_EM _ _ _ _ _ _) 152 rfl (by decide) (by decide) (fun y149 M150 n151 _ _ => ?_)
  refine s_pR C 153 rfl fl_X12_122 fp_X12_13_45 (fun _ => hin) rfl rfl rfl (fun M152 _ => ?_)
  refine s_blk C 154 2 [] (pc' := 322) (lv' := []) (st' := [.inl 12, .inr (.inl (some a0))]) rfl ?_
  refine s_newI C (CE_EM _ _ _ _ _ _) 156 rfl (by decide) (by decide) (fun y153 M154 n155 _ _ => ?_)
  refine s_pR C 157 rfl fl_X12_125 fp_X12_13_46 (fun _ => hin) rfl rfl rfl (fun M156 _ => ?_)
  exact s_vret C 158 rfl rfl
theorem cMd_init {l : Launch} {G : GE} (htr : l.stackTraces = false) (σ : Sg) (M : Mm) (n : Nat) (a0 : Nat) : ∀ o, fMd_init a0 M n = some o → MetX l G yX12_init cX12_init 1 none 2 8100 [.inr (.inl (some a0))] (σ, M, n) ((eC rvU σ) o) :=
  c_ofX (by decide) kMd_init htr rfl rfl fun X _ hin C htab => wMd_init C htab hin a0 _ _

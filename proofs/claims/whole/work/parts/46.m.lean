def pMd_agrees_0 : List BR := [(0, .aload_n 0, 1, 0, 1), (1, .iload_n 1, 1, 0, 2), (2, .invokestatic 225, 3, 0, 5), (5, .ifCond .eq (7), 3, 0, 12), (8, .iconst 0, 1, 0, 9), (9, .goto (4), 3, 0, 13), (12, .iconst 1, 1, 1, 13), (13, .invokevirtual 150, 3, 0, 16), (16, .ifCond .ne (5), 3, 0, 21), (19, .iconst 0, 1, 0, 20), (20, .ireturn, 1, 0, 21), (21, .iconst 1, 1, 1, 22), (22, .istore_n 2, 1, 0, 23), (23, .bipush 40, 2, 40, 25), (25, .iload_n 1, 1, 0, 26), (26, .imul, 1, 0, 27), (27, .istore_n 3, 1, 0, 28), (28, .iload_n 3, 1, 0, 29), (29, .aload_n 0, 1, 0, 30), (30, .iload_n 1, 1, 0, 31), (31, .invokevirtual 219, 3, 0, 34), (34, .if_icmp .ge (87), 3, 0, 121), (37, .iload_n 2, 1, 0, 38), (38, .ifCond .eq (83), 3, 0, 121), (41, .iconst 0, 1, 0, 42), (42, .istore 4, 2, 0, 44), (44, .iload 4, 2, 0, 46), (46, .aload_n 0, 1, 0, 47), (47, .getfield 22, 3, 0, 50), (50, .aload_n 0, 1, 0, 51), (51, .getfield 71, 3, 0, 54), (54, .iload_n 3, 1, 0, 55), (55, .iaload, 1, 0, 56), (56, .iaload, 1, 0, 57), (57, .if_icmp .ge (58), 3, 0, 115), (60, .iload_n 2, 1, 0, 61), (61, .ifCond .eq (54), 3, 0, 115), (64, .aload_n 0, 1, 0, 65), (65, .iload_n 1, 1, 0, 66), (66, .iload_n 3, 1, 0, 67)]
theorem kMd_agrees_0 : bOK cX12_agrees 7 pMd_agrees_0 = true := by decide +kernel
def pMd_agrees_1 : List BR := [(67, .iload 4, 2, 0, 69), (69, .invokevirtual 280, 3, 0, 72), (72, .istore 5, 2, 0, 74), (74, .iload 5, 2, 0, 76), (76, .bipush (-4), 2, -4, 78), (78, .if_icmp .eq (25), 3, 0, 103), (81, .iload 5, 2, 0, 83), (83, .aload_n 0, 1, 0, 84), (84, .getfield 25, 3, 0, 87), (87, .bipush 40, 2, 40, 89), (89, .aload_n 0, 1, 0, 90), (90, .getfield 71, 3, 0, 93), (93, .iload_n 3, 1, 0, 94), (94, .iaload, 1, 0, 95), (95, .imul, 1, 0, 96), (96, .iload 4, 2, 0, 98), (98, .iadd, 1, 0, 99), (99, .iaload, 1, 0, 100), (100, .if_icmp .ne (7), 3, 0, 107), (103, .iconst 1, 1, 1, 104), (104, .goto (4), 3, 0, 108), (107, .iconst 0, 1, 0, 108), (108, .istore_n 2, 1, 0, 109), (109, .iinc 4 (1), 3, 1, 112), (112, .goto (-68), 3, 0, 44), (115, .iinc 3 (1), 3, 1, 118), (118, .goto (-90), 3, 0, 28), (121, .iconst 0, 1, 0, 122), (122, .istore_n 3, 1, 0, 123), (123, .iload_n 3, 1, 0, 124), (124, .aload_n 0, 1, 0, 125), (125, .getfield 44, 3, 0, 128), (128, .iload_n 1, 1, 0, 129), (129, .iaload, 1, 0, 130), (130, .if_icmp .ge (122), 3, 0, 252), (133, .iload_n 2, 1, 0, 134), (134, .ifCond .eq (118), 3, 0, 252), (137, .iconst 0, 1, 0, 138), (138, .istore 4, 2, 0, 140), (140, .bipush 40, 2, 40, 142)]
theorem kMd_agrees_1 : bOK cX12_agrees 7 pMd_agrees_1 = true := by decide +kernel
def pMd_agrees_2 : List BR := [(142, .iload_n 1, 1, 0, 143), (143, .imul, 1, 0, 144), (144, .istore 5, 2, 0, 146), (146, .iload 5, 2, 0, 148), (148, .aload_n 0, 1, 0, 149), (149, .iload_n 1, 1, 0, 150), (150, .invokevirtual 219, 3, 0, 153), (153, .if_icmp .ge (57), 3, 0, 210), (156, .iconst 0, 1, 0, 157), (157, .istore 6, 2, 0, 159), (159, .iload 6, 2, 0, 161), (161, .aload_n 0, 1, 0, 162), (162, .getfield 89, 3, 0, 165), (165, .iload 5, 2, 0, 167), (167, .iaload, 1, 0, 168), (168, .if_icmp .ge (36), 3, 0, 204), (171, .iload 4, 2, 0, 173), (173, .aload_n 0, 1, 0, 174), (174, .getfield 92, 3, 0, 177), (177, .bipush 20, 2, 20, 179), (179, .iload 5, 2, 0, 181), (181, .imul, 1, 0, 182), (182, .iload 6, 2, 0, 184), (184, .iadd, 1, 0, 185), (185, .iaload, 1, 0, 186), (186, .iload_n 3, 1, 0, 187), (187, .if_icmp .ne (7), 3, 0, 194), (190, .iconst 1, 1, 1, 191), (191, .goto (4), 3, 0, 195), (194, .iconst 0, 1, 0, 195), (195, .iadd, 1, 0, 196), (196, .istore 4, 2, 0, 198), (198, .iinc 6 (1), 3, 1, 201), (201, .goto (-42), 3, 0, 159), (204, .iinc 5 (1), 3, 1, 207), (207, .goto (-61), 3, 0, 146), (210, .aload_n 0, 1, 0, 211), (211, .getfield 47, 3, 0, 214), (214, .bipush 90, 2, 90, 216), (216, .iload_n 1, 1, 0, 217)]
theorem kMd_agrees_2 : bOK cX12_agrees 7 pMd_agrees_2 = true := by decide +kernel
def pMd_agrees_3 : List BR := [(217, .imul, 1, 0, 218), (218, .iload_n 3, 1, 0, 219), (219, .iadd, 1, 0, 220), (220, .baload, 1, 0, 221), (221, .ifCond .ne (19), 3, 0, 240), (224, .aload_n 0, 1, 0, 225), (225, .getfield 50, 3, 0, 228), (228, .bipush 90, 2, 90, 230), (230, .iload_n 1, 1, 0, 231), (231, .imul, 1, 0, 232), (232, .iload_n 3, 1, 0, 233), (233, .iadd, 1, 0, 234), (234, .iaload, 1, 0, 235), (235, .iload 4, 2, 0, 237), (237, .if_icmp .ne (7), 3, 0, 244), (240, .iconst 1, 1, 1, 241), (241, .goto (4), 3, 0, 245), (244, .iconst 0, 1, 0, 245), (245, .istore_n 2, 1, 0, 246), (246, .iinc 3 (1), 3, 1, 249), (249, .goto (-126), 3, 0, 123), (252, .iload_n 2, 1, 0, 253), (253, .ireturn, 1, 0, 254)]
theorem kMd_agrees_3 : bOK cX12_agrees 7 pMd_agrees_3 = true := by decide +kernel
def pMd_agrees : List BR := (pMd_agrees_0 ++ (pMd_agrees_1 ++ (pMd_agrees_2 ++ pMd_agrees_3)))
theorem kMd_agrees : bOK cX12_agrees 7 pMd_agrees = true := (bOK_app kMd_agrees_0 (bOK_app kMd_agrees_1 (bOK_app kMd_agrees_2 kMd_agrees_3)))
def fMd_agrees_j245 (k123 : Int32 → Int32 → Int32 → Sg → Option (Int32 × Sg)) (x1 : Int32) (x3 : Int32) (s0 : Int32) (σ : Sg) : Option (Int32 × Sg) :=
  k123 x1 s0 (x3 + 1) σ
theorem wMd_agrees_j245 {X : MC} {G : GE} {n0 : Nat} (hG : gH G = true) (C : CX X G RX12 cX12_agrees pMd_agrees 7 (some .boolean) n0) (htab : ∀ z ∈ X.2.2.2.2.2.2.2.2.exceptionTable.toList, False) {M : Mm} {n : Nat} (k123 : Int32 → Int32 → Int32 → Sg → Option (Int32 × Sg)) (H123 : ∀ (x1 : Int32) (x2 : Int32) (x3 : Int32) (σ : Sg), JS X G 7 300 0 n0 (EM X G n0 7 300 (eS rvI M n)) (k123 x1 x2 x3 σ) (σ, M, n) 123 [(0, .inr (.inl (some (gM G)))), (1, .inl x1), (2, .inl x2), (3, .inl x3)] []) (x1 : Int32) (x3 : Int32) (s0 : Int32) (σ : Sg) : JS X G 7 300 0 n0 (EM X G n0 7 300 (eS rvI M n)) (fMd_agrees_j245 k123 x1 x3 s0 σ) (σ, M, n) 245 [(0, .inr (.inl (some (gM G)))), (1, .inl x1), (3, .inl x3)] [.inl s0] := by
  unfold fMd_agrees_j245
  refine s_blk C 138 3 [0, 1, 2, 3] (pc' := 123) (lv' := [(0, .inr (.inl (some (gM G)))), (1, .inl x1), (2, .inl s0), (3, .inl (x3 + 1))]) (st' := []) rfl ?_
  exact H123 _ _ _ _
def fMd_agrees_j240 (k123 : Int32 → Int32 → Int32 → Sg → Option (Int32 × Sg)) (x1 : Int32) (x3 : Int32) (σ : Sg) : Option (Int32 × Sg) :=
  fMd_agrees_j245 k123 x1 x3 1 σ
theorem wMd_agrees_j240 {X : MC} {G : GE} {n0 : Nat} (hG : gH G = true) (C : CX X G RX12 cX12_agrees pMd_agrees 7 (some .boolean) n0) (htab : ∀ z ∈ X.2.2.2.2.2.2.2.2.exceptionTable.toList, False) {M : Mm} {n : Nat} (k123 : Int32 → Int32 → Int32 → Sg → Option (Int32 × Sg)) (H123 : ∀ (x1 : Int32) (x2 : Int32) (x3 : Int32) (σ : Sg), JS X G 7 300 0 n0 (EM X G n0 7 300 (eS rvI M n)) (k123 x1 x2 x3 σ) (σ, M, n) 123 [(0, .inr (.inl (some (gM G)))), (1, .inl x1), (2, .inl x2), (3, .inl x3)] []) (x1 : Int32) (x3 : Int32) (σ : Sg) : JS X G 7 300 0 n0 (EM X G n0 7 300 (eS rvI M n)) (fMd_agrees_j240 k123 x1 x3 σ) (σ, M, n) 240 [(0, .inr (.inl (some (gM G)))), (1, .inl x1), (3, .inl x3)] [] := by
  unfold fMd_agrees_j240
  refine s_blk C 135 2 [0, 1, 3] (pc' := 245) (lv' := [(0, .inr (.inl (some (gM G)))), (1, .inl x1), (3, .inl x3)]) (st' := [.inl 1]) rfl ?_
  exact wMd_agrees_j245 hG C htab k123 H123 _ _ _ _
def fMd_agrees_j195 (k123 : Int32 → Int32 → Int32 → Sg → Option (Int32 × Sg)) (k146 : Int32 → Int32 → Int32 → Int32 → Sg → Option (Int32 × Sg)) (k159 : Int32 → Int32 → Int32 → Int32 → Int32 → Sg → Option (Int32 × Sg)) (x1 : Int32) (x3 : Int32) (x5 : Int32) (x6 : Int32) (s0 : Int32) (s1 : Int32) (σ : Sg) : Option (Int32 × Sg) :=
  k159 x1 x3 (s1 + s0) x5 (x6 + 1) σ
theorem wMd_agrees_j195 {X : MC} {G : GE} {n0 : Nat} (hG : gH G = true) (C : CX X G RX12 cX12_agrees pMd_agrees 7 (some .boolean) n0) (htab : ∀ z ∈ X.2.2.2.2.2.2.2.2.exceptionTable.toList, False) {M : Mm} {n : Nat} (k123 : Int32 → Int32 → Int32 → Sg → Option (Int32 × Sg)) (H123 : ∀ (x1 : Int32) (x2 : Int32) (x3 : Int32) (σ : Sg), JS X G 7 300 0 n0 (EM X G n0 7 300 (eS rvI M n)) (k123 x1 x2 x3 σ) (σ, M, n) 123 [(0, .inr (.inl (some (gM G)))), (1, .inl x1), (2, .inl x2), (3, .inl x3)] []) (k146 : Int32 → Int32 → Int32 → Int32 → Sg → Option (Int32 × Sg)) (H146 : ∀ (x1 : Int32) (x3 : Int32) (x4 : Int32) (x5 : Int32) (σ : Sg), JS X G 7 300 0 n0 (EM X G n0 7 300 (eS rvI M n)) (k146 x1 x3 x4 x5 σ) (σ, M, n) 146 [(0, .inr (.inl (some (gM G)))), (1, .inl x1), (3, .inl x3), (4, .inl x4), (5, .inl x5)] []) (k159 : Int32 → Int32 → Int32 → Int32 → Int32 → Sg → Option (Int32 × Sg)) (H159 : ∀ (x1 : Int32) (x3 : Int32) (x4 : Int32) (x5 : Int32) (x6 : Int32) (σ : Sg), JS X G 7 300 0 n0 (EM X G n0 7 300 (eS rvI M n)) (k159 x1 x3 x4 x5 x6 σ) (σ, M, n) 159 [(0, .inr (.inl (some (gM G)))), (1, .inl x1), (3, .inl x3), (4, .inl x4), (5, .inl x5), (6, .inl x6)] []) (x1 : Int32) (x3 : Int32) (x5 : Int32) (x6 : Int32) (s0 : Int32) (s1 : Int32) (σ : Sg) : JS X G 7 300 0 n0 (EM X G n0 7 300 (eS rvI M n)) (fMd_agrees_j195 k123 k146 k159 x1 x3 x5 x6 s0 s1 σ) (σ, M, n) 195 [(0, .inr (.inl (some (gM G)))), (1, .inl x1), (3, .inl x3), (5, .inl x5), (6, .inl x6)] [.inl s0, .inl s1] := by
  unfold fMd_agrees_j195
  refine s_blk C 110 4 [0, 1, 3, 4, 5, 6] (pc' := 159) (lv' := [(0, .inr (.inl (some (gM G)))), (1, .inl x1), (3, .inl x3), (4, .inl (s1 + s0)), (5, .inl x5), (6, .inl (x6 + 1))]) (st' := []) rfl ?_
  exact H159 _ _ _ _ _ _
def fMd_agrees_b159 (k123 : Int32 → Int32 → Int32 → Sg → Option (Int32 × Sg)) (k146 : Int32 → Int32 → Int32 → Int32 → Sg → Option (Int32 × Sg)) (k159 : Int32 → Int32 → Int32 → Int32 → Int32 → Sg → Option (Int32 × Sg)) (x1 : Int32) (x3 : Int32) (x4 : Int32) (x5 : Int32) (x6 : Int32) (σ : Sg) : Option (Int32 × Sg) :=
  mgA 33 x5 σ fun v1 =>
  if v1 ≤ x6 then
    k146 x1 x3 x4 (x5 + 1) σ
  else
    mgA 34 ((20 * x5) + x6) σ fun v2 =>
    if v2 = x3 then
      fMd_agrees_j195 k123 k146 k159 x1 x3 x5 x6 1 x4 σ
    else
      fMd_agrees_j195 k123 k146 k159 x1 x3 x5 x6 0 x4 σ
theorem wMd_agrees_b159 {X : MC} {G : GE} {n0 : Nat} (hG : gH G = true) (C : CX X G RX12 cX12_agrees pMd_agrees 7 (some .boolean) n0) (htab : ∀ z ∈ X.2.2.2.2.2.2.2.2.exceptionTable.toList, False) {M : Mm} {n : Nat} (k123 : Int32 → Int32 → Int32 → Sg → Option (Int32 × Sg)) (H123 : ∀ (x1 : Int32) (x2 : Int32) (x3 : Int32) (σ : Sg), JS X G 7 300 0 n0 (EM X G n0 7 300 (eS rvI M n)) (k123 x1 x2 x3 σ) (σ, M, n) 123 [(0, .inr (.inl (some (gM G)))), (1, .inl x1), (2, .inl x2), (3, .inl x3)] []) (k146 : Int32 → Int32 → Int32 → Int32 → Sg → Option (Int32 × Sg)) (H146 : ∀ (x1 : Int32) (x3 : Int32) (x4 : Int32) (x5 : Int32) (σ : Sg), JS X G 7 300 0 n0 (EM X G n0 7 300 (eS rvI M n)) (k146 x1 x3 x4 x5 σ) (σ, M, n) 146 [(0, .inr (.inl (some (gM G)))), (1, .inl x1), (3, .inl x3), (4, .inl x4), (5, .inl x5)] []) (k159 : Int32 → Int32 → Int32 → Int32 → Int32 → Sg → Option (Int32 × Sg)) (H159 : ∀ (x1 : Int32) (x3 : Int32) (x4 : Int32) (x5 : Int32) (x6 : Int32) (σ : Sg), JS X G 7 300 0 n0 (EM X G n0 7 300 (eS rvI M n)) (k159 x1 x3 x4 x5 x6 σ) (σ, M, n) 159 [(0, .inr (.inl (some (gM G)))), (1, .inl x1), (3, .inl x3), (4, .inl x4), (5, .inl x5), (6, .inl x6)] []) (x1 : Int32) (x3 : Int32) (x4 : Int32) (x5 : Int32) (x6 : Int32) (σ : Sg) : JS X G 7 300 0 n0 (EM X G n0 7 300 (eS rvI M n)) (fMd_agrees_b159 k123 k146 k159 x1 x3 x4 x5 x6 σ) (σ, M, n) 159 [(0, .inr (.inl (some (gM G)))), (1, .inl x1), (3, .inl x3), (4, .inl x4), (5, .inl x5), (6, .inl x6)] [] := by
  unfold fMd_agrees_b159
  refine s_blk C 90 2 [0, 1, 3, 4, 5, 6] (pc' := 162) (lv' := [(0, .inr (.inl (some (gM G)))), (1, .inl x1), (3, .inl x3), (4, .inl x4), (5, .inl x5), (6, .inl x6)]) (st' := [.inr (.inl (some (gM G))), .inl x6]) rfl ?_
  refine s_mR hG C 92 rfl 33 fl_X12_89 rfl ?_
  refine s_blk C 93 1 [0, 1, 3, 4, 5, 6] (pc' := 167) (lv' := [(0, .inr (.inl (some (gM G)))), (1, .inl x1), (3, .inl x3), (4, .inl x4), (5, .inl x5), (6, .inl x6)]) (st' := [.inl x5, .inr (.inl (some (gA G 33))), .inl x6]) rfl ?_
  refine s_mldI hG C 94 rfl rfl rfl (fun v1 => ?_)
  refine s_icge C 95 rfl (fun _ => ?_) (fun _ => ?_)
  · refine s_blk C 114 2 [0, 1, 3, 4, 5] (pc' := 146) (lv' := [(0, .inr (.inl (some (gM G)))), (1, .inl x1), (3, .inl x3), (4, .inl x4), (5, .inl (x5 + 1))]) (st' := []) rfl ?_
    exact H146 _ _ _ _ _
  refine s_blk C 96 2 [0, 1, 3, 5, 6] (pc' := 174) (lv' := [(0, .inr (.inl (some (gM G)))), (1, .inl x1), (3, .inl x3), (5, .inl x5), (6, .inl x6)]) (st' := [.inr (.inl (some (gM G))), .inl x4]) rfl ?_
  refine s_mR hG C 98 rfl 34 fl_X12_92 rfl ?_
  refine s_blk C 99 5 [0, 1, 3, 5, 6] (pc' := 185) (lv' := [(0, .inr (.inl (some (gM G)))), (1, .inl x1), (3, .inl x3), (5, .inl x5), (6, .inl x6)]) (st' := [.inl ((20 * x5) + x6), .inr (.inl (some (gA G 34))), .inl x4]) rfl ?_
  refine s_mldI hG C 104 rfl rfl rfl (fun v2 => ?_)
  refine s_blk C 105 1 [0, 1, 3, 5, 6] (pc' := 187) (lv' := [(0, .inr (.inl (some (gM G)))), (1, .inl x1), (3, .inl x3), (5, .inl x5), (6, .inl x6)]) (st' := [.inl x3, .inl v2, .inl x4]) rfl ?_
  refine s_icne C 106 rfl (fun _ => ?_) (fun _ => ?_)
  · refine s_blk C 107 2 [0, 1, 3, 5, 6] (pc' := 195) (lv' := [(0, .inr (.inl (some (gM G)))), (1, .inl x1), (3, .inl x3), (5, .inl x5), (6, .inl x6)]) (st' := [.inl 1, .inl x4]) rfl ?_
    exact wMd_agrees_j195 hG C htab k123 H123 k146 H146 k159 H159 _ _ _ _ _ _ _
  refine s_blk C 109 1 [0, 1, 3, 5, 6] (pc' := 195) (lv' := [(0, .inr (.inl (some (gM G)))), (1, .inl x1), (3, .inl x3), (5, .inl x5), (6, .inl x6)]) (st' := [.inl 0, .inl x4]) rfl ?_
  exact wMd_agrees_j195 hG C htab k123 H123 k146 H146 k159 H159 _ _ _ _ _ _ _
def fMd_agrees_l159 (k123 : Int32 → Int32 → Int32 → Sg → Option (Int32 × Sg)) (k146 : Int32 → Int32 → Int32 → Int32 → Sg → Option (Int32 × Sg)) (fu : Nat) : Int32 → Int32 → Int32 → Int32 → Int32 → Sg → Option (Int32 × Sg) := Nat.rec (fun x1 x3 x4 x5 x6 σ => none) (fun _ k => fMd_agrees_b159 k123 k146 k) fu
theorem wMd_agrees_l159 {X : MC} {G : GE} {n0 : Nat} (hG : gH G = true) (C : CX X G RX12 cX12_agrees pMd_agrees 7 (some .boolean) n0) (htab : ∀ z ∈ X.2.2.2.2.2.2.2.2.exceptionTable.toList, False) {M : Mm} {n : Nat} (k123 : Int32 → Int32 → Int32 → Sg → Option (Int32 × Sg)) (H123 : ∀ (x1 : Int32) (x2 : Int32) (x3 : Int32) (σ : Sg), JS X G 7 300 0 n0 (EM X G n0 7 300 (eS rvI M n)) (k123 x1 x2 x3 σ) (σ, M, n) 123 [(0, .inr (.inl (some (gM G)))), (1, .inl x1), (2, .inl x2), (3, .inl x3)] []) (k146 : Int32 → Int32 → Int32 → Int32 → Sg → Option (Int32 × Sg)) (H146 : ∀ (x1 : Int32) (x3 : Int32) (x4 : Int32) (x5 : Int32) (σ : Sg), JS X G 7 300 0 n0 (EM X G n0 7 300 (eS rvI M n)) (k146 x1 x3 x4 x5 σ) (σ, M, n) 146 [(0, .inr (.inl (some (gM G)))), (1, .inl x1), (3, .inl x3), (4, .inl x4), (5, .inl x5)] []) : ∀ (fu : Nat) (x1 : Int32) (x3 : Int32) (x4 : Int32) (x5 : Int32) (x6 : Int32) (σ : Sg), JS X G 7 300 0 n0 (EM X G n0 7 300 (eS rvI M n)) (fMd_agrees_l159 k123 k146 fu x1 x3 x4 x5 x6 σ) (σ, M, n) 159 [(0, .inr (.inl (some (gM G)))), (1, .inl x1), (3, .inl x3), (4, .inl x4), (5, .inl x5), (6, .inl x6)] [] := by
  intro fu
  induction fu with
  | zero => intro x1 x3 x4 x5 x6 σ; exact s_none
  | succ fu ih => intro x1 x3 x4 x5 x6 σ; exact wMd_agrees_b159 hG C htab k123 H123 k146 H146 (fMd_agrees_l159 k123 k146 fu) ih _ _ _ _ _ _
def fMd_agrees_b146 (k123 : Int32 → Int32 → Int32 → Sg → Option (Int32 × Sg)) (k146 : Int32 → Int32 → Int32 → Int32 → Sg → Option (Int32 × Sg)) (x1 : Int32) (x3 : Int32) (x4 : Int32) (x5 : Int32) (σ : Sg) : Option (Int32 × Sg) :=
  bdR (fMd_endOf x1 σ) fun v1 =>
  if v1 ≤ x5 then
    mgA 19 ((90 * x1) + x3) σ fun v2 =>
    if v2 = 0 then
      mgA 20 ((90 * x1) + x3) σ fun v3 =>
      if v3 = x4 then
        fMd_agrees_j240 k123 x1 x3 σ
      else
        fMd_agrees_j245 k123 x1 x3 0 σ
    else
      fMd_agrees_j240 k123 x1 x3 σ
  else
    fMd_agrees_l159 k123 k146 FU x1 x3 x4 x5 0 σ
theorem wMd_agrees_b146 {X : MC} {G : GE} {n0 : Nat} (hG : gH G = true) (C : CX X G RX12 cX12_agrees pMd_agrees 7 (some .boolean) n0) (htab : ∀ z ∈ X.2.2.2.2.2.2.2.2.exceptionTable.toList, False) {M : Mm} {n : Nat} (k123 : Int32 → Int32 → Int32 → Sg → Option (Int32 × Sg)) (H123 : ∀ (x1 : Int32) (x2 : Int32) (x3 : Int32) (σ : Sg), JS X G 7 300 0 n0 (EM X G n0 7 300 (eS rvI M n)) (k123 x1 x2 x3 σ) (σ, M, n) 123 [(0, .inr (.inl (some (gM G)))), (1, .inl x1), (2, .inl x2), (3, .inl x3)] []) (k146 : Int32 → Int32 → Int32 → Int32 → Sg → Option (Int32 × Sg)) (H146 : ∀ (x1 : Int32) (x3 : Int32) (x4 : Int32) (x5 : Int32) (σ : Sg), JS X G 7 300 0 n0 (EM X G n0 7 300 (eS rvI M n)) (k146 x1 x3 x4 x5 σ) (σ, M, n) 146 [(0, .inr (.inl (some (gM G)))), (1, .inl x1), (3, .inl x3), (4, .inl x4), (5, .inl x5)] []) (x1 : Int32) (x3 : Int32) (x4 : Int32) (x5 : Int32) (σ : Sg) : JS X G 7 300 0 n0 (EM X G n0 7 300 (eS rvI M n)) (fMd_agrees_b146 k123 k146 x1 x3 x4 x5 σ) (σ, M, n) 146 [(0, .inr (.inl (some (gM G)))), (1, .inl x1), (3, .inl x3), (4, .inl x4), (5, .inl x5)] [] := by
  unfold fMd_agrees_b146
  refine s_blk C 83 3 [0, 1, 3, 4, 5] (pc' := 150) (lv' := [(0, .inr (.inl (some (gM G)))), (1, .inl x1), (3, .inl x3), (4, .inl x4), (5, .inl x5)]) (st' := [.inl x1, .inr (.inl (some (gM G))), .inl x5]) rfl ?_
  refine s_RI (CE_EM _ _ _ _ _ _) (st := [.inl x5]) (fun o ho => j_callV (As := [.inl x1]) (st := [.inl x5]) (b := gM G) C 86 rfl mf_Md_endOf ml_X12_219 rfl (recv_M hG C) (by decide) (by decide) (Nat.le_refl _) rfl (cMd_endOf (CX_tr C) hG σ M n x1 o ho)) (fun v1 => ?_)
  refine s_icge C 87 rfl (fun _ => ?_) (fun _ => ?_)
  · refine s_blk C 116 1 [0, 1, 3, 4] (pc' := 211) (lv' := [(0, .inr (.inl (some (gM G)))), (1, .inl x1), (3, .inl x3), (4, .inl x4)]) (st' := [.inr (.inl (some (gM G)))]) rfl ?_
    refine s_mR hG C 117 rfl 19 fl_X12_47 rfl ?_
    refine s_blk C 118 5 [0, 1, 3, 4] (pc' := 220) (lv' := [(0, .inr (.inl (some (gM G)))), (1, .inl x1), (3, .inl x3), (4, .inl x4)]) (st' := [.inl ((90 * x1) + x3), .inr (.inl (some (gA G 19)))]) rfl ?_
    refine s_mldZ hG C 123 rfl rfl rfl (fun v2 => ?_)
    refine s_ine C 124 rfl (fun _ => ?_) (fun _ => ?_)
    · refine s_blk C 125 1 [0, 1, 3, 4] (pc' := 225) (lv' := [(0, .inr (.inl (some (gM G)))), (1, .inl x1), (3, .inl x3), (4, .inl x4)]) (st' := [.inr (.inl (some (gM G)))]) rfl ?_
      refine s_mR hG C 126 rfl 20 fl_X12_50 rfl ?_
      refine s_blk C 127 5 [0, 1, 3, 4] (pc' := 234) (lv' := [(0, .inr (.inl (some (gM G)))), (1, .inl x1), (3, .inl x3), (4, .inl x4)]) (st' := [.inl ((90 * x1) + x3), .inr (.inl (some (gA G 20)))]) rfl ?_
      refine s_mldI hG C 132 rfl rfl rfl (fun v3 => ?_)
      refine s_blk C 133 1 [0, 1, 3] (pc' := 237) (lv' := [(0, .inr (.inl (some (gM G)))), (1, .inl x1), (3, .inl x3)]) (st' := [.inl x4, .inl v3]) rfl ?_
      refine s_icne C 134 rfl (fun _ => ?_) (fun _ => ?_)
      · exact wMd_agrees_j240 hG C htab k123 H123 _ _ _
      refine s_blk C 137 1 [0, 1, 3] (pc' := 245) (lv' := [(0, .inr (.inl (some (gM G)))), (1, .inl x1), (3, .inl x3)]) (st' := [.inl 0]) rfl ?_
      exact wMd_agrees_j245 hG C htab k123 H123 _ _ _ _
    refine s_blk C 0 0 [0, 1, 3] (pc' := 240) (lv' := [(0, .inr (.inl (some (gM G)))), (1, .inl x1), (3, .inl x3)]) (st' := []) rfl ?_
    exact wMd_agrees_j240 hG C htab k123 H123 _ _ _
  refine s_blk C 88 2 [0, 1, 3, 4, 5, 6] (pc' := 159) (lv' := [(0, .inr (.inl (some (gM G)))), (1, .inl x1), (3, .inl x3), (4, .inl x4), (5, .inl x5), (6, .inl 0)]) (st' := []) rfl ?_
  exact wMd_agrees_l159 hG C htab k123 H123 k146 H146 FU _ _ _ _ _ _
def fMd_agrees_l146 (k123 : Int32 → Int32 → Int32 → Sg → Option (Int32 × Sg)) (fu : Nat) : Int32 → Int32 → Int32 → Int32 → Sg → Option (Int32 × Sg) := Nat.rec (fun x1 x3 x4 x5 σ => none) (fun _ k => fMd_agrees_b146 k123 k) fu
theorem wMd_agrees_l146 {X : MC} {G : GE} {n0 : Nat} (hG : gH G = true) (C : CX X G RX12 cX12_agrees pMd_agrees 7 (some .boolean) n0) (htab : ∀ z ∈ X.2.2.2.2.2.2.2.2.exceptionTable.toList, False) {M : Mm} {n : Nat} (k123 : Int32 → Int32 → Int32 → Sg → Option (Int32 × Sg)) (H123 : ∀ (x1 : Int32) (x2 : Int32) (x3 : Int32) (σ : Sg), JS X G 7 300 0 n0 (EM X G n0 7 300 (eS rvI M n)) (k123 x1 x2 x3 σ) (σ, M, n) 123 [(0, .inr (.inl (some (gM G)))), (1, .inl x1), (2, .inl x2), (3, .inl x3)] []) : ∀ (fu : Nat) (x1 : Int32) (x3 : Int32) (x4 : Int32) (x5 : Int32) (σ : Sg), JS X G 7 300 0 n0 (EM X G n0 7 300 (eS rvI M n)) (fMd_agrees_l146 k123 fu x1 x3 x4 x5 σ) (σ, M, n) 146 [(0, .inr (.inl (some (gM G)))), (1, .inl x1), (3, .inl x3), (4, .inl x4), (5, .inl x5)] [] := by
  intro fu
  induction fu with
  | zero => intro x1 x3 x4 x5 σ; exact s_none
  | succ fu ih => intro x1 x3 x4 x5 σ; exact wMd_agrees_b146 hG C htab k123 H123 (fMd_agrees_l146 k123 fu) ih _ _ _ _ _
def fMd_agrees_b123 (k123 : Int32 → Int32 → Int32 → Sg → Option (Int32 × Sg)) (x1 : Int32) (x2 : Int32) (x3 : Int32) (σ : Sg) : Option (Int32 × Sg) :=
  mgA 18 x1 σ fun v1 =>
  if v1 ≤ x3 then
    rZ x2 (some (x2, σ))
  else
    if x2 = 0 then
      rZ x2 (some (x2, σ))
    else
      fMd_agrees_l146 k123 FU x1 x3 0 (40 * x1) σ
theorem wMd_agrees_b123 {X : MC} {G : GE} {n0 : Nat} (hG : gH G = true) (C : CX X G RX12 cX12_agrees pMd_agrees 7 (some .boolean) n0) (htab : ∀ z ∈ X.2.2.2.2.2.2.2.2.exceptionTable.toList, False) {M : Mm} {n : Nat} (k123 : Int32 → Int32 → Int32 → Sg → Option (Int32 × Sg)) (H123 : ∀ (x1 : Int32) (x2 : Int32) (x3 : Int32) (σ : Sg), JS X G 7 300 0 n0 (EM X G n0 7 300 (eS rvI M n)) (k123 x1 x2 x3 σ) (σ, M, n) 123 [(0, .inr (.inl (some (gM G)))), (1, .inl x1), (2, .inl x2), (3, .inl x3)] []) (x1 : Int32) (x2 : Int32) (x3 : Int32) (σ : Sg) : JS X G 7 300 0 n0 (EM X G n0 7 300 (eS rvI M n)) (fMd_agrees_b123 k123 x1 x2 x3 σ) (σ, M, n) 123 [(0, .inr (.inl (some (gM G)))), (1, .inl x1), (2, .inl x2), (3, .inl x3)] [] := by
  unfold fMd_agrees_b123
  refine s_blk C 69 2 [0, 1, 2, 3] (pc' := 125) (lv' := [(0, .inr (.inl (some (gM G)))), (1, .inl x1), (2, .inl x2), (3, .inl x3)]) (st' := [.inr (.inl (some (gM G))), .inl x3]) rfl ?_
  refine s_mR hG C 71 rfl 18 fl_X12_44 rfl ?_
  refine s_blk C 72 1 [0, 1, 2, 3] (pc' := 129) (lv' := [(0, .inr (.inl (some (gM G)))), (1, .inl x1), (2, .inl x2), (3, .inl x3)]) (st' := [.inl x1, .inr (.inl (some (gA G 18))), .inl x3]) rfl ?_
  refine s_mldI hG C 73 rfl rfl rfl (fun v1 => ?_)
  refine s_icge C 74 rfl (fun _ => ?_) (fun _ => ?_)
  · refine s_blk C 141 1 [] (pc' := 253) (lv' := []) (st' := [.inl x2]) rfl ?_
    exact s_zret C 142 rfl rfl
  refine s_blk C 75 1 [0, 1, 2, 3] (pc' := 134) (lv' := [(0, .inr (.inl (some (gM G)))), (1, .inl x1), (2, .inl x2), (3, .inl x3)]) (st' := [.inl x2]) rfl ?_
  refine s_ieq C 76 rfl (fun _ => ?_) (fun _ => ?_)
  · refine s_blk C 141 1 [] (pc' := 253) (lv' := []) (st' := [.inl x2]) rfl ?_
    exact s_zret C 142 rfl rfl
  refine s_blk C 77 6 [0, 1, 3, 4, 5] (pc' := 146) (lv' := [(0, .inr (.inl (some (gM G)))), (1, .inl x1), (3, .inl x3), (4, .inl 0), (5, .inl (40 * x1))]) (st' := []) rfl ?_
  exact wMd_agrees_l146 hG C htab k123 H123 FU _ _ _ _ _
def fMd_agrees_l123 (fu : Nat) : Int32 → Int32 → Int32 → Sg → Option (Int32 × Sg) := Nat.rec (fun x1 x2 x3 σ => none) (fun _ k => fMd_agrees_b123 k) fu
theorem wMd_agrees_l123 {X : MC} {G : GE} {n0 : Nat} (hG : gH G = true) (C : CX X G RX12 cX12_agrees pMd_agrees 7 (some .boolean) n0) (htab : ∀ z ∈ X.2.2.2.2.2.2.2.2.exceptionTable.toList, False) {M : Mm} {n : Nat} : ∀ (fu : Nat) (x1 : Int32) (x2 : Int32) (x3 : Int32) (σ : Sg), JS X G 7 300 0 n0 (EM X G n0 7 300 (eS rvI M n)) (fMd_agrees_l123 fu x1 x2 x3 σ) (σ, M, n) 123 [(0, .inr (.inl (some (gM G)))), (1, .inl x1), (2, .inl x2), (3, .inl x3)] [] := by
  intro fu
  induction fu with
  | zero => intro x1 x2 x3 σ; exact s_none
  | succ fu ih => intro x1 x2 x3 σ; exact wMd_agrees_b123 hG C htab (fMd_agrees_l123 fu) ih _ _ _ _
def fMd_agrees_j121 (x1 : Int32) (x2 : Int32) (σ : Sg) : Option (Int32 × Sg) :=
  fMd_agrees_l123 FU x1 x2 0 σ
theorem wMd_agrees_j121 {X : MC} {G : GE} {n0 : Nat} (hG : gH G = true) (C : CX X G RX12 cX12_agrees pMd_agrees 7 (some .boolean) n0) (htab : ∀ z ∈ X.2.2.2.2.2.2.2.2.exceptionTable.toList, False) {M : Mm} {n : Nat} (x1 : Int32) (x2 : Int32) (σ : Sg) : JS X G 7 300 0 n0 (EM X G n0 7 300 (eS rvI M n)) (fMd_agrees_j121 x1 x2 σ) (σ, M, n) 121 [(0, .inr (.inl (some (gM G)))), (1, .inl x1), (2, .inl x2)] [] := by
  unfold fMd_agrees_j121
  refine s_blk C 67 2 [0, 1, 2, 3] (pc' := 123) (lv' := [(0, .inr (.inl (some (gM G)))), (1, .inl x1), (2, .inl x2), (3, .inl 0)]) (st' := []) rfl ?_
  exact wMd_agrees_l123 hG C htab FU _ _ _ _
def fMd_agrees_j115 (k28 : Int32 → Int32 → Int32 → Sg → Option (Int32 × Sg)) (x1 : Int32) (x2 : Int32) (x3 : Int32) (σ : Sg) : Option (Int32 × Sg) :=
  k28 x1 x2 (x3 + 1) σ
theorem wMd_agrees_j115 {X : MC} {G : GE} {n0 : Nat} (hG : gH G = true) (C : CX X G RX12 cX12_agrees pMd_agrees 7 (some .boolean) n0) (htab : ∀ z ∈ X.2.2.2.2.2.2.2.2.exceptionTable.toList, False) {M : Mm} {n : Nat} (k28 : Int32 → Int32 → Int32 → Sg → Option (Int32 × Sg)) (H28 : ∀ (x1 : Int32) (x2 : Int32) (x3 : Int32) (σ : Sg), JS X G 7 300 0 n0 (EM X G n0 7 300 (eS rvI M n)) (k28 x1 x2 x3 σ) (σ, M, n) 28 [(0, .inr (.inl (some (gM G)))), (1, .inl x1), (2, .inl x2), (3, .inl x3)] []) (x1 : Int32) (x2 : Int32) (x3 : Int32) (σ : Sg) : JS X G 7 300 0 n0 (EM X G n0 7 300 (eS rvI M n)) (fMd_agrees_j115 k28 x1 x2 x3 σ) (σ, M, n) 115 [(0, .inr (.inl (some (gM G)))), (1, .inl x1), (2, .inl x2), (3, .inl x3)] [] := by
  unfold fMd_agrees_j115
  refine s_blk C 65 2 [0, 1, 2, 3] (pc' := 28) (lv' := [(0, .inr (.inl (some (gM G)))), (1, .inl x1), (2, .inl x2), (3, .inl (x3 + 1))]) (st' := []) rfl ?_
  exact H28 _ _ _ _
def fMd_agrees_j108 (k28 : Int32 → Int32 → Int32 → Sg → Option (Int32 × Sg)) (k44 : Int32 → Int32 → Int32 → Int32 → Sg → Option (Int32 × Sg)) (x1 : Int32) (x3 : Int32) (x4 : Int32) (s0 : Int32) (σ : Sg) : Option (Int32 × Sg) :=
  k44 x1 s0 x3 (x4 + 1) σ
theorem wMd_agrees_j108 {X : MC} {G : GE} {n0 : Nat} (hG : gH G = true) (C : CX X G RX12 cX12_agrees pMd_agrees 7 (some .boolean) n0) (htab : ∀ z ∈ X.2.2.2.2.2.2.2.2.exceptionTable.toList, False) {M : Mm} {n : Nat} (k28 : Int32 → Int32 → Int32 → Sg → Option (Int32 × Sg)) (H28 : ∀ (x1 : Int32) (x2 : Int32) (x3 : Int32) (σ : Sg), JS X G 7 300 0 n0 (EM X G n0 7 300 (eS rvI M n)) (k28 x1 x2 x3 σ) (σ, M, n) 28 [(0, .inr (.inl (some (gM G)))), (1, .inl x1), (2, .inl x2), (3, .inl x3)] []) (k44 : Int32 → Int32 → Int32 → Int32 → Sg → Option (Int32 × Sg)) (H44 : ∀ (x1 : Int32) (x2 : Int32) (x3 : Int32) (x4 : Int32) (σ : Sg), JS X G 7 300 0 n0 (EM X G n0 7 300 (eS rvI M n)) (k44 x1 x2 x3 x4 σ) (σ, M, n) 44 [(0, .inr (.inl (some (gM G)))), (1, .inl x1), (2, .inl x2), (3, .inl x3), (4, .inl x4)] []) (x1 : Int32) (x3 : Int32) (x4 : Int32) (s0 : Int32) (σ : Sg) : JS X G 7 300 0 n0 (EM X G n0 7 300 (eS rvI M n)) (fMd_agrees_j108 k28 k44 x1 x3 x4 s0 σ) (σ, M, n) 108 [(0, .inr (.inl (some (gM G)))), (1, .inl x1), (3, .inl x3), (4, .inl x4)] [.inl s0] := by
  unfold fMd_agrees_j108
  refine s_blk C 62 3 [0, 1, 2, 3, 4] (pc' := 44) (lv' := [(0, .inr (.inl (some (gM G)))), (1, .inl x1), (2, .inl s0), (3, .inl x3), (4, .inl (x4 + 1))]) (st' := []) rfl ?_
  exact H44 _ _ _ _ _
def fMd_agrees_j103 (k28 : Int32 → Int32 → Int32 → Sg → Option (Int32 × Sg)) (k44 : Int32 → Int32 → Int32 → Int32 → Sg → Option (Int32 × Sg)) (x1 : Int32) (x3 : Int32) (x4 : Int32) (σ : Sg) : Option (Int32 × Sg) :=
  fMd_agrees_j108 k28 k44 x1 x3 x4 1 σ
theorem wMd_agrees_j103 {X : MC} {G : GE} {n0 : Nat} (hG : gH G = true) (C : CX X G RX12 cX12_agrees pMd_agrees 7 (some .boolean) n0) (htab : ∀ z ∈ X.2.2.2.2.2.2.2.2.exceptionTable.toList, False) {M : Mm} {n : Nat} (k28 : Int32 → Int32 → Int32 → Sg → Option (Int32 × Sg)) (H28 : ∀ (x1 : Int32) (x2 : Int32) (x3 : Int32) (σ : Sg), JS X G 7 300 0 n0 (EM X G n0 7 300 (eS rvI M n)) (k28 x1 x2 x3 σ) (σ, M, n) 28 [(0, .inr (.inl (some (gM G)))), (1, .inl x1), (2, .inl x2), (3, .inl x3)] []) (k44 : Int32 → Int32 → Int32 → Int32 → Sg → Option (Int32 × Sg)) (H44 : ∀ (x1 : Int32) (x2 : Int32) (x3 : Int32) (x4 : Int32) (σ : Sg), JS X G 7 300 0 n0 (EM X G n0 7 300 (eS rvI M n)) (k44 x1 x2 x3 x4 σ) (σ, M, n) 44 [(0, .inr (.inl (some (gM G)))), (1, .inl x1), (2, .inl x2), (3, .inl x3), (4, .inl x4)] []) (x1 : Int32) (x3 : Int32) (x4 : Int32) (σ : Sg) : JS X G 7 300 0 n0 (EM X G n0 7 300 (eS rvI M n)) (fMd_agrees_j103 k28 k44 x1 x3 x4 σ) (σ, M, n) 103 [(0, .inr (.inl (some (gM G)))), (1, .inl x1), (3, .inl x3), (4, .inl x4)] [] := by
  unfold fMd_agrees_j103
  refine s_blk C 59 2 [0, 1, 3, 4] (pc' := 108) (lv' := [(0, .inr (.inl (some (gM G)))), (1, .inl x1), (3, .inl x3), (4, .inl x4)]) (st' := [.inl 1]) rfl ?_
  exact wMd_agrees_j108 hG C htab k28 H28 k44 H44 _ _ _ _ _
def fMd_agrees_b44 (k28 : Int32 → Int32 → Int32 → Sg → Option (Int32 × Sg)) (k44 : Int32 → Int32 → Int32 → Int32 → Sg → Option (Int32 × Sg)) (x1 : Int32) (x2 : Int32) (x3 : Int32) (x4 : Int32) (σ : Sg) : Option (Int32 × Sg) :=
  mgA 27 x3 σ fun v1 =>
  mgA 9 v1 σ fun v2 =>
  if v2 ≤ x4 then
    fMd_agrees_j115 k28 x1 x2 x3 σ
  else
    if x2 = 0 then
      fMd_agrees_j115 k28 x1 x2 x3 σ
    else
      bdW (fMd_byteOf x1 x3 x4 σ) fun v3 σ4 =>
      if v3 = (-4) then
        fMd_agrees_j103 k28 k44 x1 x3 x4 σ4
      else
        mgA 27 x3 σ4 fun v5 =>
        mgA 10 ((40 * v5) + x4) σ4 fun v6 =>
        if v3 = v6 then
          fMd_agrees_j103 k28 k44 x1 x3 x4 σ4
        else
          fMd_agrees_j108 k28 k44 x1 x3 x4 0 σ4
theorem wMd_agrees_b44 {X : MC} {G : GE} {n0 : Nat} (hG : gH G = true) (C : CX X G RX12 cX12_agrees pMd_agrees 7 (some .boolean) n0) (htab : ∀ z ∈ X.2.2.2.2.2.2.2.2.exceptionTable.toList, False) {M : Mm} {n : Nat} (k28 : Int32 → Int32 → Int32 → Sg → Option (Int32 × Sg)) (H28 : ∀ (x1 : Int32) (x2 : Int32) (x3 : Int32) (σ : Sg), JS X G 7 300 0 n0 (EM X G n0 7 300 (eS rvI M n)) (k28 x1 x2 x3 σ) (σ, M, n) 28 [(0, .inr (.inl (some (gM G)))), (1, .inl x1), (2, .inl x2), (3, .inl x3)] []) (k44 : Int32 → Int32 → Int32 → Int32 → Sg → Option (Int32 × Sg)) (H44 : ∀ (x1 : Int32) (x2 : Int32) (x3 : Int32) (x4 : Int32) (σ : Sg), JS X G 7 300 0 n0 (EM X G n0 7 300 (eS rvI M n)) (k44 x1 x2 x3 x4 σ) (σ, M, n) 44 [(0, .inr (.inl (some (gM G)))), (1, .inl x1), (2, .inl x2), (3, .inl x3), (4, .inl x4)] []) (x1 : Int32) (x2 : Int32) (x3 : Int32) (x4 : Int32) (σ : Sg) : JS X G 7 300 0 n0 (EM X G n0 7 300 (eS rvI M n)) (fMd_agrees_b44 k28 k44 x1 x2 x3 x4 σ) (σ, M, n) 44 [(0, .inr (.inl (some (gM G)))), (1, .inl x1), (2, .inl x2), (3, .inl x3), (4, .inl x4)] [] := by
  unfold fMd_agrees_b44
  refine s_blk C 26 2 [0, 1, 2, 3, 4] (pc' := 47) (lv' := [(0, .inr (.inl (some (gM G)))), (1, .inl x1), (2, .inl x2), (3, .inl x3), (4, .inl x4)]) (st' := [.inr (.inl (some (gM G))), .inl x4]) rfl ?_
  refine s_mR hG C 28 rfl 9 fl_X12_22 rfl ?_
  refine s_blk C 29 1 [0, 1, 2, 3, 4] (pc' := 51) (lv' := [(0, .inr (.inl (some (gM G)))), (1, .inl x1), (2, .inl x2), (3, .inl x3), (4, .inl x4)]) (st' := [.inr (.inl (some (gM G))), .inr (.inl (some (gA G 9))), .inl x4]) rfl ?_
  refine s_mR hG C 30 rfl 27 fl_X12_71 rfl ?_
  refine s_blk C 31 1 [0, 1, 2, 3, 4] (pc' := 55) (lv' := [(0, .inr (.inl (some (gM G)))), (1, .inl x1), (2, .inl x2), (3, .inl x3), (4, .inl x4)]) (st' := [.inl x3, .inr (.inl (some (gA G 27))), .inr (.inl (some (gA G 9))), .inl x4]) rfl ?_
  refine s_mldI hG C 32 rfl rfl rfl (fun v1 => ?_)
  refine s_mldI hG C 33 rfl rfl rfl (fun v2 => ?_)
  refine s_icge C 34 rfl (fun _ => ?_) (fun _ => ?_)
  · refine s_blk C 0 0 [0, 1, 2, 3] (pc' := 115) (lv' := [(0, .inr (.inl (some (gM G)))), (1, .inl x1), (2, .inl x2), (3, .inl x3)]) (st' := []) rfl ?_
    exact wMd_agrees_j115 hG C htab k28 H28 _ _ _ _
  refine s_blk C 35 1 [0, 1, 2, 3, 4] (pc' := 61) (lv' := [(0, .inr (.inl (some (gM G)))), (1, .inl x1), (2, .inl x2), (3, .inl x3), (4, .inl x4)]) (st' := [.inl x2]) rfl ?_
  refine s_ieq C 36 rfl (fun _ => ?_) (fun _ => ?_)
  · refine s_blk C 0 0 [0, 1, 2, 3] (pc' := 115) (lv' := [(0, .inr (.inl (some (gM G)))), (1, .inl x1), (2, .inl x2), (3, .inl x3)]) (st' := []) rfl ?_
    exact wMd_agrees_j115 hG C htab k28 H28 _ _ _ _
  refine s_blk C 37 4 [0, 1, 3, 4] (pc' := 69) (lv' := [(0, .inr (.inl (some (gM G)))), (1, .inl x1), (3, .inl x3), (4, .inl x4)]) (st' := [.inl x4, .inl x3, .inl x1, .inr (.inl (some (gM G)))]) rfl ?_
  refine s_SI (CE_EM _ _ _ _ _ _) (st := []) (fun o ho => j_callV (As := [.inl x1, .inl x3, .inl x4]) (st := []) (b := gM G) C 41 rfl mf_Md_byteOf ml_X12_280 rfl (recv_M hG C) (by decide) (by decide) (Nat.le_refl _) rfl (cMd_byteOf (CX_tr C) hG σ M n x1 x3 x4 o ho)) (fun v3 σ4 => ?_)
  refine s_blk C 42 3 [0, 1, 3, 4, 5] (pc' := 78) (lv' := [(0, .inr (.inl (some (gM G)))), (1, .inl x1), (3, .inl x3), (4, .inl x4), (5, .inl v3)]) (st' := [.inl (-4), .inl v3]) rfl ?_
  refine s_iceq C 45 rfl (fun _ => ?_) (fun _ => ?_)
  · refine s_blk C 0 0 [0, 1, 3, 4] (pc' := 103) (lv' := [(0, .inr (.inl (some (gM G)))), (1, .inl x1), (3, .inl x3), (4, .inl x4)]) (st' := []) rfl ?_
    exact wMd_agrees_j103 hG C htab k28 H28 k44 H44 _ _ _ _
  refine s_blk C 46 2 [0, 1, 3, 4] (pc' := 84) (lv' := [(0, .inr (.inl (some (gM G)))), (1, .inl x1), (3, .inl x3), (4, .inl x4)]) (st' := [.inr (.inl (some (gM G))), .inl v3]) rfl ?_
  refine s_mR hG C 48 rfl 10 fl_X12_25 rfl ?_
  refine s_blk C 49 2 [0, 1, 3, 4] (pc' := 90) (lv' := [(0, .inr (.inl (some (gM G)))), (1, .inl x1), (3, .inl x3), (4, .inl x4)]) (st' := [.inr (.inl (some (gM G))), .inl 40, .inr (.inl (some (gA G 10))), .inl v3]) rfl ?_
  refine s_mR hG C 51 rfl 27 fl_X12_71 rfl ?_
  refine s_blk C 52 1 [0, 1, 3, 4] (pc' := 94) (lv' := [(0, .inr (.inl (some (gM G)))), (1, .inl x1), (3, .inl x3), (4, .inl x4)]) (st' := [.inl x3, .inr (.inl (some (gA G 27))), .inl 40, .inr (.inl (some (gA G 10))), .inl v3]) rfl ?_
  refine s_mldI hG C 53 rfl rfl rfl (fun v5 => ?_)
  refine s_blk C 54 3 [0, 1, 3, 4] (pc' := 99) (lv' := [(0, .inr (.inl (some (gM G)))), (1, .inl x1), (3, .inl x3), (4, .inl x4)]) (st' := [.inl ((40 * v5) + x4), .inr (.inl (some (gA G 10))), .inl v3]) rfl ?_
  refine s_mldI hG C 57 rfl rfl rfl (fun v6 => ?_)
  refine s_icne C 58 rfl (fun _ => ?_) (fun _ => ?_)
  · exact wMd_agrees_j103 hG C htab k28 H28 k44 H44 _ _ _ _
  refine s_blk C 61 1 [0, 1, 3, 4] (pc' := 108) (lv' := [(0, .inr (.inl (some (gM G)))), (1, .inl x1), (3, .inl x3), (4, .inl x4)]) (st' := [.inl 0]) rfl ?_
  exact wMd_agrees_j108 hG C htab k28 H28 k44 H44 _ _ _ _ _
def fMd_agrees_l44 (k28 : Int32 → Int32 → Int32 → Sg → Option (Int32 × Sg)) (fu : Nat) : Int32 → Int32 → Int32 → Int32 → Sg → Option (Int32 × Sg) := Nat.rec (fun x1 x2 x3 x4 σ => none) (fun _ k => fMd_agrees_b44 k28 k) fu
theorem wMd_agrees_l44 {X : MC} {G : GE} {n0 : Nat} (hG : gH G = true) (C : CX X G RX12 cX12_agrees pMd_agrees 7 (some .boolean) n0) (htab : ∀ z ∈ X.2.2.2.2.2.2.2.2.exceptionTable.toList, False) {M : Mm} {n : Nat} (k28 : Int32 → Int32 → Int32 → Sg → Option (Int32 × Sg)) (H28 : ∀ (x1 : Int32) (x2 : Int32) (x3 : Int32) (σ : Sg), JS X G 7 300 0 n0 (EM X G n0 7 300 (eS rvI M n)) (k28 x1 x2 x3 σ) (σ, M, n) 28 [(0, .inr (.inl (some (gM G)))), (1, .inl x1), (2, .inl x2), (3, .inl x3)] []) : ∀ (fu : Nat) (x1 : Int32) (x2 : Int32) (x3 : Int32) (x4 : Int32) (σ : Sg), JS X G 7 300 0 n0 (EM X G n0 7 300 (eS rvI M n)) (fMd_agrees_l44 k28 fu x1 x2 x3 x4 σ) (σ, M, n) 44 [(0, .inr (.inl (some (gM G)))), (1, .inl x1), (2, .inl x2), (3, .inl x3), (4, .inl x4)] [] := by
  intro fu
  induction fu with
  | zero => intro x1 x2 x3 x4 σ; exact s_none
  | succ fu ih => intro x1 x2 x3 x4 σ; exact wMd_agrees_b44 hG C htab k28 H28 (fMd_agrees_l44 k28 fu) ih _ _ _ _ _
def fMd_agrees_b28 (k28 : Int32 → Int32 → Int32 → Sg → Option (Int32 × Sg)) (x1 : Int32) (x2 : Int32) (x3 : Int32) (σ : Sg) : Option (Int32 × Sg) :=
  bdR (fMd_endOf x1 σ) fun v1 =>
  if v1 ≤ x3 then
    fMd_agrees_j121 x1 x2 σ
  else
    if x2 = 0 then
      fMd_agrees_j121 x1 x2 σ
    else
      fMd_agrees_l44 k28 FU x1 x2 x3 0 σ
theorem wMd_agrees_b28 {X : MC} {G : GE} {n0 : Nat} (hG : gH G = true) (C : CX X G RX12 cX12_agrees pMd_agrees 7 (some .boolean) n0) (htab : ∀ z ∈ X.2.2.2.2.2.2.2.2.exceptionTable.toList, False) {M : Mm} {n : Nat} (k28 : Int32 → Int32 → Int32 → Sg → Option (Int32 × Sg)) (H28 : ∀ (x1 : Int32) (x2 : Int32) (x3 : Int32) (σ : Sg), JS X G 7 300 0 n0 (EM X G n0 7 300 (eS rvI M n)) (k28 x1 x2 x3 σ) (σ, M, n) 28 [(0, .inr (.inl (some (gM G)))), (1, .inl x1), (2, .inl x2), (3, .inl x3)] []) (x1 : Int32) (x2 : Int32) (x3 : Int32) (σ : Sg) : JS X G 7 300 0 n0 (EM X G n0 7 300 (eS rvI M n)) (fMd_agrees_b28 k28 x1 x2 x3 σ) (σ, M, n) 28 [(0, .inr (.inl (some (gM G)))), (1, .inl x1), (2, .inl x2), (3, .inl x3)] [] := by
  unfold fMd_agrees_b28
  refine s_blk C 17 3 [0, 1, 2, 3] (pc' := 31) (lv' := [(0, .inr (.inl (some (gM G)))), (1, .inl x1), (2, .inl x2), (3, .inl x3)]) (st' := [.inl x1, .inr (.inl (some (gM G))), .inl x3]) rfl ?_
  refine s_RI (CE_EM _ _ _ _ _ _) (st := [.inl x3]) (fun o ho => j_callV (As := [.inl x1]) (st := [.inl x3]) (b := gM G) C 20 rfl mf_Md_endOf ml_X12_219 rfl (recv_M hG C) (by decide) (by decide) (Nat.le_refl _) rfl (cMd_endOf (CX_tr C) hG σ M n x1 o ho)) (fun v1 => ?_)
  refine s_icge C 21 rfl (fun _ => ?_) (fun _ => ?_)
  · refine s_blk C 0 0 [0, 1, 2] (pc' := 121) (lv' := [(0, .inr (.inl (some (gM G)))), (1, .inl x1), (2, .inl x2)]) (st' := []) rfl ?_
    exact wMd_agrees_j121 hG C htab _ _ _
  refine s_blk C 22 1 [0, 1, 2, 3] (pc' := 38) (lv' := [(0, .inr (.inl (some (gM G)))), (1, .inl x1), (2, .inl x2), (3, .inl x3)]) (st' := [.inl x2]) rfl ?_
  refine s_ieq C 23 rfl (fun _ => ?_) (fun _ => ?_)
  · refine s_blk C 0 0 [0, 1, 2] (pc' := 121) (lv' := [(0, .inr (.inl (some (gM G)))), (1, .inl x1), (2, .inl x2)]) (st' := []) rfl ?_
    exact wMd_agrees_j121 hG C htab _ _ _
  refine s_blk C 24 2 [0, 1, 2, 3, 4] (pc' := 44) (lv' := [(0, .inr (.inl (some (gM G)))), (1, .inl x1), (2, .inl x2), (3, .inl x3), (4, .inl 0)]) (st' := []) rfl ?_
  exact wMd_agrees_l44 hG C htab k28 H28 FU _ _ _ _ _
def fMd_agrees_l28 (fu : Nat) : Int32 → Int32 → Int32 → Sg → Option (Int32 × Sg) := Nat.rec (fun x1 x2 x3 σ => none) (fun _ k => fMd_agrees_b28 k) fu
theorem wMd_agrees_l28 {X : MC} {G : GE} {n0 : Nat} (hG : gH G = true) (C : CX X G RX12 cX12_agrees pMd_agrees 7 (some .boolean) n0) (htab : ∀ z ∈ X.2.2.2.2.2.2.2.2.exceptionTable.toList, False) {M : Mm} {n : Nat} : ∀ (fu : Nat) (x1 : Int32) (x2 : Int32) (x3 : Int32) (σ : Sg), JS X G 7 300 0 n0 (EM X G n0 7 300 (eS rvI M n)) (fMd_agrees_l28 fu x1 x2 x3 σ) (σ, M, n) 28 [(0, .inr (.inl (some (gM G)))), (1, .inl x1), (2, .inl x2), (3, .inl x3)] [] := by
  intro fu
  induction fu with
  | zero => intro x1 x2 x3 σ; exact s_none
  | succ fu ih => intro x1 x2 x3 σ; exact wMd_agrees_b28 hG C htab (fMd_agrees_l28 fu) ih _ _ _ _
def fMd_agrees_j13 (x1 : Int32) (s0 : Int32) (σ : Sg) : Option (Int32 × Sg) :=
  bdW (fMd_holds s0 σ) fun v1 σ2 =>
  if v1 = 0 then
    rZ 0 (some (0, σ2))
  else
    fMd_agrees_l28 FU x1 1 (40 * x1) σ2
theorem wMd_agrees_j13 {X : MC} {G : GE} {n0 : Nat} (hG : gH G = true) (C : CX X G RX12 cX12_agrees pMd_agrees 7 (some .boolean) n0) (htab : ∀ z ∈ X.2.2.2.2.2.2.2.2.exceptionTable.toList, False) {M : Mm} {n : Nat} (x1 : Int32) (s0 : Int32) (σ : Sg) : JS X G 7 300 0 n0 (EM X G n0 7 300 (eS rvI M n)) (fMd_agrees_j13 x1 s0 σ) (σ, M, n) 13 [(0, .inr (.inl (some (gM G)))), (1, .inl x1)] [.inl s0, .inr (.inl (some (gM G)))] := by
  unfold fMd_agrees_j13
  refine s_SI (CE_EM _ _ _ _ _ _) (st := []) (fun o ho => j_callV (As := [.inl s0]) (st := []) (b := gM G) C 7 rfl mf_Md_holds ml_X12_150 rfl (recv_M hG C) (by decide) (by decide) (Nat.le_refl _) rfl (cMd_holds (CX_tr C) hG σ M n s0 o ho)) (fun v1 σ2 => ?_)
  refine s_ine C 8 rfl (fun _ => ?_) (fun _ => ?_)
  · refine s_blk C 9 1 [] (pc' := 20) (lv' := []) (st' := [.inl 0]) rfl ?_
    exact s_zret C 10 rfl rfl
  refine s_blk C 11 6 [0, 1, 2, 3] (pc' := 28) (lv' := [(0, .inr (.inl (some (gM G)))), (1, .inl x1), (2, .inl 1), (3, .inl (40 * x1))]) (st' := []) rfl ?_
  exact wMd_agrees_l28 hG C htab FU _ _ _ _
def fMd_agrees (x1 : Int32) (σ : Sg) : Option (Int32 × Sg) :=
  bdR (fMd_isRegion x1) fun v1 =>
  if v1 = 0 then
    fMd_agrees_j13 x1 1 σ
  else
    fMd_agrees_j13 x1 0 σ
theorem wMd_agrees {X : MC} {G : GE} {n0 : Nat} (hG : gH G = true) (C : CX X G RX12 cX12_agrees pMd_agrees 7 (some .boolean) n0) (htab : ∀ z ∈ X.2.2.2.2.2.2.2.2.exceptionTable.toList, False) {M : Mm} {n : Nat} (x1 : Int32) (σ : Sg) : JS X G 7 300 0 n0 (EM X G n0 7 300 (eS rvI M n)) (fMd_agrees x1 σ) (σ, M, n) 0 [(0, .inr (.inl (some (gM G)))), (1, .inl x1)] [] := by
  unfold fMd_agrees
  refine s_blk C 0 2 [0, 1] (pc' := 2) (lv' := [(0, .inr (.inl (some (gM G)))), (1, .inl x1)]) (st' := [.inl x1, .inr (.inl (some (gM G)))]) rfl ?_
  refine s_RI (CE_EM _ _ _ _ _ _) (st := [.inr (.inl (some (gM G)))]) (fun o ho => j_callS (As := [.inl x1]) (st := [.inr (.inl (some (gM G)))]) C 2 rfl mf_Md_isRegion ml_X12_225 rfl (by decide) (by decide) (Nat.le_refl _) rfl (cMd_isRegion (CX_tr C) hG σ M n x1 o ho)) (fun v1 => ?_)
  refine s_ieq C 3 rfl (fun _ => ?_) (fun _ => ?_)
  · refine s_blk C 6 1 [0, 1] (pc' := 13) (lv' := [(0, .inr (.inl (some (gM G)))), (1, .inl x1)]) (st' := [.inl 1, .inr (.inl (some (gM G)))]) rfl ?_
    exact wMd_agrees_j13 hG C htab _ _ _
  refine s_blk C 4 2 [0, 1] (pc' := 13) (lv' := [(0, .inr (.inl (some (gM G)))), (1, .inl x1)]) (st' := [.inl 0, .inr (.inl (some (gM G)))]) rfl ?_
  exact wMd_agrees_j13 hG C htab _ _ _
theorem cMd_agrees {l : Launch} {G : GE} (htr : l.stackTraces = false) (hG : gH G = true) (σ : Sg) (M : Mm) (n : Nat) (x1 : Int32) : ∀ o, fMd_agrees x1 σ = some o → MetX l G yX12_agrees cX12_agrees 7 (some .boolean) 7 300 [.inr (.inl (some (gM G))), .inl x1] (σ, M, n) ((eS rvI M n) o) :=
  c_ofX (by decide) kMd_agrees htr rfl rfl fun X _ _ C htab => wMd_agrees hG C htab x1 _
def pMd_isObject : List BR := [(0, .aload_n 0, 1, 0, 1), (1, .iload_n 1, 1, 0, 2), (2, .aload_n 0, 1, 0, 3), (3, .getfield 74, 3, 0, 6), (6, .iload_n 2, 1, 0, 7), (7, .iaload, 1, 0, 8), (8, .invokevirtual 247, 3, 0, 11), (11, .iload_n 2, 1, 0, 12), (12, .if_icmp .ne (15), 3, 0, 27), (15, .aload_n 0, 1, 0, 16), (16, .iload_n 2, 1, 0, 17), (17, .invokevirtual 250, 3, 0, 20), (20, .ifCond .ne (7), 3, 0, 27), (23, .iconst 1, 1, 1, 24), (24, .goto (4), 3, 0, 28), (27, .iconst 0, 1, 0, 28), (28, .ireturn, 1, 0, 29)]
theorem kMd_isObject : bOK cX12_isObject 3 pMd_isObject = true := by decide +kernel
def fMd_isObject (x1 : Int32) (x2 : Int32) (σ : Sg) : Option (Int32) :=
  mgA 28 x2 σ fun v1 =>
  bdR (fMd_latest x1 v1 σ) fun v2 =>
  if v2 = x2 then
    bdR (fMd_isMark x2 σ) fun v3 =>
    if v3 = 0 then
      rZ 1 (some 1)
    else
      rZ 0 (some 0)
  else
    rZ 0 (some 0)
theorem wMd_isObject {X : MC} {G : GE} {n0 : Nat} (hG : gH G = true) (C : CX X G RX12 cX12_isObject pMd_isObject 3 (some .boolean) n0) (htab : ∀ z ∈ X.2.2.2.2.2.2.2.2.exceptionTable.toList, False) {σ : Sg} {M : Mm} {n : Nat} (x1 : Int32) (x2 : Int32) : JS X G 3 300 0 n0 (EM X G n0 4 300 (eR rvI σ M n)) (fMd_isObject x1 x2 σ) (σ, M, n) 0 [(0, .inr (.inl (some (gM G)))), (1, .inl x1), (2, .inl x2)] [] := by
  unfold fMd_isObject
  refine s_blk C 0 3 [0, 2] (pc' := 3) (lv' := [(0, .inr (.inl (some (gM G)))), (2, .inl x2)]) (st' := [.inr (.inl (some (gM G))), .inl x1, .inr (.inl (some (gM G)))]) rfl ?_
  refine s_mR hG C 3 rfl 28 fl_X12_74 rfl ?_
  refine s_blk C 4 1 [0, 2] (pc' := 7) (lv' := [(0, .inr (.inl (some (gM G)))), (2, .inl x2)]) (st' := [.inl x2, .inr (.inl (some (gA G 28))), .inl x1, .inr (.inl (some (gM G)))]) rfl ?_
  refine s_mldI hG C 5 rfl rfl rfl (fun v1 => ?_)
  refine s_RI (CE_EM _ _ _ _ _ _) (st := []) (fun o ho => j_callV (As := [.inl x1, .inl v1]) (st := []) (b := gM G) C 6 rfl mf_Md_latest ml_X12_247 rfl (recv_M hG C) (by decide) (by decide) (Nat.le_refl _) rfl (cMd_latest (CX_tr C) hG σ M n x1 v1 o ho)) (fun v2 => ?_)
  refine s_blk C 7 1 [0, 2] (pc' := 12) (lv' := [(0, .inr (.inl (some (gM G)))), (2, .inl x2)]) (st' := [.inl x2, .inl v2]) rfl ?_
  refine s_icne C 8 rfl (fun _ => ?_) (fun _ => ?_)
  · refine s_blk C 9 2 [] (pc' := 17) (lv' := []) (st' := [.inl x2, .inr (.inl (some (gM G)))]) rfl ?_
    refine s_RI (CE_EM _ _ _ _ _ _) (st := []) (fun o ho => j_callV (As := [.inl x2]) (st := []) (b := gM G) C 11 rfl mf_Md_isMark ml_X12_250 rfl (recv_M hG C) (by decide) (by decide) (Nat.le_refl _) rfl (cMd_isMark (CX_tr C) hG σ M n x2 o ho)) (fun v3 => ?_)
    refine s_ine C 12 rfl (fun _ => ?_) (fun _ => ?_)
    · refine s_blk C 13 2 [] (pc' := 28) (lv' := []) (st' := [.inl 1]) rfl ?_
      exact s_zret C 16 rfl rfl
    refine s_blk C 15 1 [] (pc' := 28) (lv' := []) (st' := [.inl 0]) rfl ?_
    exact s_zret C 16 rfl rfl
  refine s_blk C 15 1 [] (pc' := 28) (lv' := []) (st' := [.inl 0]) rfl ?_
  exact s_zret C 16 rfl rfl
theorem cMd_isObject {l : Launch} {G : GE} (htr : l.stackTraces = false) (hG : gH G = true) (σ : Sg) (M : Mm) (n : Nat) (x1 : Int32) (x2 : Int32) : ∀ o, fMd_isObject x1 x2 σ = some o → MetX l G yX12_isObject cX12_isObject 3 (some .boolean) 4 300 [.inr (.inl (some (gM G))), .inl x1, .inl x2] (σ, M, n) ((eR rvI σ M n) o) :=
  c_ofX (by decide) kMd_isObject htr rfl rfl fun X _ _ C htab => wMd_isObject hG C htab x1 x2

def pMd_stores_0 : List BR := [(0, .aload_n 0, 1, 0, 1), (1, .iload_n 1, 1, 0, 2), (2, .iload_n 2, 1, 0, 3), (3, .invokevirtual 163, 3, 0, 6), (6, .istore_n 3, 1, 0, 7), (7, .iload_n 3, 1, 0, 8), (8, .iconst (-1), 1, -1, 9), (9, .if_icmp .ne (7), 3, 0, 16), (12, .iconst 1, 1, 1, 13), (13, .goto (4), 3, 0, 17), (16, .iconst 0, 1, 0, 17), (17, .istore 4, 2, 0, 19), (19, .iload 4, 2, 0, 21), (21, .ifCond .eq (104), 3, 0, 125), (24, .aload_n 0, 1, 0, 25), (25, .getfield 44, 3, 0, 28), (28, .iload_n 1, 1, 0, 29), (29, .iaload, 1, 0, 30), (30, .istore_n 3, 1, 0, 31), (31, .aload_n 0, 1, 0, 32), (32, .getfield 44, 3, 0, 35), (35, .iload_n 1, 1, 0, 36), (36, .dup2, 1, 0, 37), (37, .iaload, 1, 0, 38), (38, .iconst 1, 1, 1, 39), (39, .iadd, 1, 0, 40), (40, .iastore, 1, 0, 41), (41, .bipush 90, 2, 90, 43), (43, .iload_n 1, 1, 0, 44), (44, .imul, 1, 0, 45), (45, .iload_n 3, 1, 0, 46), (46, .iadd, 1, 0, 47), (47, .istore 5, 2, 0, 49), (49, .aload_n 0, 1, 0, 50), (50, .getfield 47, 3, 0, 53), (53, .iload 5, 2, 0, 55), (55, .iconst 0, 1, 0, 56), (56, .bastore, 1, 0, 57), (57, .aload_n 0, 1, 0, 58), (58, .getfield 50, 3, 0, 61)]
theorem kMd_stores_0 : bOK cX12_stores 7 pMd_stores_0 = true := by decide +kernel
def pMd_stores_1 : List BR := [(61, .iload 5, 2, 0, 63), (63, .iconst 0, 1, 0, 64), (64, .iastore, 1, 0, 65), (65, .aload_n 0, 1, 0, 66), (66, .getfield 53, 3, 0, 69), (69, .iload 5, 2, 0, 71), (71, .aload_n 0, 1, 0, 72), (72, .getfield 19, 3, 0, 75), (75, .iload_n 2, 1, 0, 76), (76, .iaload, 1, 0, 77), (77, .iastore, 1, 0, 78), (78, .iconst 0, 1, 0, 79), (79, .istore 6, 2, 0, 81), (81, .iload 6, 2, 0, 83), (83, .aload_n 0, 1, 0, 84), (84, .getfield 19, 3, 0, 87), (87, .iload_n 2, 1, 0, 88), (88, .iaload, 1, 0, 89), (89, .if_icmp .ge (36), 3, 0, 125), (92, .aload_n 0, 1, 0, 93), (93, .getfield 56, 3, 0, 96), (96, .bipush 6, 2, 6, 98), (98, .iload 5, 2, 0, 100), (100, .imul, 1, 0, 101), (101, .iload 6, 2, 0, 103), (103, .iadd, 1, 0, 104), (104, .aload_n 0, 1, 0, 105), (105, .getfield 13, 3, 0, 108), (108, .aload_n 0, 1, 0, 109), (109, .getfield 16, 3, 0, 112), (112, .iload_n 2, 1, 0, 113), (113, .iaload, 1, 0, 114), (114, .iload 6, 2, 0, 116), (116, .iadd, 1, 0, 117), (117, .iaload, 1, 0, 118), (118, .iastore, 1, 0, 119), (119, .iinc 6 (1), 3, 1, 122), (122, .goto (-41), 3, 0, 81), (125, .bipush 90, 2, 90, 127), (127, .iload_n 1, 1, 0, 128)]
theorem kMd_stores_1 : bOK cX12_stores 7 pMd_stores_1 = true := by decide +kernel
def pMd_stores_2 : List BR := [(128, .imul, 1, 0, 129), (129, .iload_n 3, 1, 0, 130), (130, .iadd, 1, 0, 131), (131, .istore 5, 2, 0, 133), (133, .iload 4, 2, 0, 135), (135, .ifCond .ne (13), 3, 0, 148), (138, .aload_n 0, 1, 0, 139), (139, .iload 5, 2, 0, 141), (141, .invokevirtual 213, 3, 0, 144), (144, .iconst 3, 1, 3, 145), (145, .if_icmp .ge (9), 3, 0, 154), (148, .aload_n 0, 1, 0, 149), (149, .iload_n 1, 1, 0, 150), (150, .iload_n 3, 1, 0, 151), (151, .invokevirtual 216, 3, 0, 154), (154, .aload_n 0, 1, 0, 155), (155, .getfield 50, 3, 0, 158), (158, .iload 5, 2, 0, 160), (160, .dup2, 1, 0, 161), (161, .iaload, 1, 0, 162), (162, .iconst 1, 1, 1, 163), (163, .iadd, 1, 0, 164), (164, .iastore, 1, 0, 165), (165, .iload_n 3, 1, 0, 166), (166, .ireturn, 1, 0, 167)]
theorem kMd_stores_2 : bOK cX12_stores 7 pMd_stores_2 = true := by decide +kernel
def pMd_stores : List BR := (pMd_stores_0 ++ (pMd_stores_1 ++ pMd_stores_2))
theorem kMd_stores : bOK cX12_stores 7 pMd_stores = true := (bOK_app kMd_stores_0 (bOK_app kMd_stores_1 kMd_stores_2))
def fMd_stores_j154 (x3 : Int32) (x5 : Int32) (σ : Sg) : Option (Int32 × Sg) :=
  mgA 20 x5 σ fun v1 =>
  mpA 20 x5 (v1 + 1) σ fun σ2 =>
  some (x3, σ2)
theorem wMd_stores_j154 {X : MC} {G : GE} {n0 : Nat} (hG : gH G = true) (C : CX X G RX12 cX12_stores pMd_stores 7 (some .int) n0) (htab : ∀ z ∈ X.2.2.2.2.2.2.2.2.exceptionTable.toList, False) {M : Mm} {n : Nat} (x3 : Int32) (x5 : Int32) (σ : Sg) : JS X G 7 300 0 n0 (EM X G n0 6 300 (eS rvI M n)) (fMd_stores_j154 x3 x5 σ) (σ, M, n) 154 [(0, .inr (.inl (some (gM G)))), (3, .inl x3), (5, .inl x5)] [] := by
  unfold fMd_stores_j154
  refine s_blk C 95 1 [3, 5] (pc' := 155) (lv' := [(3, .inl x3), (5, .inl x5)]) (st' := [.inr (.inl (some (gM G)))]) rfl ?_
  refine s_mR hG C 96 rfl 20 fl_X12_50 rfl ?_
  refine s_blk C 97 2 [3] (pc' := 161) (lv' := [(3, .inl x3)]) (st' := [.inl x5, .inr (.inl (some (gA G 20))), .inl x5, .inr (.inl (some (gA G 20)))]) rfl ?_
  refine s_mldI hG C 99 rfl rfl rfl (fun v1 => ?_)
  refine s_blk C 100 2 [3] (pc' := 164) (lv' := [(3, .inl x3)]) (st' := [.inl (v1 + 1), .inl x5, .inr (.inl (some (gA G 20)))]) rfl ?_
  refine s_mstI hG C 102 rfl rfl rfl (fun σ2 _ => ?_)
  refine s_blk C 103 1 [] (pc' := 166) (lv' := []) (st' := [.inl x3]) rfl ?_
  exact s_iret C 104 rfl rfl
def fMd_stores_j148 (x1 : Int32) (x3 : Int32) (x5 : Int32) (σ : Sg) : Option (Int32 × Sg) :=
  bdW (fMd_comes x1 x3 σ) fun v1 σ2 =>
  fMd_stores_j154 x3 x5 σ2
theorem wMd_stores_j148 {X : MC} {G : GE} {n0 : Nat} (hG : gH G = true) (C : CX X G RX12 cX12_stores pMd_stores 7 (some .int) n0) (htab : ∀ z ∈ X.2.2.2.2.2.2.2.2.exceptionTable.toList, False) {M : Mm} {n : Nat} (x1 : Int32) (x3 : Int32) (x5 : Int32) (σ : Sg) : JS X G 7 300 0 n0 (EM X G n0 6 300 (eS rvI M n)) (fMd_stores_j148 x1 x3 x5 σ) (σ, M, n) 148 [(0, .inr (.inl (some (gM G)))), (1, .inl x1), (3, .inl x3), (5, .inl x5)] [] := by
  unfold fMd_stores_j148
  refine s_blk C 91 3 [0, 3, 5] (pc' := 151) (lv' := [(0, .inr (.inl (some (gM G)))), (3, .inl x3), (5, .inl x5)]) (st' := [.inl x3, .inl x1, .inr (.inl (some (gM G)))]) rfl ?_
  refine s_SU (CE_EM _ _ _ _ _ _) (st := []) (fun o ho => j_callV (As := [.inl x1, .inl x3]) (st := []) (b := gM G) C 94 rfl mf_Md_comes ml_X12_216 rfl (recv_M hG C) (by decide) (by decide) (Nat.le_refl _) rfl (cMd_comes (CX_tr C) hG σ M n x1 x3 o ho)) (fun v1 σ2 => ?_)
  exact wMd_stores_j154 hG C htab _ _ _
def fMd_stores_j125 (x1 : Int32) (x3 : Int32) (x4 : Int32) (σ : Sg) : Option (Int32 × Sg) :=
  if x4 = 0 then
    bdR (fMd_goodMany ((90 * x1) + x3) σ) fun v1 =>
    if 3 ≤ v1 then
      fMd_stores_j154 x3 ((90 * x1) + x3) σ
    else
      fMd_stores_j148 x1 x3 ((90 * x1) + x3) σ
  else
    fMd_stores_j148 x1 x3 ((90 * x1) + x3) σ
theorem wMd_stores_j125 {X : MC} {G : GE} {n0 : Nat} (hG : gH G = true) (C : CX X G RX12 cX12_stores pMd_stores 7 (some .int) n0) (htab : ∀ z ∈ X.2.2.2.2.2.2.2.2.exceptionTable.toList, False) {M : Mm} {n : Nat} (x1 : Int32) (x3 : Int32) (x4 : Int32) (σ : Sg) : JS X G 7 300 0 n0 (EM X G n0 6 300 (eS rvI M n)) (fMd_stores_j125 x1 x3 x4 σ) (σ, M, n) 125 [(0, .inr (.inl (some (gM G)))), (1, .inl x1), (3, .inl x3), (4, .inl x4)] [] := by
  unfold fMd_stores_j125
  refine s_blk C 78 7 [0, 1, 3, 5] (pc' := 135) (lv' := [(0, .inr (.inl (some (gM G)))), (1, .inl x1), (3, .inl x3), (5, .inl ((90 * x1) + x3))]) (st' := [.inl x4]) rfl ?_
  refine s_ine C 85 rfl (fun _ => ?_) (fun _ => ?_)
  · refine s_blk C 86 2 [0, 1, 3, 5] (pc' := 141) (lv' := [(0, .inr (.inl (some (gM G)))), (1, .inl x1), (3, .inl x3), (5, .inl ((90 * x1) + x3))]) (st' := [.inl ((90 * x1) + x3), .inr (.inl (some (gM G)))]) rfl ?_
    refine s_RI (CE_EM _ _ _ _ _ _) (st := []) (fun o ho => j_callV (As := [.inl ((90 * x1) + x3)]) (st := []) (b := gM G) C 88 rfl mf_Md_goodMany ml_X12_213 rfl (recv_M hG C) (by decide) (by decide) (Nat.le_refl _) rfl (cMd_goodMany (CX_tr C) hG σ M n ((90 * x1) + x3) o ho)) (fun v1 => ?_)
    refine s_blk C 89 1 [0, 1, 3, 5] (pc' := 145) (lv' := [(0, .inr (.inl (some (gM G)))), (1, .inl x1), (3, .inl x3), (5, .inl ((90 * x1) + x3))]) (st' := [.inl 3, .inl v1]) rfl ?_
    refine s_icge C 90 rfl (fun _ => ?_) (fun _ => ?_)
    · refine s_blk C 0 0 [0, 3, 5] (pc' := 154) (lv' := [(0, .inr (.inl (some (gM G)))), (3, .inl x3), (5, .inl ((90 * x1) + x3))]) (st' := []) rfl ?_
      exact wMd_stores_j154 hG C htab _ _ _
    exact wMd_stores_j148 hG C htab _ _ _ _
  exact wMd_stores_j148 hG C htab _ _ _ _
def fMd_stores_b81 (k81 : Int32 → Int32 → Int32 → Int32 → Int32 → Int32 → Sg → Option (Int32 × Sg)) (x1 : Int32) (x2 : Int32) (x3 : Int32) (x4 : Int32) (x5 : Int32) (x6 : Int32) (σ : Sg) : Option (Int32 × Sg) :=
  mgA 7 x2 σ fun v1 =>
  if v1 ≤ x6 then
    fMd_stores_j125 x1 x3 x4 σ
  else
    mgA 6 x2 σ fun v2 =>
    mgA 4 (v2 + x6) σ fun v3 =>
    mpA 22 ((6 * x5) + x6) v3 σ fun σ4 =>
    k81 x1 x2 x3 x4 x5 (x6 + 1) σ4
theorem wMd_stores_b81 {X : MC} {G : GE} {n0 : Nat} (hG : gH G = true) (C : CX X G RX12 cX12_stores pMd_stores 7 (some .int) n0) (htab : ∀ z ∈ X.2.2.2.2.2.2.2.2.exceptionTable.toList, False) {M : Mm} {n : Nat} (k81 : Int32 → Int32 → Int32 → Int32 → Int32 → Int32 → Sg → Option (Int32 × Sg)) (H81 : ∀ (x1 : Int32) (x2 : Int32) (x3 : Int32) (x4 : Int32) (x5 : Int32) (x6 : Int32) (σ : Sg), JS X G 7 300 0 n0 (EM X G n0 6 300 (eS rvI M n)) (k81 x1 x2 x3 x4 x5 x6 σ) (σ, M, n) 81 [(0, .inr (.inl (some (gM G)))), (1, .inl x1), (2, .inl x2), (3, .inl x3), (4, .inl x4), (5, .inl x5), (6, .inl x6)] []) (x1 : Int32) (x2 : Int32) (x3 : Int32) (x4 : Int32) (x5 : Int32) (x6 : Int32) (σ : Sg) : JS X G 7 300 0 n0 (EM X G n0 6 300 (eS rvI M n)) (fMd_stores_b81 k81 x1 x2 x3 x4 x5 x6 σ) (σ, M, n) 81 [(0, .inr (.inl (some (gM G)))), (1, .inl x1), (2, .inl x2), (3, .inl x3), (4, .inl x4), (5, .inl x5), (6, .inl x6)] [] := by
  unfold fMd_stores_b81
  refine s_blk C 53 2 [0, 1, 2, 3, 4, 5, 6] (pc' := 84) (lv' := [(0, .inr (.inl (some (gM G)))), (1, .inl x1), (2, .inl x2), (3, .inl x3), (4, .inl x4), (5, .inl x5), (6, .inl x6)]) (st' := [.inr (.inl (some (gM G))), .inl x6]) rfl ?_
  refine s_mR hG C 55 rfl 7 fl_X12_19 rfl ?_
  refine s_blk C 56 1 [0, 1, 2, 3, 4, 5, 6] (pc' := 88) (lv' := [(0, .inr (.inl (some (gM G)))), (1, .inl x1), (2, .inl x2), (3, .inl x3), (4, .inl x4), (5, .inl x5), (6, .inl x6)]) (st' := [.inl x2, .inr (.inl (some (gA G 7))), .inl x6]) rfl ?_
  refine s_mldI hG C 57 rfl rfl rfl (fun v1 => ?_)
  refine s_icge C 58 rfl (fun _ => ?_) (fun _ => ?_)
  · refine s_blk C 0 0 [0, 1, 3, 4] (pc' := 125) (lv' := [(0, .inr (.inl (some (gM G)))), (1, .inl x1), (3, .inl x3), (4, .inl x4)]) (st' := []) rfl ?_
    exact wMd_stores_j125 hG C htab _ _ _ _
  refine s_blk C 59 1 [0, 1, 2, 3, 4, 5, 6] (pc' := 93) (lv' := [(0, .inr (.inl (some (gM G)))), (1, .inl x1), (2, .inl x2), (3, .inl x3), (4, .inl x4), (5, .inl x5), (6, .inl x6)]) (st' := [.inr (.inl (some (gM G)))]) rfl ?_
  refine s_mR hG C 60 rfl 22 fl_X12_56 rfl ?_
  refine s_blk C 61 6 [0, 1, 2, 3, 4, 5, 6] (pc' := 105) (lv' := [(0, .inr (.inl (some (gM G)))), (1, .inl x1), (2, .inl x2), (3, .inl x3), (4, .inl x4), (5, .inl x5), (6, .inl x6)]) (st' := [.inr (.inl (some (gM G))), .inl ((6 * x5) + x6), .inr (.inl (some (gA G 22)))]) rfl ?_
  refine s_mR hG C 67 rfl 4 fl_X12_13 rfl ?_
  refine s_blk C 68 1 [0, 1, 2, 3, 4, 5, 6] (pc' := 109) (lv' := [(0, .inr (.inl (some (gM G)))), (1, .inl x1), (2, .inl x2), (3, .inl x3), (4, .inl x4), (5, .inl x5), (6, .inl x6)]) (st' := [.inr (.inl (some (gM G))), .inr (.inl (some (gA G 4))), .inl ((6 * x5) + x6), .inr (.inl (some (gA G 22)))]) rfl ?_
  refine s_mR hG C 69 rfl 6 fl_X12_16 rfl ?_
  refine s_blk C 70 1 [0, 1, 2, 3, 4, 5, 6] (pc' := 113) (lv' := [(0, .inr (.inl (some (gM G)))), (1, .inl x1), (2, .inl x2), (3, .inl x3), (4, .inl x4), (5, .inl x5), (6, .inl x6)]) (st' := [.inl x2, .inr (.inl (some (gA G 6))), .inr (.inl (some (gA G 4))), .inl ((6 * x5) + x6), .inr (.inl (some (gA G 22)))]) rfl ?_
  refine s_mldI hG C 71 rfl rfl rfl (fun v2 => ?_)
  refine s_blk C 72 2 [0, 1, 2, 3, 4, 5, 6] (pc' := 117) (lv' := [(0, .inr (.inl (some (gM G)))), (1, .inl x1), (2, .inl x2), (3, .inl x3), (4, .inl x4), (5, .inl x5), (6, .inl x6)]) (st' := [.inl (v2 + x6), .inr (.inl (some (gA G 4))), .inl ((6 * x5) + x6), .inr (.inl (some (gA G 22)))]) rfl ?_
  refine s_mldI hG C 74 rfl rfl rfl (fun v3 => ?_)
  refine s_mstI hG C 75 rfl rfl rfl (fun σ4 _ => ?_)
  refine s_blk C 76 2 [0, 1, 2, 3, 4, 5, 6] (pc' := 81) (lv' := [(0, .inr (.inl (some (gM G)))), (1, .inl x1), (2, .inl x2), (3, .inl x3), (4, .inl x4), (5, .inl x5), (6, .inl (x6 + 1))]) (st' := []) rfl ?_
  exact H81 _ _ _ _ _ _ _
def fMd_stores_l81 (fu : Nat) : Int32 → Int32 → Int32 → Int32 → Int32 → Int32 → Sg → Option (Int32 × Sg) := Nat.rec (fun x1 x2 x3 x4 x5 x6 σ => none) (fun _ k => fMd_stores_b81 k) fu
theorem wMd_stores_l81 {X : MC} {G : GE} {n0 : Nat} (hG : gH G = true) (C : CX X G RX12 cX12_stores pMd_stores 7 (some .int) n0) (htab : ∀ z ∈ X.2.2.2.2.2.2.2.2.exceptionTable.toList, False) {M : Mm} {n : Nat} : ∀ (fu : Nat) (x1 : Int32) (x2 : Int32) (x3 : Int32) (x4 : Int32) (x5 : Int32) (x6 : Int32) (σ : Sg), JS X G 7 300 0 n0 (EM X G n0 6 300 (eS rvI M n)) (fMd_stores_l81 fu x1 x2 x3 x4 x5 x6 σ) (σ, M, n) 81 [(0, .inr (.inl (some (gM G)))), (1, .inl x1), (2, .inl x2), (3, .inl x3), (4, .inl x4), (5, .inl x5), (6, .inl x6)] [] := by
  intro fu
  induction fu with
  | zero => intro x1 x2 x3 x4 x5 x6 σ; exact s_none
  | succ fu ih => intro x1 x2 x3 x4 x5 x6 σ; exact wMd_stores_b81 hG C htab (fMd_stores_l81 fu) ih _ _ _ _ _ _ _
def fMd_stores_j17 (x1 : Int32) (x2 : Int32) (x3 : Int32) (s0 : Int32) (σ : Sg) : Option (Int32 × Sg) :=
  if s0 = 0 then
    fMd_stores_j125 x1 x3 s0 σ
  else
    mgA 18 x1 σ fun v1 =>
    mgA 18 x1 σ fun v2 =>
    mpA 18 x1 (v2 + 1) σ fun σ3 =>
    mpZ 19 ((90 * x1) + v1) 0 σ3 fun σ4 =>
    mpA 20 ((90 * x1) + v1) 0 σ4 fun σ5 =>
    mgA 7 x2 σ5 fun v6 =>
    mpA 21 ((90 * x1) + v1) v6 σ5 fun σ7 =>
    fMd_stores_l81 FU x1 x2 v1 s0 ((90 * x1) + v1) 0 σ7
theorem wMd_stores_j17 {X : MC} {G : GE} {n0 : Nat} (hG : gH G = true) (C : CX X G RX12 cX12_stores pMd_stores 7 (some .int) n0) (htab : ∀ z ∈ X.2.2.2.2.2.2.2.2.exceptionTable.toList, False) {M : Mm} {n : Nat} (x1 : Int32) (x2 : Int32) (x3 : Int32) (s0 : Int32) (σ : Sg) : JS X G 7 300 0 n0 (EM X G n0 6 300 (eS rvI M n)) (fMd_stores_j17 x1 x2 x3 s0 σ) (σ, M, n) 17 [(0, .inr (.inl (some (gM G)))), (1, .inl x1), (2, .inl x2), (3, .inl x3)] [.inl s0] := by
  unfold fMd_stores_j17
  refine s_blk C 11 2 [0, 1, 2, 3, 4] (pc' := 21) (lv' := [(0, .inr (.inl (some (gM G)))), (1, .inl x1), (2, .inl x2), (3, .inl x3), (4, .inl s0)]) (st' := [.inl s0]) rfl ?_
  refine s_ieq C 13 rfl (fun _ => ?_) (fun _ => ?_)
  · refine s_blk C 0 0 [0, 1, 3, 4] (pc' := 125) (lv' := [(0, .inr (.inl (some (gM G)))), (1, .inl x1), (3, .inl x3), (4, .inl s0)]) (st' := []) rfl ?_
    exact wMd_stores_j125 hG C htab _ _ _ _
  refine s_blk C 14 1 [0, 1, 2, 4] (pc' := 25) (lv' := [(0, .inr (.inl (some (gM G)))), (1, .inl x1), (2, .inl x2), (4, .inl s0)]) (st' := [.inr (.inl (some (gM G)))]) rfl ?_
  refine s_mR hG C 15 rfl 18 fl_X12_44 rfl ?_
  refine s_blk C 16 1 [0, 1, 2, 4] (pc' := 29) (lv' := [(0, .inr (.inl (some (gM G)))), (1, .inl x1), (2, .inl x2), (4, .inl s0)]) (st' := [.inl x1, .inr (.inl (some (gA G 18)))]) rfl ?_
  refine s_mldI hG C 17 rfl rfl rfl (fun v1 => ?_)
  refine s_blk C 18 2 [0, 1, 2, 3, 4] (pc' := 32) (lv' := [(0, .inr (.inl (some (gM G)))), (1, .inl x1), (2, .inl x2), (3, .inl v1), (4, .inl s0)]) (st' := [.inr (.inl (some (gM G)))]) rfl ?_
  refine s_mR hG C 20 rfl 18 fl_X12_44 rfl ?_
  refine s_blk C 21 2 [0, 1, 2, 3, 4] (pc' := 37) (lv' := [(0, .inr (.inl (some (gM G)))), (1, .inl x1), (2, .inl x2), (3, .inl v1), (4, .inl s0)]) (st' := [.inl x1, .inr (.inl (some (gA G 18))), .inl x1, .inr (.inl (some (gA G 18)))]) rfl ?_
  refine s_mldI hG C 23 rfl rfl rfl (fun v2 => ?_)
  refine s_blk C 24 2 [0, 1, 2, 3, 4] (pc' := 40) (lv' := [(0, .inr (.inl (some (gM G)))), (1, .inl x1), (2, .inl x2), (3, .inl v1), (4, .inl s0)]) (st' := [.inl (v2 + 1), .inl x1, .inr (.inl (some (gA G 18)))]) rfl ?_
  refine s_mstI hG C 26 rfl rfl rfl (fun σ3 _ => ?_)
  refine s_blk C 27 7 [0, 1, 2, 3, 4, 5] (pc' := 50) (lv' := [(0, .inr (.inl (some (gM G)))), (1, .inl x1), (2, .inl x2), (3, .inl v1), (4, .inl s0), (5, .inl ((90 * x1) + v1))]) (st' := [.inr (.inl (some (gM G)))]) rfl ?_
  refine s_mR hG C 34 rfl 19 fl_X12_47 rfl ?_
  refine s_blk C 35 2 [0, 1, 2, 3, 4, 5] (pc' := 56) (lv' := [(0, .inr (.inl (some (gM G)))), (1, .inl x1), (2, .inl x2), (3, .inl v1), (4, .inl s0), (5, .inl ((90 * x1) + v1))]) (st' := [.inl 0, .inl ((90 * x1) + v1), .inr (.inl (some (gA G 19)))]) rfl ?_
  refine s_mstZ hG C 37 rfl rfl rfl (fun σ4 _ => ?_)
  refine s_blk C 38 1 [0, 1, 2, 3, 4, 5] (pc' := 58) (lv' := [(0, .inr (.inl (some (gM G)))), (1, .inl x1), (2, .inl x2), (3, .inl v1), (4, .inl s0), (5, .inl ((90 * x1) + v1))]) (st' := [.inr (.inl (some (gM G)))]) rfl ?_
  refine s_mR hG C 39 rfl 20 fl_X12_50 rfl ?_
  refine s_blk C 40 2 [0, 1, 2, 3, 4, 5] (pc' := 64) (lv' := [(0, .inr (.inl (some (gM G)))), (1, .inl x1), (2, .inl x2), (3, .inl v1), (4, .inl s0), (5, .inl ((90 * x1) + v1))]) (st' := [.inl 0, .inl ((90 * x1) + v1), .inr (.inl (some (gA G 20)))]) rfl ?_
  refine s_mstI hG C 42 rfl rfl rfl (fun σ5 _ => ?_)
  refine s_blk C 43 1 [0, 1, 2, 3, 4, 5] (pc' := 66) (lv' := [(0, .inr (.inl (some (gM G)))), (1, .inl x1), (2, .inl x2), (3, .inl v1), (4, .inl s0), (5, .inl ((90 * x1) + v1))]) (st' := [.inr (.inl (some (gM G)))]) rfl ?_
  refine s_mR hG C 44 rfl 21 fl_X12_53 rfl ?_
  refine s_blk C 45 2 [0, 1, 2, 3, 4, 5] (pc' := 72) (lv' := [(0, .inr (.inl (some (gM G)))), (1, .inl x1), (2, .inl x2), (3, .inl v1), (4, .inl s0), (5, .inl ((90 * x1) + v1))]) (st' := [.inr (.inl (some (gM G))), .inl ((90 * x1) + v1), .inr (.inl (some (gA G 21)))]) rfl ?_
  refine s_mR hG C 47 rfl 7 fl_X12_19 rfl ?_
  refine s_blk C 48 1 [0, 1, 2, 3, 4, 5] (pc' := 76) (lv' := [(0, .inr (.inl (some (gM G)))), (1, .inl x1), (2, .inl x2), (3, .inl v1), (4, .inl s0), (5, .inl ((90 * x1) + v1))]) (st' := [.inl x2, .inr (.inl (some (gA G 7))), .inl ((90 * x1) + v1), .inr (.inl (some (gA G 21)))]) rfl ?_
  refine s_mldI hG C 49 rfl rfl rfl (fun v6 => ?_)
  refine s_mstI hG C 50 rfl rfl rfl (fun σ7 _ => ?_)
  refine s_blk C 51 2 [0, 1, 2, 3, 4, 5, 6] (pc' := 81) (lv' := [(0, .inr (.inl (some (gM G)))), (1, .inl x1), (2, .inl x2), (3, .inl v1), (4, .inl s0), (5, .inl ((90 * x1) + v1)), (6, .inl 0)]) (st' := []) rfl ?_
  exact wMd_stores_l81 hG C htab FU _ _ _ _ _ _ _
def fMd_stores (x1 : Int32) (x2 : Int32) (σ : Sg) : Option (Int32 × Sg) :=
  bdR (fMd_found x1 x2 σ) fun v1 =>
  if v1 = (-1) then
    fMd_stores_j17 x1 x2 v1 1 σ
  else
    fMd_stores_j17 x1 x2 v1 0 σ
theorem wMd_stores {X : MC} {G : GE} {n0 : Nat} (hG : gH G = true) (C : CX X G RX12 cX12_stores pMd_stores 7 (some .int) n0) (htab : ∀ z ∈ X.2.2.2.2.2.2.2.2.exceptionTable.toList, False) {M : Mm} {n : Nat} (x1 : Int32) (x2 : Int32) (σ : Sg) : JS X G 7 300 0 n0 (EM X G n0 6 300 (eS rvI M n)) (fMd_stores x1 x2 σ) (σ, M, n) 0 [(0, .inr (.inl (some (gM G)))), (1, .inl x1), (2, .inl x2)] [] := by
  unfold fMd_stores
  refine s_blk C 0 3 [0, 1, 2] (pc' := 3) (lv' := [(0, .inr (.inl (some (gM G)))), (1, .inl x1), (2, .inl x2)]) (st' := [.inl x2, .inl x1, .inr (.inl (some (gM G)))]) rfl ?_
  refine s_RI (CE_EM _ _ _ _ _ _) (st := []) (fun o ho => j_callV (As := [.inl x1, .inl x2]) (st := []) (b := gM G) C 3 rfl mf_Md_found ml_X12_163 rfl (recv_M hG C) (by decide) (by decide) (Nat.le_refl _) rfl (cMd_found (CX_tr C) hG σ M n x1 x2 o ho)) (fun v1 => ?_)
  refine s_blk C 4 3 [0, 1, 2, 3] (pc' := 9) (lv' := [(0, .inr (.inl (some (gM G)))), (1, .inl x1), (2, .inl x2), (3, .inl v1)]) (st' := [.inl (-1), .inl v1]) rfl ?_
  refine s_icne C 7 rfl (fun _ => ?_) (fun _ => ?_)
  · refine s_blk C 8 2 [0, 1, 2, 3] (pc' := 17) (lv' := [(0, .inr (.inl (some (gM G)))), (1, .inl x1), (2, .inl x2), (3, .inl v1)]) (st' := [.inl 1]) rfl ?_
    exact wMd_stores_j17 hG C htab _ _ _ _ _
  refine s_blk C 10 1 [0, 1, 2, 3] (pc' := 17) (lv' := [(0, .inr (.inl (some (gM G)))), (1, .inl x1), (2, .inl x2), (3, .inl v1)]) (st' := [.inl 0]) rfl ?_
  exact wMd_stores_j17 hG C htab _ _ _ _ _
theorem cMd_stores {l : Launch} {G : GE} (htr : l.stackTraces = false) (hG : gH G = true) (σ : Sg) (M : Mm) (n : Nat) (x1 : Int32) (x2 : Int32) : ∀ o, fMd_stores x1 x2 σ = some o → MetX l G yX12_stores cX12_stores 7 (some .int) 6 300 [.inr (.inl (some (gM G))), .inl x1, .inl x2] (σ, M, n) ((eS rvI M n) o) :=
  c_ofX (by decide) kMd_stores htr rfl rfl fun X _ _ C htab => wMd_stores hG C htab x1 x2 _
def pMd_enters_0 : List BR := [(0, .bipush 40, 2, 40, 2), (2, .iload_n 1, 1, 0, 3), (3, .imul, 1, 0, 4), (4, .aload_n 0, 1, 0, 5), (5, .getfield 68, 3, 0, 8), (8, .iload_n 1, 1, 0, 9), (9, .iaload, 1, 0, 10), (10, .iadd, 1, 0, 11), (11, .istore 4, 2, 0, 13), (13, .iload 4, 2, 0, 15), (15, .bipush 40, 2, 40, 17), (17, .iload_n 1, 1, 0, 18), (18, .imul, 1, 0, 19), (19, .if_icmp .le (32), 3, 0, 51), (22, .aload_n 0, 1, 0, 23), (23, .getfield 71, 3, 0, 26), (26, .iload 4, 2, 0, 28), (28, .iconst 1, 1, 1, 29), (29, .isub, 1, 0, 30), (30, .iaload, 1, 0, 31), (31, .iload_n 2, 1, 0, 32), (32, .if_icmp .le (19), 3, 0, 51), (35, .aload_n 0, 1, 0, 36), (36, .iload 4, 2, 0, 38), (38, .iconst 1, 1, 1, 39), (39, .isub, 1, 0, 40), (40, .iload 4, 2, 0, 42), (42, .invokevirtual 206, 3, 0, 45), (45, .iinc 4 (-1), 3, -1, 48), (48, .goto (-35), 3, 0, 13), (51, .aload_n 0, 1, 0, 52), (52, .getfield 68, 3, 0, 55), (55, .iload_n 1, 1, 0, 56), (56, .dup2, 1, 0, 57), (57, .iaload, 1, 0, 58), (58, .iconst 1, 1, 1, 59), (59, .iadd, 1, 0, 60), (60, .iastore, 1, 0, 61), (61, .aload_n 0, 1, 0, 62), (62, .getfield 71, 3, 0, 65)]
theorem kMd_enters_0 : bOK cX12_enters 6 pMd_enters_0 = true := by decide +kernel
def pMd_enters_1 : List BR := [(65, .iload 4, 2, 0, 67), (67, .iload_n 2, 1, 0, 68), (68, .iastore, 1, 0, 69), (69, .aload_n 0, 1, 0, 70), (70, .getfield 74, 3, 0, 73), (73, .iload 4, 2, 0, 75), (75, .aload_n 0, 1, 0, 76), (76, .getfield 104, 3, 0, 79), (79, .iload_n 2, 1, 0, 80), (80, .iaload, 1, 0, 81), (81, .iastore, 1, 0, 82), (82, .aload_n 0, 1, 0, 83), (83, .getfield 77, 3, 0, 86), (86, .iload 4, 2, 0, 88), (88, .aload_n 0, 1, 0, 89), (89, .getfield 107, 3, 0, 92), (92, .iload_n 2, 1, 0, 93), (93, .iaload, 1, 0, 94), (94, .iastore, 1, 0, 95), (95, .aload_n 0, 1, 0, 96), (96, .getfield 80, 3, 0, 99), (99, .iload 4, 2, 0, 101), (101, .iconst 0, 1, 0, 102), (102, .iastore, 1, 0, 103), (103, .aload_n 0, 1, 0, 104), (104, .getfield 83, 3, 0, 107), (107, .iload 4, 2, 0, 109), (109, .iconst (-1), 1, -1, 110), (110, .iastore, 1, 0, 111), (111, .aload_n 0, 1, 0, 112), (112, .getfield 86, 3, 0, 115), (115, .iload 4, 2, 0, 117), (117, .iconst (-1), 1, -1, 118), (118, .iastore, 1, 0, 119), (119, .aload_n 0, 1, 0, 120), (120, .getfield 89, 3, 0, 123), (123, .iload 4, 2, 0, 125), (125, .iload_n 3, 1, 0, 126), (126, .ifCond .eq (7), 3, 0, 133), (129, .iconst 0, 1, 0, 130)]
theorem kMd_enters_1 : bOK cX12_enters 6 pMd_enters_1 = true := by decide +kernel
def pMd_enters_2 : List BR := [(130, .goto (7), 3, 0, 137), (133, .aload_n 0, 1, 0, 134), (134, .getfield 154, 3, 0, 137), (137, .iastore, 1, 0, 138), (138, .aload_n 0, 1, 0, 139), (139, .getfield 95, 3, 0, 142), (142, .sipush 201, 3, 201, 145), (145, .iload_n 1, 1, 0, 146), (146, .imul, 1, 0, 147), (147, .iload_n 2, 1, 0, 148), (148, .iadd, 1, 0, 149), (149, .iconst 1, 1, 1, 150), (150, .bastore, 1, 0, 151), (151, .iconst 0, 1, 0, 152), (152, .istore 5, 2, 0, 154), (154, .iload 5, 2, 0, 156), (156, .aload_n 0, 1, 0, 157), (157, .getfield 89, 3, 0, 160), (160, .iload 4, 2, 0, 162), (162, .iaload, 1, 0, 163), (163, .if_icmp .ge (29), 3, 0, 192), (166, .aload_n 0, 1, 0, 167), (167, .getfield 92, 3, 0, 170), (170, .bipush 20, 2, 20, 172), (172, .iload 4, 2, 0, 174), (174, .imul, 1, 0, 175), (175, .iload 5, 2, 0, 177), (177, .iadd, 1, 0, 178), (178, .aload_n 0, 1, 0, 179), (179, .iload_n 1, 1, 0, 180), (180, .iload 5, 2, 0, 182), (182, .invokevirtual 210, 3, 0, 185), (185, .iastore, 1, 0, 186), (186, .iinc 5 (1), 3, 1, 189), (189, .goto (-35), 3, 0, 154), (192, .return_, 1, 0, 193)]
theorem kMd_enters_2 : bOK cX12_enters 6 pMd_enters_2 = true := by decide +kernel
def pMd_enters : List BR := (pMd_enters_0 ++ (pMd_enters_1 ++ pMd_enters_2))
theorem kMd_enters : bOK cX12_enters 6 pMd_enters = true := (bOK_app kMd_enters_0 (bOK_app kMd_enters_1 kMd_enters_2))
def fMd_enters_b154 (k154 : Int32 → Int32 → Int32 → Sg → Option (Unit × Sg)) (x1 : Int32) (x4 : Int32) (x5 : Int32) (σ : Sg) : Option (Unit × Sg) :=
  mgA 33 x4 σ fun v1 =>
  if v1 ≤ x5 then
    some ((), σ)
  else
    bdW (fMd_stores x1 x5 σ) fun v2 σ3 =>
    mpA 34 ((20 * x4) + x5) v2 σ3 fun σ4 =>
    k154 x1 x4 (x5 + 1) σ4
theorem wMd_enters_b154 {X : MC} {G : GE} {n0 : Nat} (hG : gH G = true) (C : CX X G RX12 cX12_enters pMd_enters 6 none n0) (htab : ∀ z ∈ X.2.2.2.2.2.2.2.2.exceptionTable.toList, False) {M : Mm} {n : Nat} (k154 : Int32 → Int32 → Int32 → Sg → Option (Unit × Sg)) (H154 : ∀ (x1 : Int32) (x4 : Int32) (x5 : Int32) (σ : Sg), JS X G 6 300 0 n0 (EM X G n0 7 300 (eS rvU M n)) (k154 x1 x4 x5 σ) (σ, M, n) 154 [(0, .inr (.inl (some (gM G)))), (1, .inl x1), (4, .inl x4), (5, .inl x5)] []) (x1 : Int32) (x4 : Int32) (x5 : Int32) (σ : Sg) : JS X G 6 300 0 n0 (EM X G n0 7 300 (eS rvU M n)) (fMd_enters_b154 k154 x1 x4 x5 σ) (σ, M, n) 154 [(0, .inr (.inl (some (gM G)))), (1, .inl x1), (4, .inl x4), (5, .inl x5)] [] := by
  unfold fMd_enters_b154
  refine s_blk C 95 2 [0, 1, 4, 5] (pc' := 157) (lv' := [(0, .inr (.inl (some (gM G)))), (1, .inl x1), (4, .inl x4), (5, .inl x5)]) (st' := [.inr (.inl (some (gM G))), .inl x5]) rfl ?_
  refine s_mR hG C 97 rfl 33 fl_X12_89 rfl ?_
  refine s_blk C 98 1 [0, 1, 4, 5] (pc' := 162) (lv' := [(0, .inr (.inl (some (gM G)))), (1, .inl x1), (4, .inl x4), (5, .inl x5)]) (st' := [.inl x4, .inr (.inl (some (gA G 33))), .inl x5]) rfl ?_
  refine s_mldI hG C 99 rfl rfl rfl (fun v1 => ?_)
  refine s_icge C 100 rfl (fun _ => ?_) (fun _ => ?_)
  · exact s_vret C 115 rfl rfl
  refine s_blk C 101 1 [0, 1, 4, 5] (pc' := 167) (lv' := [(0, .inr (.inl (some (gM G)))), (1, .inl x1), (4, .inl x4), (5, .inl x5)]) (st' := [.inr (.inl (some (gM G)))]) rfl ?_
  refine s_mR hG C 102 rfl 34 fl_X12_92 rfl ?_
  refine s_blk C 103 8 [0, 1, 4, 5] (pc' := 182) (lv' := [(0, .inr (.inl (some (gM G)))), (1, .inl x1), (4, .inl x4), (5, .inl x5)]) (st' := [.inl x5, .inl x1, .inr (.inl (some (gM G))), .inl ((20 * x4) + x5), .inr (.inl (some (gA G 34)))]) rfl ?_
  refine s_SI (CE_EM _ _ _ _ _ _) (st := [.inl ((20 * x4) + x5), .inr (.inl (some (gA G 34)))]) (fun o ho => j_callV (As := [.inl x1, .inl x5]) (st := [.inl ((20 * x4) + x5), .inr (.inl (some (gA G 34)))]) (b := gM G) C 111 rfl mf_Md_stores ml_X12_210 rfl (recv_M hG C) (by decide) (by decide) (Nat.le_refl _) rfl (cMd_stores (CX_tr C) hG σ M n x1 x5 o ho)) (fun v2 σ3 => ?_)
  refine s_mstI hG C 112 rfl rfl rfl (fun σ4 _ => ?_)
  refine s_blk C 113 2 [0, 1, 4, 5] (pc' := 154) (lv' := [(0, .inr (.inl (some (gM G)))), (1, .inl x1), (4, .inl x4), (5, .inl (x5 + 1))]) (st' := []) rfl ?_
  exact H154 _ _ _ _
def fMd_enters_l154 (fu : Nat) : Int32 → Int32 → Int32 → Sg → Option (Unit × Sg) := Nat.rec (fun x1 x4 x5 σ => none) (fun _ k => fMd_enters_b154 k) fu
theorem wMd_enters_l154 {X : MC} {G : GE} {n0 : Nat} (hG : gH G = true) (C : CX X G RX12 cX12_enters pMd_enters 6 none n0) (htab : ∀ z ∈ X.2.2.2.2.2.2.2.2.exceptionTable.toList, False) {M : Mm} {n : Nat} : ∀ (fu : Nat) (x1 : Int32) (x4 : Int32) (x5 : Int32) (σ : Sg), JS X G 6 300 0 n0 (EM X G n0 7 300 (eS rvU M n)) (fMd_enters_l154 fu x1 x4 x5 σ) (σ, M, n) 154 [(0, .inr (.inl (some (gM G)))), (1, .inl x1), (4, .inl x4), (5, .inl x5)] [] := by
  intro fu
  induction fu with
  | zero => intro x1 x4 x5 σ; exact s_none
  | succ fu ih => intro x1 x4 x5 σ; exact wMd_enters_b154 hG C htab (fMd_enters_l154 fu) ih _ _ _ _
def fMd_enters_j137 (x1 : Int32) (x2 : Int32) (x4 : Int32) (s0 : Int32) (s1 : Int32) (σ : Sg) : Option (Unit × Sg) :=
  mpA 33 s1 s0 σ fun σ1 =>
  mpZ 35 ((201 * x1) + x2) 1 σ1 fun σ2 =>
  fMd_enters_l154 FU x1 x4 0 σ2
theorem wMd_enters_j137 {X : MC} {G : GE} {n0 : Nat} (hG : gH G = true) (C : CX X G RX12 cX12_enters pMd_enters 6 none n0) (htab : ∀ z ∈ X.2.2.2.2.2.2.2.2.exceptionTable.toList, False) {M : Mm} {n : Nat} (x1 : Int32) (x2 : Int32) (x4 : Int32) (s0 : Int32) (s1 : Int32) (σ : Sg) : JS X G 6 300 0 n0 (EM X G n0 7 300 (eS rvU M n)) (fMd_enters_j137 x1 x2 x4 s0 s1 σ) (σ, M, n) 137 [(0, .inr (.inl (some (gM G)))), (1, .inl x1), (2, .inl x2), (4, .inl x4)] [.inl s0, .inl s1, .inr (.inl (some (gA G 33)))] := by
  unfold fMd_enters_j137
  refine s_mstI hG C 83 rfl rfl rfl (fun σ1 _ => ?_)
  refine s_blk C 84 1 [0, 1, 2, 4] (pc' := 139) (lv' := [(0, .inr (.inl (some (gM G)))), (1, .inl x1), (2, .inl x2), (4, .inl x4)]) (st' := [.inr (.inl (some (gM G)))]) rfl ?_
  refine s_mR hG C 85 rfl 35 fl_X12_95 rfl ?_
  refine s_blk C 86 6 [0, 1, 4] (pc' := 150) (lv' := [(0, .inr (.inl (some (gM G)))), (1, .inl x1), (4, .inl x4)]) (st' := [.inl 1, .inl ((201 * x1) + x2), .inr (.inl (some (gA G 35)))]) rfl ?_
  refine s_mstZ hG C 92 rfl rfl rfl (fun σ2 _ => ?_)
  refine s_blk C 93 2 [0, 1, 4, 5] (pc' := 154) (lv' := [(0, .inr (.inl (some (gM G)))), (1, .inl x1), (4, .inl x4), (5, .inl 0)]) (st' := []) rfl ?_
  exact wMd_enters_l154 hG C htab FU _ _ _ _
def fMd_enters_j51 (x1 : Int32) (x2 : Int32) (x3 : Int32) (x4 : Int32) (σ : Sg) : Option (Unit × Sg) :=
  mgA 26 x1 σ fun v1 =>
  mpA 26 x1 (v1 + 1) σ fun σ2 =>
  mpA 27 x4 x2 σ2 fun σ3 =>
  mgA 38 x2 σ3 fun v4 =>
  mpA 28 x4 v4 σ3 fun σ5 =>
  mgA 39 x2 σ5 fun v6 =>
  mpA 29 x4 v6 σ5 fun σ7 =>
  mpA 30 x4 0 σ7 fun σ8 =>
  mpA 31 x4 (-1) σ8 fun σ9 =>
  mpA 32 x4 (-1) σ9 fun σ10 =>
  if x3 = 0 then
    mgF 5 σ10 fun v11 =>
    fMd_enters_j137 x1 x2 x4 v11 x4 σ10
  else
    fMd_enters_j137 x1 x2 x4 0 x4 σ10
theorem wMd_enters_j51 {X : MC} {G : GE} {n0 : Nat} (hG : gH G = true) (C : CX X G RX12 cX12_enters pMd_enters 6 none n0) (htab : ∀ z ∈ X.2.2.2.2.2.2.2.2.exceptionTable.toList, False) {M : Mm} {n : Nat} (x1 : Int32) (x2 : Int32) (x3 : Int32) (x4 : Int32) (σ : Sg) : JS X G 6 300 0 n0 (EM X G n0 7 300 (eS rvU M n)) (fMd_enters_j51 x1 x2 x3 x4 σ) (σ, M, n) 51 [(0, .inr (.inl (some (gM G)))), (1, .inl x1), (2, .inl x2), (3, .inl x3), (4, .inl x4)] [] := by
  unfold fMd_enters_j51
  refine s_blk C 30 1 [0, 1, 2, 3, 4] (pc' := 52) (lv' := [(0, .inr (.inl (some (gM G)))), (1, .inl x1), (2, .inl x2), (3, .inl x3), (4, .inl x4)]) (st' := [.inr (.inl (some (gM G)))]) rfl ?_
  refine s_mR hG C 31 rfl 26 fl_X12_68 rfl ?_
  refine s_blk C 32 2 [0, 1, 2, 3, 4] (pc' := 57) (lv' := [(0, .inr (.inl (some (gM G)))), (1, .inl x1), (2, .inl x2), (3, .inl x3), (4, .inl x4)]) (st' := [.inl x1, .inr (.inl (some (gA G 26))), .inl x1, .inr (.inl (some (gA G 26)))]) rfl ?_
  refine s_mldI hG C 34 rfl rfl rfl (fun v1 => ?_)
  refine s_blk C 35 2 [0, 1, 2, 3, 4] (pc' := 60) (lv' := [(0, .inr (.inl (some (gM G)))), (1, .inl x1), (2, .inl x2), (3, .inl x3), (4, .inl x4)]) (st' := [.inl (v1 + 1), .inl x1, .inr (.inl (some (gA G 26)))]) rfl ?_
  refine s_mstI hG C 37 rfl rfl rfl (fun σ2 _ => ?_)
  refine s_blk C 38 1 [0, 1, 2, 3, 4] (pc' := 62) (lv' := [(0, .inr (.inl (some (gM G)))), (1, .inl x1), (2, .inl x2), (3, .inl x3), (4, .inl x4)]) (st' := [.inr (.inl (some (gM G)))]) rfl ?_
  refine s_mR hG C 39 rfl 27 fl_X12_71 rfl ?_
  refine s_blk C 40 2 [0, 1, 2, 3, 4] (pc' := 68) (lv' := [(0, .inr (.inl (some (gM G)))), (1, .inl x1), (2, .inl x2), (3, .inl x3), (4, .inl x4)]) (st' := [.inl x2, .inl x4, .inr (.inl (some (gA G 27)))]) rfl ?_
  refine s_mstI hG C 42 rfl rfl rfl (fun σ3 _ => ?_)
  refine s_blk C 43 1 [0, 1, 2, 3, 4] (pc' := 70) (lv' := [(0, .inr (.inl (some (gM G)))), (1, .inl x1), (2, .inl x2), (3, .inl x3), (4, .inl x4)]) (st' := [.inr (.inl (some (gM G)))]) rfl ?_
  refine s_mR hG C 44 rfl 28 fl_X12_74 rfl ?_
  refine s_blk C 45 2 [0, 1, 2, 3, 4] (pc' := 76) (lv' := [(0, .inr (.inl (some (gM G)))), (1, .inl x1), (2, .inl x2), (3, .inl x3), (4, .inl x4)]) (st' := [.inr (.inl (some (gM G))), .inl x4, .inr (.inl (some (gA G 28)))]) rfl ?_
  refine s_mR hG C 47 rfl 38 fl_X12_104 rfl ?_
  refine s_blk C 48 1 [0, 1, 2, 3, 4] (pc' := 80) (lv' := [(0, .inr (.inl (some (gM G)))), (1, .inl x1), (2, .inl x2), (3, .inl x3), (4, .inl x4)]) (st' := [.inl x2, .inr (.inl (some (gA G 38))), .inl x4, .inr (.inl (some (gA G 28)))]) rfl ?_
  refine s_mldI hG C 49 rfl rfl rfl (fun v4 => ?_)
  refine s_mstI hG C 50 rfl rfl rfl (fun σ5 _ => ?_)
  refine s_blk C 51 1 [0, 1, 2, 3, 4] (pc' := 83) (lv' := [(0, .inr (.inl (some (gM G)))), (1, .inl x1), (2, .inl x2), (3, .inl x3), (4, .inl x4)]) (st' := [.inr (.inl (some (gM G)))]) rfl ?_
  refine s_mR hG C 52 rfl 29 fl_X12_77 rfl ?_
  refine s_blk C 53 2 [0, 1, 2, 3, 4] (pc' := 89) (lv' := [(0, .inr (.inl (some (gM G)))), (1, .inl x1), (2, .inl x2), (3, .inl x3), (4, .inl x4)]) (st' := [.inr (.inl (some (gM G))), .inl x4, .inr (.inl (some (gA G 29)))]) rfl ?_
  refine s_mR hG C 55 rfl 39 fl_X12_107 rfl ?_
  refine s_blk C 56 1 [0, 1, 2, 3, 4] (pc' := 93) (lv' := [(0, .inr (.inl (some (gM G)))), (1, .inl x1), (2, .inl x2), (3, .inl x3), (4, .inl x4)]) (st' := [.inl x2, .inr (.inl (some (gA G 39))), .inl x4, .inr (.inl (some (gA G 29)))]) rfl ?_
  refine s_mldI hG C 57 rfl rfl rfl (fun v6 => ?_)
  refine s_mstI hG C 58 rfl rfl rfl (fun σ7 _ => ?_)
  refine s_blk C 59 1 [0, 1, 2, 3, 4] (pc' := 96) (lv' := [(0, .inr (.inl (some (gM G)))), (1, .inl x1), (2, .inl x2), (3, .inl x3), (4, .inl x4)]) (st' := [.inr (.inl (some (gM G)))]) rfl ?_
  refine s_mR hG C 60 rfl 30 fl_X12_80 rfl ?_
  refine s_blk C 61 2 [0, 1, 2, 3, 4] (pc' := 102) (lv' := [(0, .inr (.inl (some (gM G)))), (1, .inl x1), (2, .inl x2), (3, .inl x3), (4, .inl x4)]) (st' := [.inl 0, .inl x4, .inr (.inl (some (gA G 30)))]) rfl ?_
  refine s_mstI hG C 63 rfl rfl rfl (fun σ8 _ => ?_)
  refine s_blk C 64 1 [0, 1, 2, 3, 4] (pc' := 104) (lv' := [(0, .inr (.inl (some (gM G)))), (1, .inl x1), (2, .inl x2), (3, .inl x3), (4, .inl x4)]) (st' := [.inr (.inl (some (gM G)))]) rfl ?_
  refine s_mR hG C 65 rfl 31 fl_X12_83 rfl ?_
  refine s_blk C 66 2 [0, 1, 2, 3, 4] (pc' := 110) (lv' := [(0, .inr (.inl (some (gM G)))), (1, .inl x1), (2, .inl x2), (3, .inl x3), (4, .inl x4)]) (st' := [.inl (-1), .inl x4, .inr (.inl (some (gA G 31)))]) rfl ?_
  refine s_mstI hG C 68 rfl rfl rfl (fun σ9 _ => ?_)
  refine s_blk C 69 1 [0, 1, 2, 3, 4] (pc' := 112) (lv' := [(0, .inr (.inl (some (gM G)))), (1, .inl x1), (2, .inl x2), (3, .inl x3), (4, .inl x4)]) (st' := [.inr (.inl (some (gM G)))]) rfl ?_
  refine s_mR hG C 70 rfl 32 fl_X12_86 rfl ?_
  refine s_blk C 71 2 [0, 1, 2, 3, 4] (pc' := 118) (lv' := [(0, .inr (.inl (some (gM G)))), (1, .inl x1), (2, .inl x2), (3, .inl x3), (4, .inl x4)]) (st' := [.inl (-1), .inl x4, .inr (.inl (some (gA G 32)))]) rfl ?_
  refine s_mstI hG C 73 rfl rfl rfl (fun σ10 _ => ?_)
  refine s_blk C 74 1 [0, 1, 2, 3, 4] (pc' := 120) (lv' := [(0, .inr (.inl (some (gM G)))), (1, .inl x1), (2, .inl x2), (3, .inl x3), (4, .inl x4)]) (st' := [.inr (.inl (some (gM G)))]) rfl ?_
  refine s_mR hG C 75 rfl 33 fl_X12_89 rfl ?_
  refine s_blk C 76 2 [0, 1, 2, 4] (pc' := 126) (lv' := [(0, .inr (.inl (some (gM G)))), (1, .inl x1), (2, .inl x2), (4, .inl x4)]) (st' := [.inl x3, .inl x4, .inr (.inl (some (gA G 33)))]) rfl ?_
  refine s_ieq C 78 rfl (fun _ => ?_) (fun _ => ?_)
  · refine s_blk C 81 1 [0, 1, 2, 4] (pc' := 134) (lv' := [(0, .inr (.inl (some (gM G)))), (1, .inl x1), (2, .inl x2), (4, .inl x4)]) (st' := [.inr (.inl (some (gM G))), .inl x4, .inr (.inl (some (gA G 33)))]) rfl ?_
    refine s_mF hG C 82 rfl fl_X12_154 rfl (fun v11 => ?_)
    exact wMd_enters_j137 hG C htab _ _ _ _ _ _
  refine s_blk C 79 2 [0, 1, 2, 4] (pc' := 137) (lv' := [(0, .inr (.inl (some (gM G)))), (1, .inl x1), (2, .inl x2), (4, .inl x4)]) (st' := [.inl 0, .inl x4, .inr (.inl (some (gA G 33)))]) rfl ?_
  exact wMd_enters_j137 hG C htab _ _ _ _ _ _
def fMd_enters_b13 (k13 : Int32 → Int32 → Int32 → Int32 → Sg → Option (Unit × Sg)) (x1 : Int32) (x2 : Int32) (x3 : Int32) (x4 : Int32) (σ : Sg) : Option (Unit × Sg) :=
  if x4 ≤ (40 * x1) then
    fMd_enters_j51 x1 x2 x3 x4 σ
  else
    mgA 27 (x4 - 1) σ fun v1 =>
    if v1 ≤ x2 then
      fMd_enters_j51 x1 x2 x3 x4 σ
    else
      bdW (fMd_moves (x4 - 1) x4 σ) fun v2 σ3 =>
      k13 x1 x2 x3 (x4 + (-1)) σ3
theorem wMd_enters_b13 {X : MC} {G : GE} {n0 : Nat} (hG : gH G = true) (C : CX X G RX12 cX12_enters pMd_enters 6 none n0) (htab : ∀ z ∈ X.2.2.2.2.2.2.2.2.exceptionTable.toList, False) {M : Mm} {n : Nat} (k13 : Int32 → Int32 → Int32 → Int32 → Sg → Option (Unit × Sg)) (H13 : ∀ (x1 : Int32) (x2 : Int32) (x3 : Int32) (x4 : Int32) (σ : Sg), JS X G 6 300 0 n0 (EM X G n0 7 300 (eS rvU M n)) (k13 x1 x2 x3 x4 σ) (σ, M, n) 13 [(0, .inr (.inl (some (gM G)))), (1, .inl x1), (2, .inl x2), (3, .inl x3), (4, .inl x4)] []) (x1 : Int32) (x2 : Int32) (x3 : Int32) (x4 : Int32) (σ : Sg) : JS X G 6 300 0 n0 (EM X G n0 7 300 (eS rvU M n)) (fMd_enters_b13 k13 x1 x2 x3 x4 σ) (σ, M, n) 13 [(0, .inr (.inl (some (gM G)))), (1, .inl x1), (2, .inl x2), (3, .inl x3), (4, .inl x4)] [] := by
  unfold fMd_enters_b13
  refine s_blk C 9 4 [0, 1, 2, 3, 4] (pc' := 19) (lv' := [(0, .inr (.inl (some (gM G)))), (1, .inl x1), (2, .inl x2), (3, .inl x3), (4, .inl x4)]) (st' := [.inl (40 * x1), .inl x4]) rfl ?_
  refine s_icle C 13 rfl (fun _ => ?_) (fun _ => ?_)
  · exact wMd_enters_j51 hG C htab _ _ _ _ _
  refine s_blk C 14 1 [0, 1, 2, 3, 4] (pc' := 23) (lv' := [(0, .inr (.inl (some (gM G)))), (1, .inl x1), (2, .inl x2), (3, .inl x3), (4, .inl x4)]) (st' := [.inr (.inl (some (gM G)))]) rfl ?_
  refine s_mR hG C 15 rfl 27 fl_X12_71 rfl ?_
  refine s_blk C 16 3 [0, 1, 2, 3, 4] (pc' := 30) (lv' := [(0, .inr (.inl (some (gM G)))), (1, .inl x1), (2, .inl x2), (3, .inl x3), (4, .inl x4)]) (st' := [.inl (x4 - 1), .inr (.inl (some (gA G 27)))]) rfl ?_
  refine s_mldI hG C 19 rfl rfl rfl (fun v1 => ?_)
  refine s_blk C 20 1 [0, 1, 2, 3, 4] (pc' := 32) (lv' := [(0, .inr (.inl (some (gM G)))), (1, .inl x1), (2, .inl x2), (3, .inl x3), (4, .inl x4)]) (st' := [.inl x2, .inl v1]) rfl ?_
  refine s_icle C 21 rfl (fun _ => ?_) (fun _ => ?_)
  · exact wMd_enters_j51 hG C htab _ _ _ _ _
  refine s_blk C 22 5 [0, 1, 2, 3, 4] (pc' := 42) (lv' := [(0, .inr (.inl (some (gM G)))), (1, .inl x1), (2, .inl x2), (3, .inl x3), (4, .inl x4)]) (st' := [.inl x4, .inl (x4 - 1), .inr (.inl (some (gM G)))]) rfl ?_
  refine s_SU (CE_EM _ _ _ _ _ _) (st := []) (fun o ho => j_callV (As := [.inl (x4 - 1), .inl x4]) (st := []) (b := gM G) C 27 rfl mf_Md_moves ml_X12_206 rfl (recv_M hG C) (by decide) (by decide) (Nat.le_refl _) rfl (cMd_moves (CX_tr C) hG σ M n (x4 - 1) x4 o ho)) (fun v2 σ3 => ?_)
  refine s_blk C 28 2 [0, 1, 2, 3, 4] (pc' := 13) (lv' := [(0, .inr (.inl (some (gM G)))), (1, .inl x1), (2, .inl x2), (3, .inl x3), (4, .inl (x4 + (-1)))]) (st' := []) rfl ?_
  exact H13 _ _ _ _ _
def fMd_enters_l13 (fu : Nat) : Int32 → Int32 → Int32 → Int32 → Sg → Option (Unit × Sg) := Nat.rec (fun x1 x2 x3 x4 σ => none) (fun _ k => fMd_enters_b13 k) fu
theorem wMd_enters_l13 {X : MC} {G : GE} {n0 : Nat} (hG : gH G = true) (C : CX X G RX12 cX12_enters pMd_enters 6 none n0) (htab : ∀ z ∈ X.2.2.2.2.2.2.2.2.exceptionTable.toList, False) {M : Mm} {n : Nat} : ∀ (fu : Nat) (x1 : Int32) (x2 : Int32) (x3 : Int32) (x4 : Int32) (σ : Sg), JS X G 6 300 0 n0 (EM X G n0 7 300 (eS rvU M n)) (fMd_enters_l13 fu x1 x2 x3 x4 σ) (σ, M, n) 13 [(0, .inr (.inl (some (gM G)))), (1, .inl x1), (2, .inl x2), (3, .inl x3), (4, .inl x4)] [] := by
  intro fu
  induction fu with
  | zero => intro x1 x2 x3 x4 σ; exact s_none
  | succ fu ih => intro x1 x2 x3 x4 σ; exact wMd_enters_b13 hG C htab (fMd_enters_l13 fu) ih _ _ _ _ _
def fMd_enters (x1 : Int32) (x2 : Int32) (x3 : Int32) (σ : Sg) : Option (Unit × Sg) :=
  mgA 26 x1 σ fun v1 =>
  fMd_enters_l13 FU x1 x2 x3 ((40 * x1) + v1) σ
theorem wMd_enters {X : MC} {G : GE} {n0 : Nat} (hG : gH G = true) (C : CX X G RX12 cX12_enters pMd_enters 6 none n0) (htab : ∀ z ∈ X.2.2.2.2.2.2.2.2.exceptionTable.toList, False) {M : Mm} {n : Nat} (x1 : Int32) (x2 : Int32) (x3 : Int32) (σ : Sg) : JS X G 6 300 0 n0 (EM X G n0 7 300 (eS rvU M n)) (fMd_enters x1 x2 x3 σ) (σ, M, n) 0 [(0, .inr (.inl (some (gM G)))), (1, .inl x1), (2, .inl x2), (3, .inl x3)] [] := by
  unfold fMd_enters
  refine s_blk C 0 4 [0, 1, 2, 3] (pc' := 5) (lv' := [(0, .inr (.inl (some (gM G)))), (1, .inl x1), (2, .inl x2), (3, .inl x3)]) (st' := [.inr (.inl (some (gM G))), .inl (40 * x1)]) rfl ?_
  refine s_mR hG C 4 rfl 26 fl_X12_68 rfl ?_
  refine s_blk C 5 1 [0, 1, 2, 3] (pc' := 9) (lv' := [(0, .inr (.inl (some (gM G)))), (1, .inl x1), (2, .inl x2), (3, .inl x3)]) (st' := [.inl x1, .inr (.inl (some (gA G 26))), .inl (40 * x1)]) rfl ?_
  refine s_mldI hG C 6 rfl rfl rfl (fun v1 => ?_)
  refine s_blk C 7 2 [0, 1, 2, 3, 4] (pc' := 13) (lv' := [(0, .inr (.inl (some (gM G)))), (1, .inl x1), (2, .inl x2), (3, .inl x3), (4, .inl ((40 * x1) + v1))]) (st' := []) rfl ?_
  exact wMd_enters_l13 hG C htab FU _ _ _ _ _
theorem cMd_enters {l : Launch} {G : GE} (htr : l.stackTraces = false) (hG : gH G = true) (σ : Sg) (M : Mm) (n : Nat) (x1 : Int32) (x2 : Int32) (x3 : Int32) : ∀ o, fMd_enters x1 x2 x3 σ = some o → MetX l G yX12_enters cX12_enters 6 none 7 300 [.inr (.inl (some (gM G))), .inl x1, .inl x2, .inl x3] (σ, M, n) ((eS rvU M n) o) :=
  c_ofX (by decide) kMd_enters htr rfl rfl fun X _ _ C htab => wMd_enters hG C htab x1 x2 x3 _

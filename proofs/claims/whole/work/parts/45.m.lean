def pMd_readAt_0 : List BR := [(0, .iconst 0, 1, 0, 1), (1, .istore_n 3, 1, 0, 2), (2, .iconst 0, 1, 0, 3), (3, .istore 4, 2, 0, 5), (5, .iload 4, 2, 0, 7), (7, .iconst 5, 1, 5, 8), (8, .if_icmp .ge (87), 3, 0, 95), (11, .iload_n 3, 1, 0, 12), (12, .iconst 3, 1, 3, 13), (13, .if_icmp .ge (82), 3, 0, 95), (16, .aload_n 0, 1, 0, 17), (17, .iload_n 1, 1, 0, 18), (18, .iload 4, 2, 0, 20), (20, .invokevirtual 196, 3, 0, 23), (23, .ifCond .eq (66), 3, 0, 89), (26, .iconst 0, 1, 0, 27), (27, .istore 5, 2, 0, 29), (29, .iload 5, 2, 0, 31), (31, .iconst 3, 1, 3, 32), (32, .if_icmp .ge (27), 3, 0, 59), (35, .aload_n 0, 1, 0, 36), (36, .getfield 125, 3, 0, 39), (39, .iconst 4, 1, 4, 40), (40, .iload_n 3, 1, 0, 41), (41, .imul, 1, 0, 42), (42, .iload 5, 2, 0, 44), (44, .iadd, 1, 0, 45), (45, .iload 4, 2, 0, 47), (47, .iload 5, 2, 0, 49), (49, .invokestatic 179, 3, 0, 52), (52, .iastore, 1, 0, 53), (53, .iinc 5 (1), 3, 1, 56), (56, .goto (-27), 3, 0, 29), (59, .aload_n 0, 1, 0, 60), (60, .getfield 125, 3, 0, 63), (63, .iconst 4, 1, 4, 64), (64, .iload_n 3, 1, 0, 65), (65, .imul, 1, 0, 66), (66, .iconst 3, 1, 3, 67), (67, .iadd, 1, 0, 68)]
theorem kMd_readAt_0 : bOK cX12_readAt 6 pMd_readAt_0 = true := by decide +kernel
def pMd_readAt_1 : List BR := [(68, .aload_n 0, 1, 0, 69), (69, .getfield 62, 3, 0, 72), (72, .iconst 2, 1, 2, 73), (73, .iconst 5, 1, 5, 74), (74, .iload_n 1, 1, 0, 75), (75, .imul, 1, 0, 76), (76, .iload 4, 2, 0, 78), (78, .iadd, 1, 0, 79), (79, .imul, 1, 0, 80), (80, .iload_n 2, 1, 0, 81), (81, .iconst 2, 1, 2, 82), (82, .irem, 1, 0, 83), (83, .iadd, 1, 0, 84), (84, .iaload, 1, 0, 85), (85, .iastore, 1, 0, 86), (86, .iinc 3 (1), 3, 1, 89), (89, .iinc 4 (1), 3, 1, 92), (92, .goto (-87), 3, 0, 5), (95, .iconst 0, 1, 0, 96), (96, .istore 4, 2, 0, 98), (98, .iload 4, 2, 0, 100), (100, .iconst 3, 1, 3, 101), (101, .if_icmp .ge (15), 3, 0, 116), (104, .aload_n 0, 1, 0, 105), (105, .iload 4, 2, 0, 107), (107, .invokevirtual 199, 3, 0, 110), (110, .iinc 4 (1), 3, 1, 113), (113, .goto (-15), 3, 0, 98), (116, .aload_n 0, 1, 0, 117), (117, .getfield 125, 3, 0, 120), (120, .iconst 4, 1, 4, 121), (121, .iload_n 2, 1, 0, 122), (122, .iconst 2, 1, 2, 123), (123, .idiv, 1, 0, 124), (124, .imul, 1, 0, 125), (125, .iconst 3, 1, 3, 126), (126, .iadd, 1, 0, 127), (127, .iaload, 1, 0, 128), (128, .ireturn, 1, 0, 129)]
theorem kMd_readAt_1 : bOK cX12_readAt 6 pMd_readAt_1 = true := by decide +kernel
def pMd_readAt : List BR := (pMd_readAt_0 ++ pMd_readAt_1)
theorem kMd_readAt : bOK cX12_readAt 6 pMd_readAt = true := (bOK_app kMd_readAt_0 kMd_readAt_1)
def fMd_readAt_b98 (k98 : Int32 → Int32 → Sg → Option (Int32 × Sg)) (x2 : Int32) (x4 : Int32) (σ : Sg) : Option (Int32 × Sg) :=
  if 3 ≤ x4 then
    mgA 46 ((4 * (x2 / 2)) + 3) σ fun v1 =>
    some (v1, σ)
  else
    bdW (fMd_turns x4 σ) fun v2 σ3 =>
    k98 x2 (x4 + 1) σ3
theorem wMd_readAt_b98 {X : MC} {G : GE} {n0 : Nat} (hG : gH G = true) (C : CX X G RX12 cX12_readAt pMd_readAt 6 (some .int) n0) (htab : ∀ z ∈ X.2.2.2.2.2.2.2.2.exceptionTable.toList, False) {M : Mm} {n : Nat} (k98 : Int32 → Int32 → Sg → Option (Int32 × Sg)) (H98 : ∀ (x2 : Int32) (x4 : Int32) (σ : Sg), JS X G 6 300 0 n0 (EM X G n0 5 300 (eS rvI M n)) (k98 x2 x4 σ) (σ, M, n) 98 [(0, .inr (.inl (some (gM G)))), (2, .inl x2), (4, .inl x4)] []) (x2 : Int32) (x4 : Int32) (σ : Sg) : JS X G 6 300 0 n0 (EM X G n0 5 300 (eS rvI M n)) (fMd_readAt_b98 k98 x2 x4 σ) (σ, M, n) 98 [(0, .inr (.inl (some (gM G)))), (2, .inl x2), (4, .inl x4)] [] := by
  unfold fMd_readAt_b98
  refine s_blk C 60 2 [0, 2, 4] (pc' := 101) (lv' := [(0, .inr (.inl (some (gM G)))), (2, .inl x2), (4, .inl x4)]) (st' := [.inl 3, .inl x4]) rfl ?_
  refine s_icge C 62 rfl (fun _ => ?_) (fun _ => ?_)
  · refine s_blk C 68 1 [2] (pc' := 117) (lv' := [(2, .inl x2)]) (st' := [.inr (.inl (some (gM G)))]) rfl ?_
    refine s_mR hG C 69 rfl 46 fl_X12_125 rfl ?_
    refine s_blk C 70 3 [] (pc' := 123) (lv' := []) (st' := [.inl 2, .inl x2, .inl 4, .inr (.inl (some (gA G 46)))]) rfl ?_
    refine s_idiv C 73 rfl (by decide) ?_
    refine s_blk C 74 3 [] (pc' := 127) (lv' := []) (st' := [.inl ((4 * (x2 / 2)) + 3), .inr (.inl (some (gA G 46)))]) rfl ?_
    refine s_mldI hG C 77 rfl rfl rfl (fun v1 => ?_)
    exact s_iret C 78 rfl rfl
  refine s_blk C 63 2 [0, 2, 4] (pc' := 107) (lv' := [(0, .inr (.inl (some (gM G)))), (2, .inl x2), (4, .inl x4)]) (st' := [.inl x4, .inr (.inl (some (gM G)))]) rfl ?_
  refine s_SU (CE_EM _ _ _ _ _ _) (st := []) (fun o ho => j_callV (As := [.inl x4]) (st := []) (b := gM G) C 65 rfl mf_Md_turns ml_X12_199 rfl (recv_M hG C) (by decide) (by decide) (Nat.le_refl _) rfl (cMd_turns (CX_tr C) hG σ M n x4 o ho)) (fun v2 σ3 => ?_)
  refine s_blk C 66 2 [0, 2, 4] (pc' := 98) (lv' := [(0, .inr (.inl (some (gM G)))), (2, .inl x2), (4, .inl (x4 + 1))]) (st' := []) rfl ?_
  exact H98 _ _ _
def fMd_readAt_l98 (fu : Nat) : Int32 → Int32 → Sg → Option (Int32 × Sg) := Nat.rec (fun x2 x4 σ => none) (fun _ k => fMd_readAt_b98 k) fu
theorem wMd_readAt_l98 {X : MC} {G : GE} {n0 : Nat} (hG : gH G = true) (C : CX X G RX12 cX12_readAt pMd_readAt 6 (some .int) n0) (htab : ∀ z ∈ X.2.2.2.2.2.2.2.2.exceptionTable.toList, False) {M : Mm} {n : Nat} : ∀ (fu : Nat) (x2 : Int32) (x4 : Int32) (σ : Sg), JS X G 6 300 0 n0 (EM X G n0 5 300 (eS rvI M n)) (fMd_readAt_l98 fu x2 x4 σ) (σ, M, n) 98 [(0, .inr (.inl (some (gM G)))), (2, .inl x2), (4, .inl x4)] [] := by
  intro fu
  induction fu with
  | zero => intro x2 x4 σ; exact s_none
  | succ fu ih => intro x2 x4 σ; exact wMd_readAt_b98 hG C htab (fMd_readAt_l98 fu) ih _ _ _
def fMd_readAt_j95 (x2 : Int32) (σ : Sg) : Option (Int32 × Sg) :=
  fMd_readAt_l98 FU x2 0 σ
theorem wMd_readAt_j95 {X : MC} {G : GE} {n0 : Nat} (hG : gH G = true) (C : CX X G RX12 cX12_readAt pMd_readAt 6 (some .int) n0) (htab : ∀ z ∈ X.2.2.2.2.2.2.2.2.exceptionTable.toList, False) {M : Mm} {n : Nat} (x2 : Int32) (σ : Sg) : JS X G 6 300 0 n0 (EM X G n0 5 300 (eS rvI M n)) (fMd_readAt_j95 x2 σ) (σ, M, n) 95 [(0, .inr (.inl (some (gM G)))), (2, .inl x2)] [] := by
  unfold fMd_readAt_j95
  refine s_blk C 58 2 [0, 2, 4] (pc' := 98) (lv' := [(0, .inr (.inl (some (gM G)))), (2, .inl x2), (4, .inl 0)]) (st' := []) rfl ?_
  exact wMd_readAt_l98 hG C htab FU _ _ _
def fMd_readAt_j89 (k5 : Int32 → Int32 → Int32 → Int32 → Sg → Option (Int32 × Sg)) (x1 : Int32) (x2 : Int32) (x3 : Int32) (x4 : Int32) (σ : Sg) : Option (Int32 × Sg) :=
  k5 x1 x2 x3 (x4 + 1) σ
theorem wMd_readAt_j89 {X : MC} {G : GE} {n0 : Nat} (hG : gH G = true) (C : CX X G RX12 cX12_readAt pMd_readAt 6 (some .int) n0) (htab : ∀ z ∈ X.2.2.2.2.2.2.2.2.exceptionTable.toList, False) {M : Mm} {n : Nat} (k5 : Int32 → Int32 → Int32 → Int32 → Sg → Option (Int32 × Sg)) (H5 : ∀ (x1 : Int32) (x2 : Int32) (x3 : Int32) (x4 : Int32) (σ : Sg), JS X G 6 300 0 n0 (EM X G n0 5 300 (eS rvI M n)) (k5 x1 x2 x3 x4 σ) (σ, M, n) 5 [(0, .inr (.inl (some (gM G)))), (1, .inl x1), (2, .inl x2), (3, .inl x3), (4, .inl x4)] []) (x1 : Int32) (x2 : Int32) (x3 : Int32) (x4 : Int32) (σ : Sg) : JS X G 6 300 0 n0 (EM X G n0 5 300 (eS rvI M n)) (fMd_readAt_j89 k5 x1 x2 x3 x4 σ) (σ, M, n) 89 [(0, .inr (.inl (some (gM G)))), (1, .inl x1), (2, .inl x2), (3, .inl x3), (4, .inl x4)] [] := by
  unfold fMd_readAt_j89
  refine s_blk C 56 2 [0, 1, 2, 3, 4] (pc' := 5) (lv' := [(0, .inr (.inl (some (gM G)))), (1, .inl x1), (2, .inl x2), (3, .inl x3), (4, .inl (x4 + 1))]) (st' := []) rfl ?_
  exact H5 _ _ _ _ _
def fMd_readAt_b29 (k5 : Int32 → Int32 → Int32 → Int32 → Sg → Option (Int32 × Sg)) (k29 : Int32 → Int32 → Int32 → Int32 → Int32 → Sg → Option (Int32 × Sg)) (x1 : Int32) (x2 : Int32) (x3 : Int32) (x4 : Int32) (x5 : Int32) (σ : Sg) : Option (Int32 × Sg) :=
  if 3 ≤ x5 then
    mgA 24 ((2 * ((5 * x1) + x4)) + (x2 - x2 / 2 * 2)) σ fun v1 =>
    mpA 46 ((4 * x3) + 3) v1 σ fun σ2 =>
    fMd_readAt_j89 k5 x1 x2 (x3 + 1) x4 σ2
  else
    bdR (fMd_weight x4 x5) fun v3 =>
    mpA 46 ((4 * x3) + x5) v3 σ fun σ4 =>
    k29 x1 x2 x3 x4 (x5 + 1) σ4
theorem wMd_readAt_b29 {X : MC} {G : GE} {n0 : Nat} (hG : gH G = true) (C : CX X G RX12 cX12_readAt pMd_readAt 6 (some .int) n0) (htab : ∀ z ∈ X.2.2.2.2.2.2.2.2.exceptionTable.toList, False) {M : Mm} {n : Nat} (k5 : Int32 → Int32 → Int32 → Int32 → Sg → Option (Int32 × Sg)) (H5 : ∀ (x1 : Int32) (x2 : Int32) (x3 : Int32) (x4 : Int32) (σ : Sg), JS X G 6 300 0 n0 (EM X G n0 5 300 (eS rvI M n)) (k5 x1 x2 x3 x4 σ) (σ, M, n) 5 [(0, .inr (.inl (some (gM G)))), (1, .inl x1), (2, .inl x2), (3, .inl x3), (4, .inl x4)] []) (k29 : Int32 → Int32 → Int32 → Int32 → Int32 → Sg → Option (Int32 × Sg)) (H29 : ∀ (x1 : Int32) (x2 : Int32) (x3 : Int32) (x4 : Int32) (x5 : Int32) (σ : Sg), JS X G 6 300 0 n0 (EM X G n0 5 300 (eS rvI M n)) (k29 x1 x2 x3 x4 x5 σ) (σ, M, n) 29 [(0, .inr (.inl (some (gM G)))), (1, .inl x1), (2, .inl x2), (3, .inl x3), (4, .inl x4), (5, .inl x5)] []) (x1 : Int32) (x2 : Int32) (x3 : Int32) (x4 : Int32) (x5 : Int32) (σ : Sg) : JS X G 6 300 0 n0 (EM X G n0 5 300 (eS rvI M n)) (fMd_readAt_b29 k5 k29 x1 x2 x3 x4 x5 σ) (σ, M, n) 29 [(0, .inr (.inl (some (gM G)))), (1, .inl x1), (2, .inl x2), (3, .inl x3), (4, .inl x4), (5, .inl x5)] [] := by
  unfold fMd_readAt_b29
  refine s_blk C 17 2 [0, 1, 2, 3, 4, 5] (pc' := 32) (lv' := [(0, .inr (.inl (some (gM G)))), (1, .inl x1), (2, .inl x2), (3, .inl x3), (4, .inl x4), (5, .inl x5)]) (st' := [.inl 3, .inl x5]) rfl ?_
  refine s_icge C 19 rfl (fun _ => ?_) (fun _ => ?_)
  · refine s_blk C 33 1 [0, 1, 2, 3, 4] (pc' := 60) (lv' := [(0, .inr (.inl (some (gM G)))), (1, .inl x1), (2, .inl x2), (3, .inl x3), (4, .inl x4)]) (st' := [.inr (.inl (some (gM G)))]) rfl ?_
    refine s_mR hG C 34 rfl 46 fl_X12_125 rfl ?_
    refine s_blk C 35 6 [0, 1, 2, 3, 4] (pc' := 69) (lv' := [(0, .inr (.inl (some (gM G)))), (1, .inl x1), (2, .inl x2), (3, .inl x3), (4, .inl x4)]) (st' := [.inr (.inl (some (gM G))), .inl ((4 * x3) + 3), .inr (.inl (some (gA G 46)))]) rfl ?_
    refine s_mR hG C 41 rfl 24 fl_X12_62 rfl ?_
    refine s_blk C 42 9 [0, 1, 2, 3, 4] (pc' := 82) (lv' := [(0, .inr (.inl (some (gM G)))), (1, .inl x1), (2, .inl x2), (3, .inl x3), (4, .inl x4)]) (st' := [.inl 2, .inl x2, .inl (2 * ((5 * x1) + x4)), .inr (.inl (some (gA G 24))), .inl ((4 * x3) + 3), .inr (.inl (some (gA G 46)))]) rfl ?_
    refine s_irem C 51 rfl (by decide) ?_
    refine s_blk C 52 1 [0, 1, 2, 3, 4] (pc' := 84) (lv' := [(0, .inr (.inl (some (gM G)))), (1, .inl x1), (2, .inl x2), (3, .inl x3), (4, .inl x4)]) (st' := [.inl ((2 * ((5 * x1) + x4)) + (x2 - x2 / 2 * 2)), .inr (.inl (some (gA G 24))), .inl ((4 * x3) + 3), .inr (.inl (some (gA G 46)))]) rfl ?_
    refine s_mldI hG C 53 rfl rfl rfl (fun v1 => ?_)
    refine s_mstI hG C 54 rfl rfl rfl (fun σ2 _ => ?_)
    refine s_blk C 55 1 [0, 1, 2, 3, 4] (pc' := 89) (lv' := [(0, .inr (.inl (some (gM G)))), (1, .inl x1), (2, .inl x2), (3, .inl (x3 + 1)), (4, .inl x4)]) (st' := []) rfl ?_
    exact wMd_readAt_j89 hG C htab k5 H5 _ _ _ _ _
  refine s_blk C 20 1 [0, 1, 2, 3, 4, 5] (pc' := 36) (lv' := [(0, .inr (.inl (some (gM G)))), (1, .inl x1), (2, .inl x2), (3, .inl x3), (4, .inl x4), (5, .inl x5)]) (st' := [.inr (.inl (some (gM G)))]) rfl ?_
  refine s_mR hG C 21 rfl 46 fl_X12_125 rfl ?_
  refine s_blk C 22 7 [0, 1, 2, 3, 4, 5] (pc' := 49) (lv' := [(0, .inr (.inl (some (gM G)))), (1, .inl x1), (2, .inl x2), (3, .inl x3), (4, .inl x4), (5, .inl x5)]) (st' := [.inl x5, .inl x4, .inl ((4 * x3) + x5), .inr (.inl (some (gA G 46)))]) rfl ?_
  refine s_RI (CE_EM _ _ _ _ _ _) (st := [.inl ((4 * x3) + x5), .inr (.inl (some (gA G 46)))]) (fun o ho => j_callS (As := [.inl x4, .inl x5]) (st := [.inl ((4 * x3) + x5), .inr (.inl (some (gA G 46)))]) C 29 rfl mf_Md_weight ml_X12_179 rfl (by decide) (by decide) (Nat.le_refl _) rfl (cMd_weight (CX_tr C) hG σ M n x4 x5 o ho)) (fun v3 => ?_)
  refine s_mstI hG C 30 rfl rfl rfl (fun σ4 _ => ?_)
  refine s_blk C 31 2 [0, 1, 2, 3, 4, 5] (pc' := 29) (lv' := [(0, .inr (.inl (some (gM G)))), (1, .inl x1), (2, .inl x2), (3, .inl x3), (4, .inl x4), (5, .inl (x5 + 1))]) (st' := []) rfl ?_
  exact H29 _ _ _ _ _ _
def fMd_readAt_l29 (k5 : Int32 → Int32 → Int32 → Int32 → Sg → Option (Int32 × Sg)) (fu : Nat) : Int32 → Int32 → Int32 → Int32 → Int32 → Sg → Option (Int32 × Sg) := Nat.rec (fun x1 x2 x3 x4 x5 σ => none) (fun _ k => fMd_readAt_b29 k5 k) fu
theorem wMd_readAt_l29 {X : MC} {G : GE} {n0 : Nat} (hG : gH G = true) (C : CX X G RX12 cX12_readAt pMd_readAt 6 (some .int) n0) (htab : ∀ z ∈ X.2.2.2.2.2.2.2.2.exceptionTable.toList, False) {M : Mm} {n : Nat} (k5 : Int32 → Int32 → Int32 → Int32 → Sg → Option (Int32 × Sg)) (H5 : ∀ (x1 : Int32) (x2 : Int32) (x3 : Int32) (x4 : Int32) (σ : Sg), JS X G 6 300 0 n0 (EM X G n0 5 300 (eS rvI M n)) (k5 x1 x2 x3 x4 σ) (σ, M, n) 5 [(0, .inr (.inl (some (gM G)))), (1, .inl x1), (2, .inl x2), (3, .inl x3), (4, .inl x4)] []) : ∀ (fu : Nat) (x1 : Int32) (x2 : Int32) (x3 : Int32) (x4 : Int32) (x5 : Int32) (σ : Sg), JS X G 6 300 0 n0 (EM X G n0 5 300 (eS rvI M n)) (fMd_readAt_l29 k5 fu x1 x2 x3 x4 x5 σ) (σ, M, n) 29 [(0, .inr (.inl (some (gM G)))), (1, .inl x1), (2, .inl x2), (3, .inl x3), (4, .inl x4), (5, .inl x5)] [] := by
  intro fu
  induction fu with
  | zero => intro x1 x2 x3 x4 x5 σ; exact s_none
  | succ fu ih => intro x1 x2 x3 x4 x5 σ; exact wMd_readAt_b29 hG C htab k5 H5 (fMd_readAt_l29 k5 fu) ih _ _ _ _ _ _
def fMd_readAt_b5 (k5 : Int32 → Int32 → Int32 → Int32 → Sg → Option (Int32 × Sg)) (x1 : Int32) (x2 : Int32) (x3 : Int32) (x4 : Int32) (σ : Sg) : Option (Int32 × Sg) :=
  if 5 ≤ x4 then
    fMd_readAt_j95 x2 σ
  else
    if 3 ≤ x3 then
      fMd_readAt_j95 x2 σ
    else
      bdR (fMd_isGood x1 x4 σ) fun v1 =>
      if v1 = 0 then
        fMd_readAt_j89 k5 x1 x2 x3 x4 σ
      else
        fMd_readAt_l29 k5 FU x1 x2 x3 x4 0 σ
theorem wMd_readAt_b5 {X : MC} {G : GE} {n0 : Nat} (hG : gH G = true) (C : CX X G RX12 cX12_readAt pMd_readAt 6 (some .int) n0) (htab : ∀ z ∈ X.2.2.2.2.2.2.2.2.exceptionTable.toList, False) {M : Mm} {n : Nat} (k5 : Int32 → Int32 → Int32 → Int32 → Sg → Option (Int32 × Sg)) (H5 : ∀ (x1 : Int32) (x2 : Int32) (x3 : Int32) (x4 : Int32) (σ : Sg), JS X G 6 300 0 n0 (EM X G n0 5 300 (eS rvI M n)) (k5 x1 x2 x3 x4 σ) (σ, M, n) 5 [(0, .inr (.inl (some (gM G)))), (1, .inl x1), (2, .inl x2), (3, .inl x3), (4, .inl x4)] []) (x1 : Int32) (x2 : Int32) (x3 : Int32) (x4 : Int32) (σ : Sg) : JS X G 6 300 0 n0 (EM X G n0 5 300 (eS rvI M n)) (fMd_readAt_b5 k5 x1 x2 x3 x4 σ) (σ, M, n) 5 [(0, .inr (.inl (some (gM G)))), (1, .inl x1), (2, .inl x2), (3, .inl x3), (4, .inl x4)] [] := by
  unfold fMd_readAt_b5
  refine s_blk C 4 2 [0, 1, 2, 3, 4] (pc' := 8) (lv' := [(0, .inr (.inl (some (gM G)))), (1, .inl x1), (2, .inl x2), (3, .inl x3), (4, .inl x4)]) (st' := [.inl 5, .inl x4]) rfl ?_
  refine s_icge C 6 rfl (fun _ => ?_) (fun _ => ?_)
  · refine s_blk C 0 0 [0, 2] (pc' := 95) (lv' := [(0, .inr (.inl (some (gM G)))), (2, .inl x2)]) (st' := []) rfl ?_
    exact wMd_readAt_j95 hG C htab _ _
  refine s_blk C 7 2 [0, 1, 2, 3, 4] (pc' := 13) (lv' := [(0, .inr (.inl (some (gM G)))), (1, .inl x1), (2, .inl x2), (3, .inl x3), (4, .inl x4)]) (st' := [.inl 3, .inl x3]) rfl ?_
  refine s_icge C 9 rfl (fun _ => ?_) (fun _ => ?_)
  · refine s_blk C 0 0 [0, 2] (pc' := 95) (lv' := [(0, .inr (.inl (some (gM G)))), (2, .inl x2)]) (st' := []) rfl ?_
    exact wMd_readAt_j95 hG C htab _ _
  refine s_blk C 10 3 [0, 1, 2, 3, 4] (pc' := 20) (lv' := [(0, .inr (.inl (some (gM G)))), (1, .inl x1), (2, .inl x2), (3, .inl x3), (4, .inl x4)]) (st' := [.inl x4, .inl x1, .inr (.inl (some (gM G)))]) rfl ?_
  refine s_RI (CE_EM _ _ _ _ _ _) (st := []) (fun o ho => j_callV (As := [.inl x1, .inl x4]) (st := []) (b := gM G) C 13 rfl mf_Md_isGood ml_X12_196 rfl (recv_M hG C) (by decide) (by decide) (Nat.le_refl _) rfl (cMd_isGood (CX_tr C) hG σ M n x1 x4 o ho)) (fun v1 => ?_)
  refine s_ieq C 14 rfl (fun _ => ?_) (fun _ => ?_)
  · exact wMd_readAt_j89 hG C htab k5 H5 _ _ _ _ _
  refine s_blk C 15 2 [0, 1, 2, 3, 4, 5] (pc' := 29) (lv' := [(0, .inr (.inl (some (gM G)))), (1, .inl x1), (2, .inl x2), (3, .inl x3), (4, .inl x4), (5, .inl 0)]) (st' := []) rfl ?_
  exact wMd_readAt_l29 hG C htab k5 H5 FU _ _ _ _ _ _
def fMd_readAt_l5 (fu : Nat) : Int32 → Int32 → Int32 → Int32 → Sg → Option (Int32 × Sg) := Nat.rec (fun x1 x2 x3 x4 σ => none) (fun _ k => fMd_readAt_b5 k) fu
theorem wMd_readAt_l5 {X : MC} {G : GE} {n0 : Nat} (hG : gH G = true) (C : CX X G RX12 cX12_readAt pMd_readAt 6 (some .int) n0) (htab : ∀ z ∈ X.2.2.2.2.2.2.2.2.exceptionTable.toList, False) {M : Mm} {n : Nat} : ∀ (fu : Nat) (x1 : Int32) (x2 : Int32) (x3 : Int32) (x4 : Int32) (σ : Sg), JS X G 6 300 0 n0 (EM X G n0 5 300 (eS rvI M n)) (fMd_readAt_l5 fu x1 x2 x3 x4 σ) (σ, M, n) 5 [(0, .inr (.inl (some (gM G)))), (1, .inl x1), (2, .inl x2), (3, .inl x3), (4, .inl x4)] [] := by
  intro fu
  induction fu with
  | zero => intro x1 x2 x3 x4 σ; exact s_none
  | succ fu ih => intro x1 x2 x3 x4 σ; exact wMd_readAt_b5 hG C htab (fMd_readAt_l5 fu) ih _ _ _ _ _
def fMd_readAt (x1 : Int32) (x2 : Int32) (σ : Sg) : Option (Int32 × Sg) :=
  fMd_readAt_l5 FU x1 x2 0 0 σ
theorem wMd_readAt {X : MC} {G : GE} {n0 : Nat} (hG : gH G = true) (C : CX X G RX12 cX12_readAt pMd_readAt 6 (some .int) n0) (htab : ∀ z ∈ X.2.2.2.2.2.2.2.2.exceptionTable.toList, False) {M : Mm} {n : Nat} (x1 : Int32) (x2 : Int32) (σ : Sg) : JS X G 6 300 0 n0 (EM X G n0 5 300 (eS rvI M n)) (fMd_readAt x1 x2 σ) (σ, M, n) 0 [(0, .inr (.inl (some (gM G)))), (1, .inl x1), (2, .inl x2)] [] := by
  unfold fMd_readAt
  refine s_blk C 0 4 [0, 1, 2, 3, 4] (pc' := 5) (lv' := [(0, .inr (.inl (some (gM G)))), (1, .inl x1), (2, .inl x2), (3, .inl 0), (4, .inl 0)]) (st' := []) rfl ?_
  exact wMd_readAt_l5 hG C htab FU _ _ _ _ _
theorem cMd_readAt {l : Launch} {G : GE} (htr : l.stackTraces = false) (hG : gH G = true) (σ : Sg) (M : Mm) (n : Nat) (x1 : Int32) (x2 : Int32) : ∀ o, fMd_readAt x1 x2 σ = some o → MetX l G yX12_readAt cX12_readAt 6 (some .int) 5 300 [.inr (.inl (some (gM G))), .inl x1, .inl x2] (σ, M, n) ((eS rvI M n) o) :=
  c_ofX (by decide) kMd_readAt htr rfl rfl fun X _ _ C htab => wMd_readAt hG C htab x1 x2 _
def pMd_byteOf_0 : List BR := [(0, .iload_n 3, 1, 0, 1), (1, .istore 4, 2, 0, 3), (3, .iconst 0, 1, 0, 4), (4, .istore 5, 2, 0, 6), (6, .iload 4, 2, 0, 8), (8, .aload_n 0, 1, 0, 9), (9, .getfield 53, 3, 0, 12), (12, .bipush 90, 2, 90, 14), (14, .iload_n 1, 1, 0, 15), (15, .imul, 1, 0, 16), (16, .aload_n 0, 1, 0, 17), (17, .getfield 92, 3, 0, 20), (20, .bipush 20, 2, 20, 22), (22, .iload_n 2, 1, 0, 23), (23, .imul, 1, 0, 24), (24, .iload 5, 2, 0, 26), (26, .iadd, 1, 0, 27), (27, .iaload, 1, 0, 28), (28, .iadd, 1, 0, 29), (29, .iaload, 1, 0, 30), (30, .if_icmp .lt (36), 3, 0, 66), (33, .iload 4, 2, 0, 35), (35, .aload_n 0, 1, 0, 36), (36, .getfield 53, 3, 0, 39), (39, .bipush 90, 2, 90, 41), (41, .iload_n 1, 1, 0, 42), (42, .imul, 1, 0, 43), (43, .aload_n 0, 1, 0, 44), (44, .getfield 92, 3, 0, 47), (47, .bipush 20, 2, 20, 49), (49, .iload_n 2, 1, 0, 50), (50, .imul, 1, 0, 51), (51, .iload 5, 2, 0, 53), (53, .iadd, 1, 0, 54), (54, .iaload, 1, 0, 55), (55, .iadd, 1, 0, 56), (56, .iaload, 1, 0, 57), (57, .isub, 1, 0, 58), (58, .istore 4, 2, 0, 60), (60, .iinc 5 (1), 3, 1, 63)]
theorem kMd_byteOf_0 : bOK cX12_byteOf 7 pMd_byteOf_0 = true := by decide +kernel
def pMd_byteOf_1 : List BR := [(63, .goto (-57), 3, 0, 6), (66, .bipush 90, 2, 90, 68), (68, .iload_n 1, 1, 0, 69), (69, .imul, 1, 0, 70), (70, .aload_n 0, 1, 0, 71), (71, .getfield 92, 3, 0, 74), (74, .bipush 20, 2, 20, 76), (76, .iload_n 2, 1, 0, 77), (77, .imul, 1, 0, 78), (78, .iload 5, 2, 0, 80), (80, .iadd, 1, 0, 81), (81, .iaload, 1, 0, 82), (82, .iadd, 1, 0, 83), (83, .istore 6, 2, 0, 85), (85, .aload_n 0, 1, 0, 86), (86, .iload 6, 2, 0, 88), (88, .invokevirtual 213, 3, 0, 91), (91, .iconst 3, 1, 3, 92), (92, .if_icmp .ge (8), 3, 0, 100), (95, .bipush (-4), 2, -4, 97), (97, .goto (11), 3, 0, 108), (100, .aload_n 0, 1, 0, 101), (101, .iload 6, 2, 0, 103), (103, .iload 4, 2, 0, 105), (105, .invokevirtual 274, 3, 0, 108), (108, .ireturn, 1, 0, 109)]
theorem kMd_byteOf_1 : bOK cX12_byteOf 7 pMd_byteOf_1 = true := by decide +kernel
def pMd_byteOf : List BR := (pMd_byteOf_0 ++ pMd_byteOf_1)
theorem kMd_byteOf : bOK cX12_byteOf 7 pMd_byteOf = true := (bOK_app kMd_byteOf_0 kMd_byteOf_1)
def fMd_byteOf_b6 (k6 : Int32 → Int32 → Int32 → Int32 → Sg → Option (Int32 × Sg)) (x1 : Int32) (x2 : Int32) (x4 : Int32) (x5 : Int32) (σ : Sg) : Option (Int32 × Sg) :=
  mgA 34 ((20 * x2) + x5) σ fun v1 =>
  mgA 21 ((90 * x1) + v1) σ fun v2 =>
  if x4 < v2 then
    mgA 34 ((20 * x2) + x5) σ fun v3 =>
    bdR (fMd_goodMany ((90 * x1) + v3) σ) fun v4 =>
    if 3 ≤ v4 then
      bdW (fMd_readAt ((90 * x1) + v3) x4 σ) fun v5 σ6 =>
      some (v5, σ6)
    else
      some ((-4), σ)
  else
    mgA 34 ((20 * x2) + x5) σ fun v7 =>
    mgA 21 ((90 * x1) + v7) σ fun v8 =>
    k6 x1 x2 (x4 - v8) (x5 + 1) σ
theorem wMd_byteOf_b6 {X : MC} {G : GE} {n0 : Nat} (hG : gH G = true) (C : CX X G RX12 cX12_byteOf pMd_byteOf 7 (some .int) n0) (htab : ∀ z ∈ X.2.2.2.2.2.2.2.2.exceptionTable.toList, False) {M : Mm} {n : Nat} (k6 : Int32 → Int32 → Int32 → Int32 → Sg → Option (Int32 × Sg)) (H6 : ∀ (x1 : Int32) (x2 : Int32) (x4 : Int32) (x5 : Int32) (σ : Sg), JS X G 7 300 0 n0 (EM X G n0 6 300 (eS rvI M n)) (k6 x1 x2 x4 x5 σ) (σ, M, n) 6 [(0, .inr (.inl (some (gM G)))), (1, .inl x1), (2, .inl x2), (4, .inl x4), (5, .inl x5)] []) (x1 : Int32) (x2 : Int32) (x4 : Int32) (x5 : Int32) (σ : Sg) : JS X G 7 300 0 n0 (EM X G n0 6 300 (eS rvI M n)) (fMd_byteOf_b6 k6 x1 x2 x4 x5 σ) (σ, M, n) 6 [(0, .inr (.inl (some (gM G)))), (1, .inl x1), (2, .inl x2), (4, .inl x4), (5, .inl x5)] [] := by
  unfold fMd_byteOf_b6
  refine s_blk C 4 2 [0, 1, 2, 4, 5] (pc' := 9) (lv' := [(0, .inr (.inl (some (gM G)))), (1, .inl x1), (2, .inl x2), (4, .inl x4), (5, .inl x5)]) (st' := [.inr (.inl (some (gM G))), .inl x4]) rfl ?_
  refine s_mR hG C 6 rfl 21 fl_X12_53 rfl ?_
  refine s_blk C 7 4 [0, 1, 2, 4, 5] (pc' := 17) (lv' := [(0, .inr (.inl (some (gM G)))), (1, .inl x1), (2, .inl x2), (4, .inl x4), (5, .inl x5)]) (st' := [.inr (.inl (some (gM G))), .inl (90 * x1), .inr (.inl (some (gA G 21))), .inl x4]) rfl ?_
  refine s_mR hG C 11 rfl 34 fl_X12_92 rfl ?_
  refine s_blk C 12 5 [0, 1, 2, 4, 5] (pc' := 27) (lv' := [(0, .inr (.inl (some (gM G)))), (1, .inl x1), (2, .inl x2), (4, .inl x4), (5, .inl x5)]) (st' := [.inl ((20 * x2) + x5), .inr (.inl (some (gA G 34))), .inl (90 * x1), .inr (.inl (some (gA G 21))), .inl x4]) rfl ?_
  refine s_mldI hG C 17 rfl rfl rfl (fun v1 => ?_)
  refine s_blk C 18 1 [0, 1, 2, 4, 5] (pc' := 29) (lv' := [(0, .inr (.inl (some (gM G)))), (1, .inl x1), (2, .inl x2), (4, .inl x4), (5, .inl x5)]) (st' := [.inl ((90 * x1) + v1), .inr (.inl (some (gA G 21))), .inl x4]) rfl ?_
  refine s_mldI hG C 19 rfl rfl rfl (fun v2 => ?_)
  refine s_iclt C 20 rfl (fun _ => ?_) (fun _ => ?_)
  · refine s_blk C 41 4 [0, 2, 4, 5] (pc' := 71) (lv' := [(0, .inr (.inl (some (gM G)))), (2, .inl x2), (4, .inl x4), (5, .inl x5)]) (st' := [.inr (.inl (some (gM G))), .inl (90 * x1)]) rfl ?_
    refine s_mR hG C 45 rfl 34 fl_X12_92 rfl ?_
    refine s_blk C 46 5 [0, 4] (pc' := 81) (lv' := [(0, .inr (.inl (some (gM G)))), (4, .inl x4)]) (st' := [.inl ((20 * x2) + x5), .inr (.inl (some (gA G 34))), .inl (90 * x1)]) rfl ?_
    refine s_mldI hG C 51 rfl rfl rfl (fun v3 => ?_)
    refine s_blk C 52 4 [0, 4, 6] (pc' := 88) (lv' := [(0, .inr (.inl (some (gM G)))), (4, .inl x4), (6, .inl ((90 * x1) + v3))]) (st' := [.inl ((90 * x1) + v3), .inr (.inl (some (gM G)))]) rfl ?_
    refine s_RI (CE_EM _ _ _ _ _ _) (st := []) (fun o ho => j_callV (As := [.inl ((90 * x1) + v3)]) (st := []) (b := gM G) C 56 rfl mf_Md_goodMany ml_X12_213 rfl (recv_M hG C) (by decide) (by decide) (Nat.le_refl _) rfl (cMd_goodMany (CX_tr C) hG σ M n ((90 * x1) + v3) o ho)) (fun v4 => ?_)
    refine s_blk C 57 1 [0, 4, 6] (pc' := 92) (lv' := [(0, .inr (.inl (some (gM G)))), (4, .inl x4), (6, .inl ((90 * x1) + v3))]) (st' := [.inl 3, .inl v4]) rfl ?_
    refine s_icge C 58 rfl (fun _ => ?_) (fun _ => ?_)
    · refine s_blk C 61 3 [] (pc' := 105) (lv' := []) (st' := [.inl x4, .inl ((90 * x1) + v3), .inr (.inl (some (gM G)))]) rfl ?_
      refine s_SI (CE_EM _ _ _ _ _ _) (st := []) (fun o ho => j_callV (As := [.inl ((90 * x1) + v3), .inl x4]) (st := []) (b := gM G) C 64 rfl mf_Md_readAt ml_X12_274 rfl (recv_M hG C) (by decide) (by decide) (Nat.le_refl _) rfl (cMd_readAt (CX_tr C) hG σ M n ((90 * x1) + v3) x4 o ho)) (fun v5 σ6 => ?_)
      exact s_iret C 65 rfl rfl
    refine s_blk C 59 2 [] (pc' := 108) (lv' := []) (st' := [.inl (-4)]) rfl ?_
    exact s_iret C 65 rfl rfl
  refine s_blk C 21 2 [0, 1, 2, 5] (pc' := 36) (lv' := [(0, .inr (.inl (some (gM G)))), (1, .inl x1), (2, .inl x2), (5, .inl x5)]) (st' := [.inr (.inl (some (gM G))), .inl x4]) rfl ?_
  refine s_mR hG C 23 rfl 21 fl_X12_53 rfl ?_
  refine s_blk C 24 4 [0, 1, 2, 5] (pc' := 44) (lv' := [(0, .inr (.inl (some (gM G)))), (1, .inl x1), (2, .inl x2), (5, .inl x5)]) (st' := [.inr (.inl (some (gM G))), .inl (90 * x1), .inr (.inl (some (gA G 21))), .inl x4]) rfl ?_
  refine s_mR hG C 28 rfl 34 fl_X12_92 rfl ?_
  refine s_blk C 29 5 [0, 1, 2, 5] (pc' := 54) (lv' := [(0, .inr (.inl (some (gM G)))), (1, .inl x1), (2, .inl x2), (5, .inl x5)]) (st' := [.inl ((20 * x2) + x5), .inr (.inl (some (gA G 34))), .inl (90 * x1), .inr (.inl (some (gA G 21))), .inl x4]) rfl ?_
  refine s_mldI hG C 34 rfl rfl rfl (fun v7 => ?_)
  refine s_blk C 35 1 [0, 1, 2, 5] (pc' := 56) (lv' := [(0, .inr (.inl (some (gM G)))), (1, .inl x1), (2, .inl x2), (5, .inl x5)]) (st' := [.inl ((90 * x1) + v7), .inr (.inl (some (gA G 21))), .inl x4]) rfl ?_
  refine s_mldI hG C 36 rfl rfl rfl (fun v8 => ?_)
  refine s_blk C 37 4 [0, 1, 2, 4, 5] (pc' := 6) (lv' := [(0, .inr (.inl (some (gM G)))), (1, .inl x1), (2, .inl x2), (4, .inl (x4 - v8)), (5, .inl (x5 + 1))]) (st' := []) rfl ?_
  exact H6 _ _ _ _ _
def fMd_byteOf_l6 (fu : Nat) : Int32 → Int32 → Int32 → Int32 → Sg → Option (Int32 × Sg) := Nat.rec (fun x1 x2 x4 x5 σ => none) (fun _ k => fMd_byteOf_b6 k) fu
theorem wMd_byteOf_l6 {X : MC} {G : GE} {n0 : Nat} (hG : gH G = true) (C : CX X G RX12 cX12_byteOf pMd_byteOf 7 (some .int) n0) (htab : ∀ z ∈ X.2.2.2.2.2.2.2.2.exceptionTable.toList, False) {M : Mm} {n : Nat} : ∀ (fu : Nat) (x1 : Int32) (x2 : Int32) (x4 : Int32) (x5 : Int32) (σ : Sg), JS X G 7 300 0 n0 (EM X G n0 6 300 (eS rvI M n)) (fMd_byteOf_l6 fu x1 x2 x4 x5 σ) (σ, M, n) 6 [(0, .inr (.inl (some (gM G)))), (1, .inl x1), (2, .inl x2), (4, .inl x4), (5, .inl x5)] [] := by
  intro fu
  induction fu with
  | zero => intro x1 x2 x4 x5 σ; exact s_none
  | succ fu ih => intro x1 x2 x4 x5 σ; exact wMd_byteOf_b6 hG C htab (fMd_byteOf_l6 fu) ih _ _ _ _ _
def fMd_byteOf (x1 : Int32) (x2 : Int32) (x3 : Int32) (σ : Sg) : Option (Int32 × Sg) :=
  fMd_byteOf_l6 FU x1 x2 x3 0 σ
theorem wMd_byteOf {X : MC} {G : GE} {n0 : Nat} (hG : gH G = true) (C : CX X G RX12 cX12_byteOf pMd_byteOf 7 (some .int) n0) (htab : ∀ z ∈ X.2.2.2.2.2.2.2.2.exceptionTable.toList, False) {M : Mm} {n : Nat} (x1 : Int32) (x2 : Int32) (x3 : Int32) (σ : Sg) : JS X G 7 300 0 n0 (EM X G n0 6 300 (eS rvI M n)) (fMd_byteOf x1 x2 x3 σ) (σ, M, n) 0 [(0, .inr (.inl (some (gM G)))), (1, .inl x1), (2, .inl x2), (3, .inl x3)] [] := by
  unfold fMd_byteOf
  refine s_blk C 0 4 [0, 1, 2, 4, 5] (pc' := 6) (lv' := [(0, .inr (.inl (some (gM G)))), (1, .inl x1), (2, .inl x2), (4, .inl x3), (5, .inl 0)]) (st' := []) rfl ?_
  exact wMd_byteOf_l6 hG C htab FU _ _ _ _ _
theorem cMd_byteOf {l : Launch} {G : GE} (htr : l.stackTraces = false) (hG : gH G = true) (σ : Sg) (M : Mm) (n : Nat) (x1 : Int32) (x2 : Int32) (x3 : Int32) : ∀ o, fMd_byteOf x1 x2 x3 σ = some o → MetX l G yX12_byteOf cX12_byteOf 7 (some .int) 6 300 [.inr (.inl (some (gM G))), .inl x1, .inl x2, .inl x3] (σ, M, n) ((eS rvI M n) o) :=
  c_ofX (by decide) kMd_byteOf htr rfl rfl fun X _ _ C htab => wMd_byteOf hG C htab x1 x2 x3 _

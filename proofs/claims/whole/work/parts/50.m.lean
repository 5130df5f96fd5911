def pMd_cost : List BR := [(0, .aload_n 0, 1, 0, 1), (1, .iload_n 1, 1, 0, 2), (2, .iconst 0, 1, 0, 3), (3, .iconst 2, 1, 2, 4), (4, .invokestatic 132, 3, 0, 7), (7, .ifCond .eq (7), 3, 0, 14), (10, .iconst 0, 1, 0, 11), (11, .goto (4), 3, 0, 15), (14, .iconst 1, 1, 1, 15), (15, .invokevirtual 150, 3, 0, 18), (18, .ifCond .eq (12), 3, 0, 30), (21, .aload_n 0, 1, 0, 22), (22, .getfield 28, 3, 0, 25), (25, .iload_n 1, 1, 0, 26), (26, .iaload, 1, 0, 27), (27, .goto (4), 3, 0, 31), (30, .iconst 0, 1, 0, 31), (31, .ireturn, 1, 0, 32)]
theorem kMd_cost : bOK cX12_cost 2 pMd_cost = true := by decide +kernel
def fMd_cost_j15 (x1 : Int32) (s0 : Int32) (σ : Sg) : Option (Int32 × Sg) :=
  bdW (fMd_holds s0 σ) fun v1 σ2 =>
  if v1 = 0 then
    some (0, σ2)
  else
    mgA 12 x1 σ2 fun v3 =>
    some (v3, σ2)
theorem wMd_cost_j15 {X : MC} {G : GE} {n0 : Nat} (hG : gH G = true) (C : CX X G RX12 cX12_cost pMd_cost 2 (some .int) n0) (htab : ∀ z ∈ X.2.2.2.2.2.2.2.2.exceptionTable.toList, False) {M : Mm} {n : Nat} (x1 : Int32) (s0 : Int32) (σ : Sg) : JS X G 2 300 0 n0 (EM X G n0 3 300 (eS rvI M n)) (fMd_cost_j15 x1 s0 σ) (σ, M, n) 15 [(0, .inr (.inl (some (gM G)))), (1, .inl x1)] [.inl s0, .inr (.inl (some (gM G)))] := by
  unfold fMd_cost_j15
  refine s_SI (CE_EM _ _ _ _ _ _) (st := []) (fun o ho => j_callV (As := [.inl s0]) (st := []) (b := gM G) C 9 rfl mf_Md_holds ml_X12_150 rfl (recv_M hG C) (by decide) (by decide) (Nat.le_refl _) rfl (cMd_holds (CX_tr C) hG σ M n s0 o ho)) (fun v1 σ2 => ?_)
  refine s_ieq C 10 rfl (fun _ => ?_) (fun _ => ?_)
  · refine s_blk C 16 1 [] (pc' := 31) (lv' := []) (st' := [.inl 0]) rfl ?_
    exact s_iret C 17 rfl rfl
  refine s_blk C 11 1 [1] (pc' := 22) (lv' := [(1, .inl x1)]) (st' := [.inr (.inl (some (gM G)))]) rfl ?_
  refine s_mR hG C 12 rfl 12 fl_X12_28 rfl ?_
  refine s_blk C 13 1 [] (pc' := 26) (lv' := []) (st' := [.inl x1, .inr (.inl (some (gA G 12)))]) rfl ?_
  refine s_mldI hG C 14 rfl rfl rfl (fun v3 => ?_)
  refine s_blk C 15 1 [] (pc' := 31) (lv' := []) (st' := [.inl v3]) rfl ?_
  exact s_iret C 17 rfl rfl
def fMd_cost (x1 : Int32) (σ : Sg) : Option (Int32 × Sg) :=
  bdR (fMd_isIn x1 0 2) fun v1 =>
  if v1 = 0 then
    fMd_cost_j15 x1 1 σ
  else
    fMd_cost_j15 x1 0 σ
theorem wMd_cost {X : MC} {G : GE} {n0 : Nat} (hG : gH G = true) (C : CX X G RX12 cX12_cost pMd_cost 2 (some .int) n0) (htab : ∀ z ∈ X.2.2.2.2.2.2.2.2.exceptionTable.toList, False) {M : Mm} {n : Nat} (x1 : Int32) (σ : Sg) : JS X G 2 300 0 n0 (EM X G n0 3 300 (eS rvI M n)) (fMd_cost x1 σ) (σ, M, n) 0 [(0, .inr (.inl (some (gM G)))), (1, .inl x1)] [] := by
  unfold fMd_cost
  refine s_blk C 0 4 [0, 1] (pc' := 4) (lv' := [(0, .inr (.inl (some (gM G)))), (1, .inl x1)]) (st' := [.inl 2, .inl 0, .inl x1, .inr (.inl (some (gM G)))]) rfl ?_
  refine s_RI (CE_EM _ _ _ _ _ _) (st := [.inr (.inl (some (gM G)))]) (fun o ho => j_callS (As := [.inl x1, .inl 0, .inl 2]) (st := [.inr (.inl (some (gM G)))]) C 4 rfl mf_Md_isIn ml_X12_132 rfl (by decide) (by decide) (Nat.le_refl _) rfl (cMd_isIn (CX_tr C) hG σ M n x1 0 2 o ho)) (fun v1 => ?_)
  refine s_ieq C 5 rfl (fun _ => ?_) (fun _ => ?_)
  · refine s_blk C 8 1 [0, 1] (pc' := 15) (lv' := [(0, .inr (.inl (some (gM G)))), (1, .inl x1)]) (st' := [.inl 1, .inr (.inl (some (gM G)))]) rfl ?_
    exact wMd_cost_j15 hG C htab _ _ _
  refine s_blk C 6 2 [0, 1] (pc' := 15) (lv' := [(0, .inr (.inl (some (gM G)))), (1, .inl x1)]) (st' := [.inl 0, .inr (.inl (some (gM G)))]) rfl ?_
  exact wMd_cost_j15 hG C htab _ _ _
theorem cMd_cost {l : Launch} {G : GE} (htr : l.stackTraces = false) (hG : gH G = true) (σ : Sg) (M : Mm) (n : Nat) (x1 : Int32) : ∀ o, fMd_cost x1 σ = some o → MetX l G yX12_cost cX12_cost 2 (some .int) 3 300 [.inr (.inl (some (gM G))), .inl x1] (σ, M, n) ((eS rvI M n) o) :=
  c_ofX (by decide) kMd_cost htr rfl rfl fun X _ _ C htab => wMd_cost hG C htab x1 _
def pMd_numbers_0 : List BR := [(0, .aload_n 0, 1, 0, 1), (1, .dup, 1, 0, 2), (2, .getfield 234, 3, 0, 5), (5, .iconst 1, 1, 1, 6), (6, .iadd, 1, 0, 7), (7, .putfield 234, 3, 0, 10), (10, .aload_n 0, 1, 0, 11), (11, .getfield 22, 3, 0, 14), (14, .aload_n 0, 1, 0, 15), (15, .getfield 234, 3, 0, 18), (18, .iload_n 3, 1, 0, 19), (19, .iastore, 1, 0, 20), (20, .aload_n 0, 1, 0, 21), (21, .getfield 104, 3, 0, 24), (24, .aload_n 0, 1, 0, 25), (25, .getfield 234, 3, 0, 28), (28, .iload_n 2, 1, 0, 29), (29, .iastore, 1, 0, 30), (30, .aload_n 0, 1, 0, 31), (31, .getfield 107, 3, 0, 34), (34, .aload_n 0, 1, 0, 35), (35, .getfield 234, 3, 0, 38), (38, .aload_n 0, 1, 0, 39), (39, .getfield 222, 3, 0, 42), (42, .iastore, 1, 0, 43), (43, .iconst 0, 1, 0, 44), (44, .istore 4, 2, 0, 46), (46, .iload 4, 2, 0, 48), (48, .iload_n 3, 1, 0, 49), (49, .if_icmp .ge (31), 3, 0, 80), (52, .aload_n 0, 1, 0, 53), (53, .getfield 25, 3, 0, 56), (56, .bipush 40, 2, 40, 58), (58, .aload_n 0, 1, 0, 59), (59, .getfield 234, 3, 0, 62), (62, .imul, 1, 0, 63), (63, .iload 4, 2, 0, 65), (65, .iadd, 1, 0, 66), (66, .aload_n 0, 1, 0, 67), (67, .getfield 13, 3, 0, 70)]
theorem kMd_numbers_0 : bOK cX12_numbers 5 pMd_numbers_0 = true := by decide +kernel
def pMd_numbers_1 : List BR := [(70, .iload 4, 2, 0, 72), (72, .iaload, 1, 0, 73), (73, .iastore, 1, 0, 74), (74, .iinc 4 (1), 3, 1, 77), (77, .goto (-31), 3, 0, 46), (80, .aload_n 0, 1, 0, 81), (81, .getfield 101, 3, 0, 84), (84, .sipush 200, 3, 200, 87), (87, .iload_n 1, 1, 0, 88), (88, .imul, 1, 0, 89), (89, .aload_n 0, 1, 0, 90), (90, .getfield 98, 3, 0, 93), (93, .iload_n 1, 1, 0, 94), (94, .iaload, 1, 0, 95), (95, .iadd, 1, 0, 96), (96, .aload_n 0, 1, 0, 97), (97, .getfield 234, 3, 0, 100), (100, .iastore, 1, 0, 101), (101, .aload_n 0, 1, 0, 102), (102, .getfield 98, 3, 0, 105), (105, .iload_n 1, 1, 0, 106), (106, .dup2, 1, 0, 107), (107, .iaload, 1, 0, 108), (108, .iconst 1, 1, 1, 109), (109, .iadd, 1, 0, 110), (110, .iastore, 1, 0, 111), (111, .aload_n 0, 1, 0, 112), (112, .getfield 234, 3, 0, 115), (115, .ireturn, 1, 0, 116)]
theorem kMd_numbers_1 : bOK cX12_numbers 5 pMd_numbers_1 = true := by decide +kernel
def pMd_numbers : List BR := (pMd_numbers_0 ++ pMd_numbers_1)
theorem kMd_numbers : bOK cX12_numbers 5 pMd_numbers = true := (bOK_app kMd_numbers_0 kMd_numbers_1)
def fMd_numbers_b46 (k46 : Int32 → Int32 → Int32 → Sg → Option (Int32 × Sg)) (x1 : Int32) (x3 : Int32) (x4 : Int32) (σ : Sg) : Option (Int32 × Sg) :=
  if x3 ≤ x4 then
    mgA 36 x1 σ fun v1 =>
    mgF 8 σ fun v2 =>
    mpA 37 ((200 * x1) + v1) v2 σ fun σ3 =>
    mgA 36 x1 σ3 fun v4 =>
    mpA 36 x1 (v4 + 1) σ3 fun σ5 =>
    mgF 8 σ5 fun v6 =>
    some (v6, σ5)
  else
    mgF 8 σ fun v7 =>
    mgA 4 x4 σ fun v8 =>
    mpA 10 ((40 * v7) + x4) v8 σ fun σ9 =>
    k46 x1 x3 (x4 + 1) σ9
theorem wMd_numbers_b46 {X : MC} {G : GE} {n0 : Nat} (hG : gH G = true) (C : CX X G RX12 cX12_numbers pMd_numbers 5 (some .int) n0) (htab : ∀ z ∈ X.2.2.2.2.2.2.2.2.exceptionTable.toList, False) {M : Mm} {n : Nat} (k46 : Int32 → Int32 → Int32 → Sg → Option (Int32 × Sg)) (H46 : ∀ (x1 : Int32) (x3 : Int32) (x4 : Int32) (σ : Sg), JS X G 5 300 0 n0 (EM X G n0 2 300 (eS rvI M n)) (k46 x1 x3 x4 σ) (σ, M, n) 46 [(0, .inr (.inl (some (gM G)))), (1, .inl x1), (3, .inl x3), (4, .inl x4)] []) (x1 : Int32) (x3 : Int32) (x4 : Int32) (σ : Sg) : JS X G 5 300 0 n0 (EM X G n0 2 300 (eS rvI M n)) (fMd_numbers_b46 k46 x1 x3 x4 σ) (σ, M, n) 46 [(0, .inr (.inl (some (gM G)))), (1, .inl x1), (3, .inl x3), (4, .inl x4)] [] := by
  unfold fMd_numbers_b46
  refine s_blk C 27 2 [0, 1, 3, 4] (pc' := 49) (lv' := [(0, .inr (.inl (some (gM G)))), (1, .inl x1), (3, .inl x3), (4, .inl x4)]) (st' := [.inl x3, .inl x4]) rfl ?_
  refine s_icge C 29 rfl (fun _ => ?_) (fun _ => ?_)
  · refine s_blk C 45 1 [0, 1] (pc' := 81) (lv' := [(0, .inr (.inl (some (gM G)))), (1, .inl x1)]) (st' := [.inr (.inl (some (gM G)))]) rfl ?_
    refine s_mR hG C 46 rfl 37 fl_X12_101 rfl ?_
    refine s_blk C 47 4 [0, 1] (pc' := 90) (lv' := [(0, .inr (.inl (some (gM G)))), (1, .inl x1)]) (st' := [.inr (.inl (some (gM G))), .inl (200 * x1), .inr (.inl (some (gA G 37)))]) rfl ?_
    refine s_mR hG C 51 rfl 36 fl_X12_98 rfl ?_
    refine s_blk C 52 1 [0, 1] (pc' := 94) (lv' := [(0, .inr (.inl (some (gM G)))), (1, .inl x1)]) (st' := [.inl x1, .inr (.inl (some (gA G 36))), .inl (200 * x1), .inr (.inl (some (gA G 37)))]) rfl ?_
    refine s_mldI hG C 53 rfl rfl rfl (fun v1 => ?_)
    refine s_blk C 54 2 [0, 1] (pc' := 97) (lv' := [(0, .inr (.inl (some (gM G)))), (1, .inl x1)]) (st' := [.inr (.inl (some (gM G))), .inl ((200 * x1) + v1), .inr (.inl (some (gA G 37)))]) rfl ?_
    refine s_mF hG C 56 rfl fl_X12_234 rfl (fun v2 => ?_)
    refine s_mstI hG C 57 rfl rfl rfl (fun σ3 _ => ?_)
    refine s_blk C 58 1 [0, 1] (pc' := 102) (lv' := [(0, .inr (.inl (some (gM G)))), (1, .inl x1)]) (st' := [.inr (.inl (some (gM G)))]) rfl ?_
    refine s_mR hG C 59 rfl 36 fl_X12_98 rfl ?_
    refine s_blk C 60 2 [0] (pc' := 107) (lv' := [(0, .inr (.inl (some (gM G))))]) (st' := [.inl x1, .inr (.inl (some (gA G 36))), .inl x1, .inr (.inl (some (gA G 36)))]) rfl ?_
    refine s_mldI hG C 62 rfl rfl rfl (fun v4 => ?_)
    refine s_blk C 63 2 [0] (pc' := 110) (lv' := [(0, .inr (.inl (some (gM G))))]) (st' := [.inl (v4 + 1), .inl x1, .inr (.inl (some (gA G 36)))]) rfl ?_
    refine s_mstI hG C 65 rfl rfl rfl (fun σ5 _ => ?_)
    refine s_blk C 66 1 [] (pc' := 112) (lv' := []) (st' := [.inr (.inl (some (gM G)))]) rfl ?_
    refine s_mF hG C 67 rfl fl_X12_234 rfl (fun v6 => ?_)
    exact s_iret C 68 rfl rfl
  refine s_blk C 30 1 [0, 1, 3, 4] (pc' := 53) (lv' := [(0, .inr (.inl (some (gM G)))), (1, .inl x1), (3, .inl x3), (4, .inl x4)]) (st' := [.inr (.inl (some (gM G)))]) rfl ?_
  refine s_mR hG C 31 rfl 10 fl_X12_25 rfl ?_
  refine s_blk C 32 2 [0, 1, 3, 4] (pc' := 59) (lv' := [(0, .inr (.inl (some (gM G)))), (1, .inl x1), (3, .inl x3), (4, .inl x4)]) (st' := [.inr (.inl (some (gM G))), .inl 40, .inr (.inl (some (gA G 10)))]) rfl ?_
  refine s_mF hG C 34 rfl fl_X12_234 rfl (fun v7 => ?_)
  refine s_blk C 35 4 [0, 1, 3, 4] (pc' := 67) (lv' := [(0, .inr (.inl (some (gM G)))), (1, .inl x1), (3, .inl x3), (4, .inl x4)]) (st' := [.inr (.inl (some (gM G))), .inl ((40 * v7) + x4), .inr (.inl (some (gA G 10)))]) rfl ?_
  refine s_mR hG C 39 rfl 4 fl_X12_13 rfl ?_
  refine s_blk C 40 1 [0, 1, 3, 4] (pc' := 72) (lv' := [(0, .inr (.inl (some (gM G)))), (1, .inl x1), (3, .inl x3), (4, .inl x4)]) (st' := [.inl x4, .inr (.inl (some (gA G 4))), .inl ((40 * v7) + x4), .inr (.inl (some (gA G 10)))]) rfl ?_
  refine s_mldI hG C 41 rfl rfl rfl (fun v8 => ?_)
  refine s_mstI hG C 42 rfl rfl rfl (fun σ9 _ => ?_)
  refine s_blk C 43 2 [0, 1, 3, 4] (pc' := 46) (lv' := [(0, .inr (.inl (some (gM G)))), (1, .inl x1), (3, .inl x3), (4, .inl (x4 + 1))]) (st' := []) rfl ?_
  exact H46 _ _ _ _
def fMd_numbers_l46 (fu : Nat) : Int32 → Int32 → Int32 → Sg → Option (Int32 × Sg) := Nat.rec (fun x1 x3 x4 σ => none) (fun _ k => fMd_numbers_b46 k) fu
theorem wMd_numbers_l46 {X : MC} {G : GE} {n0 : Nat} (hG : gH G = true) (C : CX X G RX12 cX12_numbers pMd_numbers 5 (some .int) n0) (htab : ∀ z ∈ X.2.2.2.2.2.2.2.2.exceptionTable.toList, False) {M : Mm} {n : Nat} : ∀ (fu : Nat) (x1 : Int32) (x3 : Int32) (x4 : Int32) (σ : Sg), JS X G 5 300 0 n0 (EM X G n0 2 300 (eS rvI M n)) (fMd_numbers_l46 fu x1 x3 x4 σ) (σ, M, n) 46 [(0, .inr (.inl (some (gM G)))), (1, .inl x1), (3, .inl x3), (4, .inl x4)] [] := by
  intro fu
  induction fu with
  | zero => intro x1 x3 x4 σ; exact s_none
  | succ fu ih => intro x1 x3 x4 σ; exact wMd_numbers_b46 hG C htab (fMd_numbers_l46 fu) ih _ _ _ _
def fMd_numbers (x1 : Int32) (x2 : Int32) (x3 : Int32) (σ : Sg) : Option (Int32 × Sg) :=
  mgF 8 σ fun v1 =>
  mpF 8 (v1 + 1) σ fun σ2 =>
  mgF 8 σ2 fun v3 =>
  mpA 9 v3 x3 σ2 fun σ4 =>
  mgF 8 σ4 fun v5 =>
  mpA 38 v5 x2 σ4 fun σ6 =>
  mgF 8 σ6 fun v7 =>
  mgF 11 σ6 fun v8 =>
  mpA 39 v7 v8 σ6 fun σ9 =>
  fMd_numbers_l46 FU x1 x3 0 σ9
theorem wMd_numbers {X : MC} {G : GE} {n0 : Nat} (hG : gH G = true) (C : CX X G RX12 cX12_numbers pMd_numbers 5 (some .int) n0) (htab : ∀ z ∈ X.2.2.2.2.2.2.2.2.exceptionTable.toList, False) {M : Mm} {n : Nat} (x1 : Int32) (x2 : Int32) (x3 : Int32) (σ : Sg) : JS X G 5 300 0 n0 (EM X G n0 2 300 (eS rvI M n)) (fMd_numbers x1 x2 x3 σ) (σ, M, n) 0 [(0, .inr (.inl (some (gM G)))), (1, .inl x1), (2, .inl x2), (3, .inl x3)] [] := by
  unfold fMd_numbers
  refine s_blk C 0 2 [0, 1, 2, 3] (pc' := 2) (lv' := [(0, .inr (.inl (some (gM G)))), (1, .inl x1), (2, .inl x2), (3, .inl x3)]) (st' := [.inr (.inl (some (gM G))), .inr (.inl (some (gM G)))]) rfl ?_
  refine s_mF hG C 2 rfl fl_X12_234 rfl (fun v1 => ?_)
  refine s_blk C 3 2 [0, 1, 2, 3] (pc' := 7) (lv' := [(0, .inr (.inl (some (gM G)))), (1, .inl x1), (2, .inl x2), (3, .inl x3)]) (st' := [.inl (v1 + 1), .inr (.inl (some (gM G)))]) rfl ?_
  refine s_mpF hG C 5 rfl fl_X12_234 fp_X12_13_8 rfl (fun σ2 _ => ?_)
  refine s_blk C 6 1 [0, 1, 2, 3] (pc' := 11) (lv' := [(0, .inr (.inl (some (gM G)))), (1, .inl x1), (2, .inl x2), (3, .inl x3)]) (st' := [.inr (.inl (some (gM G)))]) rfl ?_
  refine s_mR hG C 7 rfl 9 fl_X12_22 rfl ?_
  refine s_blk C 8 1 [0, 1, 2, 3] (pc' := 15) (lv' := [(0, .inr (.inl (some (gM G)))), (1, .inl x1), (2, .inl x2), (3, .inl x3)]) (st' := [.inr (.inl (some (gM G))), .inr (.inl (some (gA G 9)))]) rfl ?_
  refine s_mF hG C 9 rfl fl_X12_234 rfl (fun v3 => ?_)
  refine s_blk C 10 1 [0, 1, 2, 3] (pc' := 19) (lv' := [(0, .inr (.inl (some (gM G)))), (1, .inl x1), (2, .inl x2), (3, .inl x3)]) (st' := [.inl x3, .inl v3, .inr (.inl (some (gA G 9)))]) rfl ?_
  refine s_mstI hG C 11 rfl rfl rfl (fun σ4 _ => ?_)
  refine s_blk C 12 1 [0, 1, 2, 3] (pc' := 21) (lv' := [(0, .inr (.inl (some (gM G)))), (1, .inl x1), (2, .inl x2), (3, .inl x3)]) (st' := [.inr (.inl (some (gM G)))]) rfl ?_
  refine s_mR hG C 13 rfl 38 fl_X12_104 rfl ?_
  refine s_blk C 14 1 [0, 1, 2, 3] (pc' := 25) (lv' := [(0, .inr (.inl (some (gM G)))), (1, .inl x1), (2, .inl x2), (3, .inl x3)]) (st' := [.inr (.inl (some (gM G))), .inr (.inl (some (gA G 38)))]) rfl ?_
  refine s_mF hG C 15 rfl fl_X12_234 rfl (fun v5 => ?_)
  refine s_blk C 16 1 [0, 1, 3] (pc' := 29) (lv' := [(0, .inr (.inl (some (gM G)))), (1, .inl x1), (3, .inl x3)]) (st' := [.inl x2, .inl v5, .inr (.inl (some (gA G 38)))]) rfl ?_
  refine s_mstI hG C 17 rfl rfl rfl (fun σ6 _ => ?_)
  refine s_blk C 18 1 [0, 1, 3] (pc' := 31) (lv' := [(0, .inr (.inl (some (gM G)))), (1, .inl x1), (3, .inl x3)]) (st' := [.inr (.inl (some (gM G)))]) rfl ?_
  refine s_mR hG C 19 rfl 39 fl_X12_107 rfl ?_
  refine s_blk C 20 1 [0, 1, 3] (pc' := 35) (lv' := [(0, .inr (.inl (some (gM G)))), (1, .inl x1), (3, .inl x3)]) (st' := [.inr (.inl (some (gM G))), .inr (.inl (some (gA G 39)))]) rfl ?_
  refine s_mF hG C 21 rfl fl_X12_234 rfl (fun v7 => ?_)
  refine s_blk C 22 1 [0, 1, 3] (pc' := 39) (lv' := [(0, .inr (.inl (some (gM G)))), (1, .inl x1), (3, .inl x3)]) (st' := [.inr (.inl (some (gM G))), .inl v7, .inr (.inl (some (gA G 39)))]) rfl ?_
  refine s_mF hG C 23 rfl fl_X12_222 rfl (fun v8 => ?_)
  refine s_mstI hG C 24 rfl rfl rfl (fun σ9 _ => ?_)
  refine s_blk C 25 2 [0, 1, 3, 4] (pc' := 46) (lv' := [(0, .inr (.inl (some (gM G)))), (1, .inl x1), (3, .inl x3), (4, .inl 0)]) (st' := []) rfl ?_
  exact wMd_numbers_l46 hG C htab FU _ _ _ _
theorem cMd_numbers {l : Launch} {G : GE} (htr : l.stackTraces = false) (hG : gH G = true) (σ : Sg) (M : Mm) (n : Nat) (x1 : Int32) (x2 : Int32) (x3 : Int32) : ∀ o, fMd_numbers x1 x2 x3 σ = some o → MetX l G yX12_numbers cX12_numbers 5 (some .int) 2 300 [.inr (.inl (some (gM G))), .inl x1, .inl x2, .inl x3] (σ, M, n) ((eS rvI M n) o) :=
  c_ofX (by decide) kMd_numbers htr rfl rfl fun X _ _ C htab => wMd_numbers hG C htab x1 x2 x3 _
def pMd_found_0 : List BR := [(0, .iconst 0, 1, 0, 1), (1, .istore_n 3, 1, 0, 2), (2, .iload_n 3, 1, 0, 3), (3, .aload_n 0, 1, 0, 4), (4, .getfield 44, 3, 0, 7), (7, .iload_n 1, 1, 0, 8), (8, .iaload, 1, 0, 9), (9, .if_icmp .ge (119), 3, 0, 128), (12, .bipush 90, 2, 90, 14), (14, .iload_n 1, 1, 0, 15), (15, .imul, 1, 0, 16), (16, .iload_n 3, 1, 0, 17), (17, .iadd, 1, 0, 18), (18, .istore 4, 2, 0, 20), (20, .aload_n 0, 1, 0, 21), (21, .getfield 47, 3, 0, 24), (24, .iload 4, 2, 0, 26), (26, .baload, 1, 0, 27), (27, .ifCond .ne (23), 3, 0, 50), (30, .aload_n 0, 1, 0, 31), (31, .getfield 53, 3, 0, 34), (34, .iload 4, 2, 0, 36), (36, .iaload, 1, 0, 37), (37, .aload_n 0, 1, 0, 38), (38, .getfield 19, 3, 0, 41), (41, .iload_n 2, 1, 0, 42), (42, .iaload, 1, 0, 43), (43, .if_icmp .ne (7), 3, 0, 50), (46, .iconst 1, 1, 1, 47), (47, .goto (4), 3, 0, 51), (50, .iconst 0, 1, 0, 51), (51, .istore 5, 2, 0, 53), (53, .iconst 0, 1, 0, 54), (54, .istore 6, 2, 0, 56), (56, .iload 6, 2, 0, 58), (58, .aload_n 0, 1, 0, 59), (59, .getfield 19, 3, 0, 62), (62, .iload_n 2, 1, 0, 63), (63, .iaload, 1, 0, 64), (64, .if_icmp .ge (51), 3, 0, 115)]
theorem kMd_found_0 : bOK cX12_found 7 pMd_found_0 = true := by decide +kernel
def pMd_found_1 : List BR := [(67, .iload 5, 2, 0, 69), (69, .ifCond .eq (46), 3, 0, 115), (72, .aload_n 0, 1, 0, 73), (73, .getfield 56, 3, 0, 76), (76, .bipush 6, 2, 6, 78), (78, .iload 4, 2, 0, 80), (80, .imul, 1, 0, 81), (81, .iload 6, 2, 0, 83), (83, .iadd, 1, 0, 84), (84, .iaload, 1, 0, 85), (85, .aload_n 0, 1, 0, 86), (86, .getfield 13, 3, 0, 89), (89, .aload_n 0, 1, 0, 90), (90, .getfield 16, 3, 0, 93), (93, .iload_n 2, 1, 0, 94), (94, .iaload, 1, 0, 95), (95, .iload 6, 2, 0, 97), (97, .iadd, 1, 0, 98), (98, .iaload, 1, 0, 99), (99, .if_icmp .ne (7), 3, 0, 106), (102, .iconst 1, 1, 1, 103), (103, .goto (4), 3, 0, 107), (106, .iconst 0, 1, 0, 107), (107, .istore 5, 2, 0, 109), (109, .iinc 6 (1), 3, 1, 112), (112, .goto (-56), 3, 0, 56), (115, .iload 5, 2, 0, 117), (117, .ifCond .eq (5), 3, 0, 122), (120, .iload_n 3, 1, 0, 121), (121, .ireturn, 1, 0, 122), (122, .iinc 3 (1), 3, 1, 125), (125, .goto (-123), 3, 0, 2), (128, .iconst (-1), 1, -1, 129), (129, .ireturn, 1, 0, 130)]
theorem kMd_found_1 : bOK cX12_found 7 pMd_found_1 = true := by decide +kernel
def pMd_found : List BR := (pMd_found_0 ++ pMd_found_1)
theorem kMd_found : bOK cX12_found 7 pMd_found = true := (bOK_app kMd_found_0 kMd_found_1)
def fMd_found_j115 (k2 : Int32 → Int32 → Int32 → Sg → Option (Int32)) (x1 : Int32) (x2 : Int32) (x3 : Int32) (x5 : Int32) (σ : Sg) : Option (Int32) :=
  if x5 = 0 then
    k2 x1 x2 (x3 + 1) σ
  else
    some x3
theorem wMd_found_j115 {X : MC} {G : GE} {n0 : Nat} (hG : gH G = true) (C : CX X G RX12 cX12_found pMd_found 7 (some .int) n0) (htab : ∀ z ∈ X.2.2.2.2.2.2.2.2.exceptionTable.toList, False) {σ : Sg} {M : Mm} {n : Nat} (k2 : Int32 → Int32 → Int32 → Sg → Option (Int32)) (H2 : ∀ (x1 : Int32) (x2 : Int32) (x3 : Int32), JS X G 7 300 0 n0 (EM X G n0 2 300 (eR rvI σ M n)) (k2 x1 x2 x3 σ) (σ, M, n) 2 [(0, .inr (.inl (some (gM G)))), (1, .inl x1), (2, .inl x2), (3, .inl x3)] []) (x1 : Int32) (x2 : Int32) (x3 : Int32) (x5 : Int32) : JS X G 7 300 0 n0 (EM X G n0 2 300 (eR rvI σ M n)) (fMd_found_j115 k2 x1 x2 x3 x5 σ) (σ, M, n) 115 [(0, .inr (.inl (some (gM G)))), (1, .inl x1), (2, .inl x2), (3, .inl x3), (5, .inl x5)] [] := by
  unfold fMd_found_j115
  refine s_blk C 66 1 [0, 1, 2, 3] (pc' := 117) (lv' := [(0, .inr (.inl (some (gM G)))), (1, .inl x1), (2, .inl x2), (3, .inl x3)]) (st' := [.inl x5]) rfl ?_
  refine s_ieq C 67 rfl (fun _ => ?_) (fun _ => ?_)
  · refine s_blk C 70 2 [0, 1, 2, 3] (pc' := 2) (lv' := [(0, .inr (.inl (some (gM G)))), (1, .inl x1), (2, .inl x2), (3, .inl (x3 + 1))]) (st' := []) rfl ?_
    exact H2 _ _ _
  refine s_blk C 68 1 [] (pc' := 121) (lv' := []) (st' := [.inl x3]) rfl ?_
  exact s_iret C 69 rfl rfl
def fMd_found_j107 (k2 : Int32 → Int32 → Int32 → Sg → Option (Int32)) (k56 : Int32 → Int32 → Int32 → Int32 → Int32 → Int32 → Sg → Option (Int32)) (x1 : Int32) (x2 : Int32) (x3 : Int32) (x4 : Int32) (x6 : Int32) (s0 : Int32) (σ : Sg) : Option (Int32) :=
  k56 x1 x2 x3 x4 s0 (x6 + 1) σ
theorem wMd_found_j107 {X : MC} {G : GE} {n0 : Nat} (hG : gH G = true) (C : CX X G RX12 cX12_found pMd_found 7 (some .int) n0) (htab : ∀ z ∈ X.2.2.2.2.2.2.2.2.exceptionTable.toList, False) {σ : Sg} {M : Mm} {n : Nat} (k2 : Int32 → Int32 → Int32 → Sg → Option (Int32)) (H2 : ∀ (x1 : Int32) (x2 : Int32) (x3 : Int32), JS X G 7 300 0 n0 (EM X G n0 2 300 (eR rvI σ M n)) (k2 x1 x2 x3 σ) (σ, M, n) 2 [(0, .inr (.inl (some (gM G)))), (1, .inl x1), (2, .inl x2), (3, .inl x3)] []) (k56 : Int32 → Int32 → Int32 → Int32 → Int32 → Int32 → Sg → Option (Int32)) (H56 : ∀ (x1 : Int32) (x2 : Int32) (x3 : Int32) (x4 : Int32) (x5 : Int32) (x6 : Int32), JS X G 7 300 0 n0 (EM X G n0 2 300 (eR rvI σ M n)) (k56 x1 x2 x3 x4 x5 x6 σ) (σ, M, n) 56 [(0, .inr (.inl (some (gM G)))), (1, .inl x1), (2, .inl x2), (3, .inl x3), (4, .inl x4), (5, .inl x5), (6, .inl x6)] []) (x1 : Int32) (x2 : Int32) (x3 : Int32) (x4 : Int32) (x6 : Int32) (s0 : Int32) : JS X G 7 300 0 n0 (EM X G n0 2 300 (eR rvI σ M n)) (fMd_found_j107 k2 k56 x1 x2 x3 x4 x6 s0 σ) (σ, M, n) 107 [(0, .inr (.inl (some (gM G)))), (1, .inl x1), (2, .inl x2), (3, .inl x3), (4, .inl x4), (6, .inl x6)] [.inl s0] := by
  unfold fMd_found_j107
  refine s_blk C 63 3 [0, 1, 2, 3, 4, 5, 6] (pc' := 56) (lv' := [(0, .inr (.inl (some (gM G)))), (1, .inl x1), (2, .inl x2), (3, .inl x3), (4, .inl x4), (5, .inl s0), (6, .inl (x6 + 1))]) (st' := []) rfl ?_
  exact H56 _ _ _ _ _ _
def fMd_found_b56 (k2 : Int32 → Int32 → Int32 → Sg → Option (Int32)) (k56 : Int32 → Int32 → Int32 → Int32 → Int32 → Int32 → Sg → Option (Int32)) (x1 : Int32) (x2 : Int32) (x3 : Int32) (x4 : Int32) (x5 : Int32) (x6 : Int32) (σ : Sg) : Option (Int32) :=
  mgA 7 x2 σ fun v1 =>
  if v1 ≤ x6 then
    fMd_found_j115 k2 x1 x2 x3 x5 σ
  else
    if x5 = 0 then
      fMd_found_j115 k2 x1 x2 x3 x5 σ
    else
      mgA 22 ((6 * x4) + x6) σ fun v2 =>
      mgA 6 x2 σ fun v3 =>
      mgA 4 (v3 + x6) σ fun v4 =>
      if v2 = v4 then
        fMd_found_j107 k2 k56 x1 x2 x3 x4 x6 1 σ
      else
        fMd_found_j107 k2 k56 x1 x2 x3 x4 x6 0 σ
theorem wMd_found_b56 {X : MC} {G : GE} {n0 : Nat} (hG : gH G = true) (C : CX X G RX12 cX12_found pMd_found 7 (some .int) n0) (htab : ∀ z ∈ X.2.2.2.2.2.2.2.2.exceptionTable.toList, False) {σ : Sg} {M : Mm} {n : Nat} (k2 : Int32 → Int32 → Int32 → Sg → Option (Int32)) (H2 : ∀ (x1 : Int32) (x2 : Int32) (x3 : Int32), JS X G 7 300 0 n0 (EM X G n0 2 300 (eR rvI σ M n)) (k2 x1 x2 x3 σ) (σ, M, n) 2 [(0, .inr (.inl (some (gM G)))), (1, .inl x1), (2, .inl x2), (3, .inl x3)] []) (k56 : Int32 → Int32 → Int32 → Int32 → Int32 → Int32 → Sg → Option (Int32)) (H56 : ∀ (x1 : Int32) (x2 : Int32) (x3 : Int32) (x4 : Int32) (x5 : Int32) (x6 : Int32), JS X G 7 300 0 n0 (EM X G n0 2 300 (eR rvI σ M n)) (k56 x1 x2 x3 x4 x5 x6 σ) (σ, M, n) 56 [(0, .inr (.inl (some (gM G)))), (1, .inl x1), (2, .inl x2), (3, .inl x3), (4, .inl x4), (5, .inl x5), (6, .inl x6)] []) (x1 : Int32) (x2 : Int32) (x3 : Int32) (x4 : Int32) (x5 : Int32) (x6 : Int32) : JS X G 7 300 0 n0 (EM X G n0 2 300 (eR rvI σ M n)) (fMd_found_b56 k2 k56 x1 x2 x3 x4 x5 x6 σ) (σ, M, n) 56 [(0, .inr (.inl (some (gM G)))), (1, .inl x1), (2, .inl x2), (3, .inl x3), (4, .inl x4), (5, .inl x5), (6, .inl x6)] [] := by
  unfold fMd_found_b56
  refine s_blk C 34 2 [0, 1, 2, 3, 4, 5, 6] (pc' := 59) (lv' := [(0, .inr (.inl (some (gM G)))), (1, .inl x1), (2, .inl x2), (3, .inl x3), (4, .inl x4), (5, .inl x5), (6, .inl x6)]) (st' := [.inr (.inl (some (gM G))), .inl x6]) rfl ?_
  refine s_mR hG C 36 rfl 7 fl_X12_19 rfl ?_
  refine s_blk C 37 1 [0, 1, 2, 3, 4, 5, 6] (pc' := 63) (lv' := [(0, .inr (.inl (some (gM G)))), (1, .inl x1), (2, .inl x2), (3, .inl x3), (4, .inl x4), (5, .inl x5), (6, .inl x6)]) (st' := [.inl x2, .inr (.inl (some (gA G 7))), .inl x6]) rfl ?_
  refine s_mldI hG C 38 rfl rfl rfl (fun v1 => ?_)
  refine s_icge C 39 rfl (fun _ => ?_) (fun _ => ?_)
  · refine s_blk C 0 0 [0, 1, 2, 3, 5] (pc' := 115) (lv' := [(0, .inr (.inl (some (gM G)))), (1, .inl x1), (2, .inl x2), (3, .inl x3), (5, .inl x5)]) (st' := []) rfl ?_
    exact wMd_found_j115 hG C htab k2 H2 _ _ _ _
  refine s_blk C 40 1 [0, 1, 2, 3, 4, 5, 6] (pc' := 69) (lv' := [(0, .inr (.inl (some (gM G)))), (1, .inl x1), (2, .inl x2), (3, .inl x3), (4, .inl x4), (5, .inl x5), (6, .inl x6)]) (st' := [.inl x5]) rfl ?_
  refine s_ieq C 41 rfl (fun _ => ?_) (fun _ => ?_)
  · refine s_blk C 0 0 [0, 1, 2, 3, 5] (pc' := 115) (lv' := [(0, .inr (.inl (some (gM G)))), (1, .inl x1), (2, .inl x2), (3, .inl x3), (5, .inl x5)]) (st' := []) rfl ?_
    exact wMd_found_j115 hG C htab k2 H2 _ _ _ _
  refine s_blk C 42 1 [0, 1, 2, 3, 4, 6] (pc' := 73) (lv' := [(0, .inr (.inl (some (gM G)))), (1, .inl x1), (2, .inl x2), (3, .inl x3), (4, .inl x4), (6, .inl x6)]) (st' := [.inr (.inl (some (gM G)))]) rfl ?_
  refine s_mR hG C 43 rfl 22 fl_X12_56 rfl ?_
  refine s_blk C 44 5 [0, 1, 2, 3, 4, 6] (pc' := 84) (lv' := [(0, .inr (.inl (some (gM G)))), (1, .inl x1), (2, .inl x2), (3, .inl x3), (4, .inl x4), (6, .inl x6)]) (st' := [.inl ((6 * x4) + x6), .inr (.inl (some (gA G 22)))]) rfl ?_
  refine s_mldI hG C 49 rfl rfl rfl (fun v2 => ?_)
  refine s_blk C 50 1 [0, 1, 2, 3, 4, 6] (pc' := 86) (lv' := [(0, .inr (.inl (some (gM G)))), (1, .inl x1), (2, .inl x2), (3, .inl x3), (4, .inl x4), (6, .inl x6)]) (st' := [.inr (.inl (some (gM G))), .inl v2]) rfl ?_
  refine s_mR hG C 51 rfl 4 fl_X12_13 rfl ?_
  refine s_blk C 52 1 [0, 1, 2, 3, 4, 6] (pc' := 90) (lv' := [(0, .inr (.inl (some (gM G)))), (1, .inl x1), (2, .inl x2), (3, .inl x3), (4, .inl x4), (6, .inl x6)]) (st' := [.inr (.inl (some (gM G))), .inr (.inl (some (gA G 4))), .inl v2]) rfl ?_
  refine s_mR hG C 53 rfl 6 fl_X12_16 rfl ?_
  refine s_blk C 54 1 [0, 1, 2, 3, 4, 6] (pc' := 94) (lv' := [(0, .inr (.inl (some (gM G)))), (1, .inl x1), (2, .inl x2), (3, .inl x3), (4, .inl x4), (6, .inl x6)]) (st' := [.inl x2, .inr (.inl (some (gA G 6))), .inr (.inl (some (gA G 4))), .inl v2]) rfl ?_
  refine s_mldI hG C 55 rfl rfl rfl (fun v3 => ?_)
  refine s_blk C 56 2 [0, 1, 2, 3, 4, 6] (pc' := 98) (lv' := [(0, .inr (.inl (some (gM G)))), (1, .inl x1), (2, .inl x2), (3, .inl x3), (4, .inl x4), (6, .inl x6)]) (st' := [.inl (v3 + x6), .inr (.inl (some (gA G 4))), .inl v2]) rfl ?_
  refine s_mldI hG C 58 rfl rfl rfl (fun v4 => ?_)
  refine s_icne C 59 rfl (fun _ => ?_) (fun _ => ?_)
  · refine s_blk C 60 2 [0, 1, 2, 3, 4, 6] (pc' := 107) (lv' := [(0, .inr (.inl (some (gM G)))), (1, .inl x1), (2, .inl x2), (3, .inl x3), (4, .inl x4), (6, .inl x6)]) (st' := [.inl 1]) rfl ?_
    exact wMd_found_j107 hG C htab k2 H2 k56 H56 _ _ _ _ _ _
  refine s_blk C 62 1 [0, 1, 2, 3, 4, 6] (pc' := 107) (lv' := [(0, .inr (.inl (some (gM G)))), (1, .inl x1), (2, .inl x2), (3, .inl x3), (4, .inl x4), (6, .inl x6)]) (st' := [.inl 0]) rfl ?_
  exact wMd_found_j107 hG C htab k2 H2 k56 H56 _ _ _ _ _ _
def fMd_found_l56 (k2 : Int32 → Int32 → Int32 → Sg → Option (Int32)) (fu : Nat) : Int32 → Int32 → Int32 → Int32 → Int32 → Int32 → Sg → Option (Int32) := Nat.rec (fun x1 x2 x3 x4 x5 x6 σ => none) (fun _ k => fMd_found_b56 k2 k) fu
theorem wMd_found_l56 {X : MC} {G : GE} {n0 : Nat} (hG : gH G = true) (C : CX X G RX12 cX12_found pMd_found 7 (some .int) n0) (htab : ∀ z ∈ X.2.2.2.2.2.2.2.2.exceptionTable.toList, False) {σ : Sg} {M : Mm} {n : Nat} (k2 : Int32 → Int32 → Int32 → Sg → Option (Int32)) (H2 : ∀ (x1 : Int32) (x2 : Int32) (x3 : Int32), JS X G 7 300 0 n0 (EM X G n0 2 300 (eR rvI σ M n)) (k2 x1 x2 x3 σ) (σ, M, n) 2 [(0, .inr (.inl (some (gM G)))), (1, .inl x1), (2, .inl x2), (3, .inl x3)] []) : ∀ (fu : Nat) (x1 : Int32) (x2 : Int32) (x3 : Int32) (x4 : Int32) (x5 : Int32) (x6 : Int32), JS X G 7 300 0 n0 (EM X G n0 2 300 (eR rvI σ M n)) (fMd_found_l56 k2 fu x1 x2 x3 x4 x5 x6 σ) (σ, M, n) 56 [(0, .inr (.inl (some (gM G)))), (1, .inl x1), (2, .inl x2), (3, .inl x3), (4, .inl x4), (5, .inl x5), (6, .inl x6)] [] := by
  intro fu
  induction fu with
  | zero => intro x1 x2 x3 x4 x5 x6; exact s_none
  | succ fu ih => intro x1 x2 x3 x4 x5 x6; exact wMd_found_b56 hG C htab k2 H2 (fMd_found_l56 k2 fu) ih _ _ _ _ _ _
def fMd_found_j51 (k2 : Int32 → Int32 → Int32 → Sg → Option (Int32)) (x1 : Int32) (x2 : Int32) (x3 : Int32) (x4 : Int32) (s0 : Int32) (σ : Sg) : Option (Int32) :=
  fMd_found_l56 k2 FU x1 x2 x3 x4 s0 0 σ
theorem wMd_found_j51 {X : MC} {G : GE} {n0 : Nat} (hG : gH G = true) (C : CX X G RX12 cX12_found pMd_found 7 (some .int) n0) (htab : ∀ z ∈ X.2.2.2.2.2.2.2.2.exceptionTable.toList, False) {σ : Sg} {M : Mm} {n : Nat} (k2 : Int32 → Int32 → Int32 → Sg → Option (Int32)) (H2 : ∀ (x1 : Int32) (x2 : Int32) (x3 : Int32), JS X G 7 300 0 n0 (EM X G n0 2 300 (eR rvI σ M n)) (k2 x1 x2 x3 σ) (σ, M, n) 2 [(0, .inr (.inl (some (gM G)))), (1, .inl x1), (2, .inl x2), (3, .inl x3)] []) (x1 : Int32) (x2 : Int32) (x3 : Int32) (x4 : Int32) (s0 : Int32) : JS X G 7 300 0 n0 (EM X G n0 2 300 (eR rvI σ M n)) (fMd_found_j51 k2 x1 x2 x3 x4 s0 σ) (σ, M, n) 51 [(0, .inr (.inl (some (gM G)))), (1, .inl x1), (2, .inl x2), (3, .inl x3), (4, .inl x4)] [.inl s0] := by
  unfold fMd_found_j51
  refine s_blk C 31 3 [0, 1, 2, 3, 4, 5, 6] (pc' := 56) (lv' := [(0, .inr (.inl (some (gM G)))), (1, .inl x1), (2, .inl x2), (3, .inl x3), (4, .inl x4), (5, .inl s0), (6, .inl 0)]) (st' := []) rfl ?_
  exact wMd_found_l56 hG C htab k2 H2 FU _ _ _ _ _ _
def fMd_found_j50 (k2 : Int32 → Int32 → Int32 → Sg → Option (Int32)) (x1 : Int32) (x2 : Int32) (x3 : Int32) (x4 : Int32) (σ : Sg) : Option (Int32) :=
  fMd_found_j51 k2 x1 x2 x3 x4 0 σ
theorem wMd_found_j50 {X : MC} {G : GE} {n0 : Nat} (hG : gH G = true) (C : CX X G RX12 cX12_found pMd_found 7 (some .int) n0) (htab : ∀ z ∈ X.2.2.2.2.2.2.2.2.exceptionTable.toList, False) {σ : Sg} {M : Mm} {n : Nat} (k2 : Int32 → Int32 → Int32 → Sg → Option (Int32)) (H2 : ∀ (x1 : Int32) (x2 : Int32) (x3 : Int32), JS X G 7 300 0 n0 (EM X G n0 2 300 (eR rvI σ M n)) (k2 x1 x2 x3 σ) (σ, M, n) 2 [(0, .inr (.inl (some (gM G)))), (1, .inl x1), (2, .inl x2), (3, .inl x3)] []) (x1 : Int32) (x2 : Int32) (x3 : Int32) (x4 : Int32) : JS X G 7 300 0 n0 (EM X G n0 2 300 (eR rvI σ M n)) (fMd_found_j50 k2 x1 x2 x3 x4 σ) (σ, M, n) 50 [(0, .inr (.inl (some (gM G)))), (1, .inl x1), (2, .inl x2), (3, .inl x3), (4, .inl x4)] [] := by
  unfold fMd_found_j50
  refine s_blk C 30 1 [0, 1, 2, 3, 4] (pc' := 51) (lv' := [(0, .inr (.inl (some (gM G)))), (1, .inl x1), (2, .inl x2), (3, .inl x3), (4, .inl x4)]) (st' := [.inl 0]) rfl ?_
  exact wMd_found_j51 hG C htab k2 H2 _ _ _ _ _
def fMd_found_b2 (k2 : Int32 → Int32 → Int32 → Sg → Option (Int32)) (x1 : Int32) (x2 : Int32) (x3 : Int32) (σ : Sg) : Option (Int32) :=
  mgA 18 x1 σ fun v1 =>
  if v1 ≤ x3 then
    some (-1)
  else
    mgA 19 ((90 * x1) + x3) σ fun v2 =>
    if v2 = 0 then
      mgA 21 ((90 * x1) + x3) σ fun v3 =>
      mgA 7 x2 σ fun v4 =>
      if v3 = v4 then
        fMd_found_j51 k2 x1 x2 x3 ((90 * x1) + x3) 1 σ
      else
        fMd_found_j50 k2 x1 x2 x3 ((90 * x1) + x3) σ
    else
      fMd_found_j50 k2 x1 x2 x3 ((90 * x1) + x3) σ
theorem wMd_found_b2 {X : MC} {G : GE} {n0 : Nat} (hG : gH G = true) (C : CX X G RX12 cX12_found pMd_found 7 (some .int) n0) (htab : ∀ z ∈ X.2.2.2.2.2.2.2.2.exceptionTable.toList, False) {σ : Sg} {M : Mm} {n : Nat} (k2 : Int32 → Int32 → Int32 → Sg → Option (Int32)) (H2 : ∀ (x1 : Int32) (x2 : Int32) (x3 : Int32), JS X G 7 300 0 n0 (EM X G n0 2 300 (eR rvI σ M n)) (k2 x1 x2 x3 σ) (σ, M, n) 2 [(0, .inr (.inl (some (gM G)))), (1, .inl x1), (2, .inl x2), (3, .inl x3)] []) (x1 : Int32) (x2 : Int32) (x3 : Int32) : JS X G 7 300 0 n0 (EM X G n0 2 300 (eR rvI σ M n)) (fMd_found_b2 k2 x1 x2 x3 σ) (σ, M, n) 2 [(0, .inr (.inl (some (gM G)))), (1, .inl x1), (2, .inl x2), (3, .inl x3)] [] := by
  unfold fMd_found_b2
  refine s_blk C 2 2 [0, 1, 2, 3] (pc' := 4) (lv' := [(0, .inr (.inl (some (gM G)))), (1, .inl x1), (2, .inl x2), (3, .inl x3)]) (st' := [.inr (.inl (some (gM G))), .inl x3]) rfl ?_
  refine s_mR hG C 4 rfl 18 fl_X12_44 rfl ?_
  refine s_blk C 5 1 [0, 1, 2, 3] (pc' := 8) (lv' := [(0, .inr (.inl (some (gM G)))), (1, .inl x1), (2, .inl x2), (3, .inl x3)]) (st' := [.inl x1, .inr (.inl (some (gA G 18))), .inl x3]) rfl ?_
  refine s_mldI hG C 6 rfl rfl rfl (fun v1 => ?_)
  refine s_icge C 7 rfl (fun _ => ?_) (fun _ => ?_)
  · refine s_blk C 72 1 [] (pc' := 129) (lv' := []) (st' := [.inl (-1)]) rfl ?_
    exact s_iret C 73 rfl rfl
  refine s_blk C 8 7 [0, 1, 2, 3, 4] (pc' := 21) (lv' := [(0, .inr (.inl (some (gM G)))), (1, .inl x1), (2, .inl x2), (3, .inl x3), (4, .inl ((90 * x1) + x3))]) (st' := [.inr (.inl (some (gM G)))]) rfl ?_
  refine s_mR hG C 15 rfl 19 fl_X12_47 rfl ?_
  refine s_blk C 16 1 [0, 1, 2, 3, 4] (pc' := 26) (lv' := [(0, .inr (.inl (some (gM G)))), (1, .inl x1), (2, .inl x2), (3, .inl x3), (4, .inl ((90 * x1) + x3))]) (st' := [.inl ((90 * x1) + x3), .inr (.inl (some (gA G 19)))]) rfl ?_
  refine s_mldZ hG C 17 rfl rfl rfl (fun v2 => ?_)
  refine s_ine C 18 rfl (fun _ => ?_) (fun _ => ?_)
  · refine s_blk C 19 1 [0, 1, 2, 3, 4] (pc' := 31) (lv' := [(0, .inr (.inl (some (gM G)))), (1, .inl x1), (2, .inl x2), (3, .inl x3), (4, .inl ((90 * x1) + x3))]) (st' := [.inr (.inl (some (gM G)))]) rfl ?_
    refine s_mR hG C 20 rfl 21 fl_X12_53 rfl ?_
    refine s_blk C 21 1 [0, 1, 2, 3, 4] (pc' := 36) (lv' := [(0, .inr (.inl (some (gM G)))), (1, .inl x1), (2, .inl x2), (3, .inl x3), (4, .inl ((90 * x1) + x3))]) (st' := [.inl ((90 * x1) + x3), .inr (.inl (some (gA G 21)))]) rfl ?_
    refine s_mldI hG C 22 rfl rfl rfl (fun v3 => ?_)
    refine s_blk C 23 1 [0, 1, 2, 3, 4] (pc' := 38) (lv' := [(0, .inr (.inl (some (gM G)))), (1, .inl x1), (2, .inl x2), (3, .inl x3), (4, .inl ((90 * x1) + x3))]) (st' := [.inr (.inl (some (gM G))), .inl v3]) rfl ?_
    refine s_mR hG C 24 rfl 7 fl_X12_19 rfl ?_
    refine s_blk C 25 1 [0, 1, 2, 3, 4] (pc' := 42) (lv' := [(0, .inr (.inl (some (gM G)))), (1, .inl x1), (2, .inl x2), (3, .inl x3), (4, .inl ((90 * x1) + x3))]) (st' := [.inl x2, .inr (.inl (some (gA G 7))), .inl v3]) rfl ?_
    refine s_mldI hG C 26 rfl rfl rfl (fun v4 => ?_)
    refine s_icne C 27 rfl (fun _ => ?_) (fun _ => ?_)
    · refine s_blk C 28 2 [0, 1, 2, 3, 4] (pc' := 51) (lv' := [(0, .inr (.inl (some (gM G)))), (1, .inl x1), (2, .inl x2), (3, .inl x3), (4, .inl ((90 * x1) + x3))]) (st' := [.inl 1]) rfl ?_
      exact wMd_found_j51 hG C htab k2 H2 _ _ _ _ _
    exact wMd_found_j50 hG C htab k2 H2 _ _ _ _
  exact wMd_found_j50 hG C htab k2 H2 _ _ _ _
def fMd_found_l2 (fu : Nat) : Int32 → Int32 → Int32 → Sg → Option (Int32) := Nat.rec (fun x1 x2 x3 σ => none) (fun _ k => fMd_found_b2 k) fu
theorem wMd_found_l2 {X : MC} {G : GE} {n0 : Nat} (hG : gH G = true) (C : CX X G RX12 cX12_found pMd_found 7 (some .int) n0) (htab : ∀ z ∈ X.2.2.2.2.2.2.2.2.exceptionTable.toList, False) {σ : Sg} {M : Mm} {n : Nat} : ∀ (fu : Nat) (x1 : Int32) (x2 : Int32) (x3 : Int32), JS X G 7 300 0 n0 (EM X G n0 2 300 (eR rvI σ M n)) (fMd_found_l2 fu x1 x2 x3 σ) (σ, M, n) 2 [(0, .inr (.inl (some (gM G)))), (1, .inl x1), (2, .inl x2), (3, .inl x3)] [] := by
  intro fu
  induction fu with
  | zero => intro x1 x2 x3; exact s_none
  | succ fu ih => intro x1 x2 x3; exact wMd_found_b2 hG C htab (fMd_found_l2 fu) ih _ _ _
def fMd_found (x1 : Int32) (x2 : Int32) (σ : Sg) : Option (Int32) :=
  fMd_found_l2 FU x1 x2 0 σ
theorem wMd_found {X : MC} {G : GE} {n0 : Nat} (hG : gH G = true) (C : CX X G RX12 cX12_found pMd_found 7 (some .int) n0) (htab : ∀ z ∈ X.2.2.2.2.2.2.2.2.exceptionTable.toList, False) {σ : Sg} {M : Mm} {n : Nat} (x1 : Int32) (x2 : Int32) : JS X G 7 300 0 n0 (EM X G n0 2 300 (eR rvI σ M n)) (fMd_found x1 x2 σ) (σ, M, n) 0 [(0, .inr (.inl (some (gM G)))), (1, .inl x1), (2, .inl x2)] [] := by
  unfold fMd_found
  refine s_blk C 0 2 [0, 1, 2, 3] (pc' := 2) (lv' := [(0, .inr (.inl (some (gM G)))), (1, .inl x1), (2, .inl x2), (3, .inl 0)]) (st' := []) rfl ?_
  exact wMd_found_l2 hG C htab FU _ _ _
theorem cMd_found {l : Launch} {G : GE} (htr : l.stackTraces = false) (hG : gH G = true) (σ : Sg) (M : Mm) (n : Nat) (x1 : Int32) (x2 : Int32) : ∀ o, fMd_found x1 x2 σ = some o → MetX l G yX12_found cX12_found 7 (some .int) 2 300 [.inr (.inl (some (gM G))), .inl x1, .inl x2] (σ, M, n) ((eR rvI σ M n) o) :=
  c_ofX (by decide) kMd_found htr rfl rfl fun X _ _ C htab => wMd_found hG C htab x1 x2

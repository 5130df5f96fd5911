def pHb_draft_0 : List BR := [(0, .iload_n 1, 1, 0, 1), (1, .iconst 0, 1, 0, 2), (2, .bipush 15, 2, 15, 4), (4, .invokestatic 46, 3, 0, 7), (7, .iload_n 2, 1, 0, 8), (8, .iconst 0, 1, 0, 9), (9, .bipush 15, 2, 15, 11), (11, .invokestatic 46, 3, 0, 14), (14, .iload_n 3, 1, 0, 15), (15, .iconst 1, 1, 1, 16), (16, .bipush 40, 2, 40, 18), (18, .invokestatic 46, 3, 0, 21), (21, .aload_n 0, 1, 0, 22), (22, .getfield 22, 3, 0, 25), (25, .getfield 50, 3, 0, 28), (28, .iload_n 3, 1, 0, 29), (29, .iadd, 1, 0, 30), (30, .bipush 40, 2, 40, 32), (32, .if_icmp .gt (7), 3, 0, 39), (35, .iconst 1, 1, 1, 36), (36, .goto (4), 3, 0, 40), (39, .iconst 0, 1, 0, 40), (40, .invokestatic 54, 3, 0, 43), (43, .iconst 0, 1, 0, 44), (44, .istore 4, 2, 0, 46), (46, .iload 4, 2, 0, 48), (48, .iload_n 3, 1, 0, 49), (49, .if_icmp .ge (25), 3, 0, 74), (52, .aload_n 0, 1, 0, 53), (53, .getfield 22, 3, 0, 56), (56, .iload_n 1, 1, 0, 57), (57, .iload 4, 2, 0, 59), (59, .iload_n 2, 1, 0, 60), (60, .imul, 1, 0, 61), (61, .iadd, 1, 0, 62), (62, .bipush 16, 2, 16, 64), (64, .irem, 1, 0, 65), (65, .invokevirtual 58, 3, 0, 68), (68, .iinc 4 (1), 3, 1, 71), (71, .goto (-25), 3, 0, 46)]
theorem kHb_draft_0 : bOK cX11_draft 5 pHb_draft_0 = true := by decide +kernel
def pHb_draft_1 : List BR := [(74, .aload_n 0, 1, 0, 75), (75, .getfield 22, 3, 0, 78), (78, .getfield 50, 3, 0, 81), (81, .ireturn, 1, 0, 82)]
theorem kHb_draft_1 : bOK cX11_draft 5 pHb_draft_1 = true := by decide +kernel
def pHb_draft : List BR := (pHb_draft_0 ++ pHb_draft_1)
theorem kHb_draft : bOK cX11_draft 5 pHb_draft = true := (bOK_app kHb_draft_0 kHb_draft_1)
def fHb_draft_b46 (a0 : Nat) (k46 : Int32 → Int32 → Int32 → Int32 → Mm → Nat → Option ((Int32 ⊕ Nat) × Mm × Nat)) (x1 : Int32) (x2 : Int32) (x3 : Int32) (x4 : Int32) (M : Mm) (n : Nat) : Option ((Int32 ⊕ Nat) × Mm × Nat) :=
  if x3 ≤ x4 then
    fgR 11 1102 (some a0) M fun v1 =>
    fgI 1 101 v1 M fun v2 =>
    some (.inl v2, M, n)
  else
    fgR 11 1102 (some a0) M fun v3 =>
    rk 1 v3 M fun a4 =>
    bdW (fBytes_append a4 ((x1 + (x4 * x2)) - (x1 + (x4 * x2)) / 16 * 16) M) fun v7 M8 =>
    k46 x1 x2 x3 (x4 + 1) M8 n
theorem wHb_draft_b46 {X : MC} {G : GE} {n0 : Nat} (C : CX X G RX11 cX11_draft pHb_draft 5 (some .int) n0) (htab : ∀ z ∈ X.2.2.2.2.2.2.2.2.exceptionTable.toList, False) {σ : Sg} (a0 : Nat) (k46 : Int32 → Int32 → Int32 → Int32 → Mm → Nat → Option ((Int32 ⊕ Nat) × Mm × Nat)) (H46 : ∀ (x1 : Int32) (x2 : Int32) (x3 : Int32) (x4 : Int32) (M : Mm) (n : Nat), JS X G 5 300 0 n0 (EM X G n0 8 300 (eC rvI σ)) (k46 x1 x2 x3 x4 M n) (σ, M, n) 46 [(0, .inr (.inl (some a0))), (1, .inl x1), (2, .inl x2), (3, .inl x3), (4, .inl x4)] []) (x1 : Int32) (x2 : Int32) (x3 : Int32) (x4 : Int32) (M : Mm) (n : Nat) : JS X G 5 300 0 n0 (EM X G n0 8 300 (eC rvI σ)) (fHb_draft_b46 a0 k46 x1 x2 x3 x4 M n) (σ, M, n) 46 [(0, .inr (.inl (some a0))), (1, .inl x1), (2, .inl x2), (3, .inl x3), (4, .inl x4)] [] := by
  unfold fHb_draft_b46
  refine s_blk C 25 2 [0, 1, 2, 3, 4] (pc' := 49) (lv' := [(0, .inr (.inl (some a0))), (1, .inl x1), (2, .inl x2), (3, .inl x3), (4, .inl x4)]) (st' := [.inl x3, .inl x4]) rfl ?_
  refine s_icge C 27 rfl (fun _ => ?_) (fun _ => ?_)
  · refine s_blk C 40 1 [] (pc' := 75) (lv' := []) (st' := [.inr (.inl (some a0))]) rfl ?_
    refine s_gR C 41 rfl fl_X11_22 rfl rfl (fun v1 => ?_)
    refine s_gI C 42 rfl fl_X11_50 rfl rfl (fun v2 => ?_)
    exact s_iret C 43 rfl rfl
  refine s_blk C 28 1 [0, 1, 2, 3, 4] (pc' := 53) (lv' := [(0, .inr (.inl (some a0))), (1, .inl x1), (2, .inl x2), (3, .inl x3), (4, .inl x4)]) (st' := [.inr (.inl (some a0))]) rfl ?_
  refine s_gR C 29 rfl fl_X11_22 rfl rfl (fun v3 => ?_)
  refine s_blk C 30 6 [0, 1, 2, 3, 4] (pc' := 64) (lv' := [(0, .inr (.inl (some a0))), (1, .inl x1), (2, .inl x2), (3, .inl x3), (4, .inl x4)]) (st' := [.inl 16, .inl (x1 + (x4 * x2)), .inr (.inl v3)]) rfl ?_
  refine s_irem C 36 rfl (by decide) ?_
  refine s_rk (fun a4 ha5 hk6 => ?_)
  subst ha5
  refine s_WU (CE_EM _ _ _ _ _ _) (st := []) (fun o ho => j_callV (As := [.inl ((x1 + (x4 * x2)) - (x1 + (x4 * x2)) / 16 * 16)]) (st := []) (b := a4) C 37 rfl mf_Bytes_append ml_X11_58 rfl (recv_K C (by decide) (by decide) rfl hk6) (by decide) (by decide) (Nat.le_refl _) rfl (cBytes_append (CX_tr C) σ M n a4 ((x1 + (x4 * x2)) - (x1 + (x4 * x2)) / 16 * 16) o ho)) (fun v7 M8 => ?_)
  refine s_blk C 38 2 [0, 1, 2, 3, 4] (pc' := 46) (lv' := [(0, .inr (.inl (some a0))), (1, .inl x1), (2, .inl x2), (3, .inl x3), (4, .inl (x4 + 1))]) (st' := []) rfl ?_
  exact H46 _ _ _ _ _ _
def fHb_draft_l46 (a0 : Nat) (fu : Nat) : Int32 → Int32 → Int32 → Int32 → Mm → Nat → Option ((Int32 ⊕ Nat) × Mm × Nat) := Nat.rec (fun x1 x2 x3 x4 M n => none) (fun _ k => fHb_draft_b46 a0 k) fu
theorem wHb_draft_l46 {X : MC} {G : GE} {n0 : Nat} (C : CX X G RX11 cX11_draft pHb_draft 5 (some .int) n0) (htab : ∀ z ∈ X.2.2.2.2.2.2.2.2.exceptionTable.toList, False) {σ : Sg} (a0 : Nat) : ∀ (fu : Nat) (x1 : Int32) (x2 : Int32) (x3 : Int32) (x4 : Int32) (M : Mm) (n : Nat), JS X G 5 300 0 n0 (EM X G n0 8 300 (eC rvI σ)) (fHb_draft_l46 a0 fu x1 x2 x3 x4 M n) (σ, M, n) 46 [(0, .inr (.inl (some a0))), (1, .inl x1), (2, .inl x2), (3, .inl x3), (4, .inl x4)] [] := by
  intro fu
  induction fu with
  | zero => intro x1 x2 x3 x4 M n; exact s_none
  | succ fu ih => intro x1 x2 x3 x4 M n; exact wHb_draft_b46 C htab a0 (fHb_draft_l46 a0 fu) ih _ _ _ _ _ _
def fHb_draft_j40 (a0 : Nat) (x1 : Int32) (x2 : Int32) (x3 : Int32) (s0 : Int32) (M : Mm) (n : Nat) : Option ((Int32 ⊕ Nat) × Mm × Nat) :=
  bdC (fHb_checkState s0 M n) n fun v1 M2 n3 =>
  fHb_draft_l46 a0 FU x1 x2 x3 0 M2 n3
theorem wHb_draft_j40 {X : MC} {G : GE} {n0 : Nat} (C : CX X G RX11 cX11_draft pHb_draft 5 (some .int) n0) (htab : ∀ z ∈ X.2.2.2.2.2.2.2.2.exceptionTable.toList, False) {σ : Sg} (a0 : Nat) (x1 : Int32) (x2 : Int32) (x3 : Int32) (s0 : Int32) (M : Mm) (n : Nat) : JS X G 5 300 0 n0 (EM X G n0 8 300 (eC rvI σ)) (fHb_draft_j40 a0 x1 x2 x3 s0 M n) (σ, M, n) 40 [(0, .inr (.inl (some a0))), (1, .inl x1), (2, .inl x2), (3, .inl x3)] [.inl s0] := by
  unfold fHb_draft_j40
  refine s_CU C htab (st := []) (fun o ho => j_callS (As := [.inl s0]) (st := []) C 22 rfl mf_Hb_checkState ml_X11_54 rfl (by decide) (by decide) (Nat.le_refl _) rfl (cHb_checkState (CX_tr C) σ M n s0 o ho)) (fun v1 M2 n3 _ => ?_)
  refine s_blk C 23 2 [0, 1, 2, 3, 4] (pc' := 46) (lv' := [(0, .inr (.inl (some a0))), (1, .inl x1), (2, .inl x2), (3, .inl x3), (4, .inl 0)]) (st' := []) rfl ?_
  exact wHb_draft_l46 C htab a0 FU _ _ _ _ _ _
def fHb_draft (a0 : Nat) (x1 : Int32) (x2 : Int32) (x3 : Int32) (M : Mm) (n : Nat) : Option ((Int32 ⊕ Nat) × Mm × Nat) :=
  bdC (fHb_checkRange x1 0 15 M n) n fun v1 M2 n3 =>
  bdC (fHb_checkRange x2 0 15 M2 n3) n3 fun v4 M5 n6 =>
  bdC (fHb_checkRange x3 1 40 M5 n6) n6 fun v7 M8 n9 =>
  fgR 11 1102 (some a0) M8 fun v10 =>
  fgI 1 101 v10 M8 fun v11 =>
  if 40 < (v11 + x3) then
    fHb_draft_j40 a0 x1 x2 x3 0 M8 n9
  else
    fHb_draft_j40 a0 x1 x2 x3 1 M8 n9
theorem wHb_draft {X : MC} {G : GE} {n0 : Nat} (C : CX X G RX11 cX11_draft pHb_draft 5 (some .int) n0) (htab : ∀ z ∈ X.2.2.2.2.2.2.2.2.exceptionTable.toList, False) {σ : Sg} (a0 : Nat) (x1 : Int32) (x2 : Int32) (x3 : Int32) (M : Mm) (n : Nat) : JS X G 5 300 0 n0 (EM X G n0 8 300 (eC rvI σ)) (fHb_draft a0 x1 x2 x3 M n) (σ, M, n) 0 [(0, .inr (.inl (some a0))), (1, .inl x1), (2, .inl x2), (3, .inl x3)] [] := by
  unfold fHb_draft
  refine s_blk C 0 3 [0, 1, 2, 3] (pc' := 4) (lv' := [(0, .inr (.inl (some a0))), (1, .inl x1), (2, .inl x2), (3, .inl x3)]) (st' := [.inl 15, .inl 0, .inl x1]) rfl ?_
  refine s_CU C htab (st := []) (fun o ho => j_callS (As := [.inl x1, .inl 0, .inl 15]) (st := []) C 3 rfl mf_Hb_checkRange ml_X11_46 rfl (by decide) (by decide) (Nat.le_refl _) rfl (cHb_checkRange (CX_tr C) σ M n x1 0 15 o ho)) (fun v1 M2 n3 _ => ?_)
  refine s_blk C 4 3 [0, 1, 2, 3] (pc' := 11) (lv' := [(0, .inr (.inl (some a0))), (1, .inl x1), (2, .inl x2), (3, .inl x3)]) (st' := [.inl 15, .inl 0, .inl x2]) rfl ?_
  refine s_CU C htab (st := []) (fun o ho => j_callS (As := [.inl x2, .inl 0, .inl 15]) (st := []) C 7 rfl mf_Hb_checkRange ml_X11_46 rfl (by decide) (by decide) (Nat.le_refl _) rfl (cHb_checkRange (CX_tr C) σ M2 n3 x2 0 15 o ho)) (fun v4 M5 n6 _ => ?_)
  refine s_blk C 8 3 [0, 1, 2, 3] (pc' := 18) (lv' := [(0, .inr (.inl (some a0))), (1, .inl x1), (2, .inl x2), (3, .inl x3)]) (st' := [.inl 40, .inl 1, .inl x3]) rfl ?_
  refine s_CU C htab (st := []) (fun o ho => j_callS (As := [.inl x3, .inl 1, .inl 40]) (st := []) C 11 rfl mf_Hb_checkRange ml_X11_46 rfl (by decide) (by decide) (Nat.le_refl _) rfl (cHb_checkRange (CX_tr C) σ M5 n6 x3 1 40 o ho)) (fun v7 M8 n9 _ => ?_)
  refine s_blk C 12 1 [0, 1, 2, 3] (pc' := 22) (lv' := [(0, .inr (.inl (some a0))), (1, .inl x1), (2, .inl x2), (3, .inl x3)]) (st' := [.inr (.inl (some a0))]) rfl ?_
  refine s_gR C 13 rfl fl_X11_22 rfl rfl (fun v10 => ?_)
  refine s_gI C 14 rfl fl_X11_50 rfl rfl (fun v11 => ?_)
  refine s_blk C 15 3 [0, 1, 2, 3] (pc' := 32) (lv' := [(0, .inr (.inl (some a0))), (1, .inl x1), (2, .inl x2), (3, .inl x3)]) (st' := [.inl 40, .inl (v11 + x3)]) rfl ?_
  refine s_icgt C 18 rfl (fun _ => ?_) (fun _ => ?_)
  · refine s_blk C 21 1 [0, 1, 2, 3] (pc' := 40) (lv' := [(0, .inr (.inl (some a0))), (1, .inl x1), (2, .inl x2), (3, .inl x3)]) (st' := [.inl 0]) rfl ?_
    exact wHb_draft_j40 C htab a0 _ _ _ _ _ _
  refine s_blk C 19 2 [0, 1, 2, 3] (pc' := 40) (lv' := [(0, .inr (.inl (some a0))), (1, .inl x1), (2, .inl x2), (3, .inl x3)]) (st' := [.inl 1]) rfl ?_
  exact wHb_draft_j40 C htab a0 _ _ _ _ _ _
theorem cHb_draft {l : Launch} {G : GE} (htr : l.stackTraces = false) (σ : Sg) (M : Mm) (n : Nat) (a0 : Nat) (x1 : Int32) (x2 : Int32) (x3 : Int32) : ∀ o, fHb_draft a0 x1 x2 x3 M n = some o → MetX l G yX11_draft cX11_draft 5 (some .int) 8 300 [.inr (.inl (some a0)), .inl x1, .inl x2, .inl x3] (σ, M, n) ((eC rvI σ) o) :=
  c_ofX (by decide) kHb_draft htr rfl rfl fun X _ _ C htab => wHb_draft C htab a0 x1 x2 x3 _ _
def pRegion_manyOf : List BR := [(0, .iconst 0, 1, 0, 1), (1, .istore_n 2, 1, 0, 2), (2, .iconst 0, 1, 0, 3), (3, .istore_n 3, 1, 0, 4), (4, .iload_n 3, 1, 0, 5), (5, .aload_n 0, 1, 0, 6), (6, .getfield 21, 3, 0, 9), (9, .invokevirtual 32, 3, 0, 12), (12, .if_icmp .ge (33), 3, 0, 45), (15, .aload_n 0, 1, 0, 16), (16, .getfield 21, 3, 0, 19), (19, .iload_n 3, 1, 0, 20), (20, .invokevirtual 36, 3, 0, 23), (23, .checkcast 40, 3, 0, 26), (26, .getfield 42, 3, 0, 29), (29, .getfield 46, 3, 0, 32), (32, .iload_n 1, 1, 0, 33), (33, .if_icmp .ne (6), 3, 0, 39), (36, .iinc 2 (1), 3, 1, 39), (39, .iinc 3 (1), 3, 1, 42), (42, .goto (-38), 3, 0, 4), (45, .iload_n 2, 1, 0, 46), (46, .ireturn, 1, 0, 47)]
theorem kRegion_manyOf : bOK cX6_manyOf 4 pRegion_manyOf = true := by decide +kernel
def fRegion_manyOf_j39 (a0 : Nat) (k4 : Int32 → Int32 → Int32 → Mm → Option (Int32)) (x1 : Int32) (x2 : Int32) (x3 : Int32) (M : Mm) : Option (Int32) :=
  k4 x1 x2 (x3 + 1) M
theorem wRegion_manyOf_j39 {X : MC} {G : GE} {n0 : Nat} (C : CX X G RX6 cX6_manyOf pRegion_manyOf 4 (some .int) n0) (htab : ∀ z ∈ X.2.2.2.2.2.2.2.2.exceptionTable.toList, False) {σ : Sg} {M : Mm} {n : Nat} (a0 : Nat) (k4 : Int32 → Int32 → Int32 → Mm → Option (Int32)) (H4 : ∀ (x1 : Int32) (x2 : Int32) (x3 : Int32), JS X G 4 300 0 n0 (EM X G n0 5 300 (eR rvI σ M n)) (k4 x1 x2 x3 M) (σ, M, n) 4 [(0, .inr (.inl (some a0))), (1, .inl x1), (2, .inl x2), (3, .inl x3)] []) (x1 : Int32) (x2 : Int32) (x3 : Int32) : JS X G 4 300 0 n0 (EM X G n0 5 300 (eR rvI σ M n)) (fRegion_manyOf_j39 a0 k4 x1 x2 x3 M) (σ, M, n) 39 [(0, .inr (.inl (some a0))), (1, .inl x1), (2, .inl x2), (3, .inl x3)] [] := by
  unfold fRegion_manyOf_j39
  refine s_blk C 19 2 [0, 1, 2, 3] (pc' := 4) (lv' := [(0, .inr (.inl (some a0))), (1, .inl x1), (2, .inl x2), (3, .inl (x3 + 1))]) (st' := []) rfl ?_
  exact H4 _ _ _
def fRegion_manyOf_b4 (a0 : Nat) (k4 : Int32 → Int32 → Int32 → Mm → Option (Int32)) (x1 : Int32) (x2 : Int32) (x3 : Int32) (M : Mm) : Option (Int32) :=
  fgR 6 601 (some a0) M fun v1 =>
  rk 12 v1 M fun a2 =>
  bdR (fAl_size a2 M) fun v5 =>
  if v5 ≤ x3 then
    some x2
  else
    fgR 6 601 (some a0) M fun v6 =>
    rk 12 v6 M fun a7 =>
    bdR (fAl_get a7 x3 M) fun v10 =>
    fca 10 v10 M fun v11 =>
    fgR 10 1000 v11 M fun v12 =>
    fgI 4 400 v12 M fun v13 =>
    if v13 = x1 then
      fRegion_manyOf_j39 a0 k4 x1 (x2 + 1) x3 M
    else
      fRegion_manyOf_j39 a0 k4 x1 x2 x3 M
theorem wRegion_manyOf_b4 {X : MC} {G : GE} {n0 : Nat} (C : CX X G RX6 cX6_manyOf pRegion_manyOf 4 (some .int) n0) (htab : ∀ z ∈ X.2.2.2.2.2.2.2.2.exceptionTable.toList, False) {σ : Sg} {M : Mm} {n : Nat} (a0 : Nat) (k4 : Int32 → Int32 → Int32 → Mm → Option (Int32)) (H4 : ∀ (x1 : Int32) (x2 : Int32) (x3 : Int32), JS X G 4 300 0 n0 (EM X G n0 5 300 (eR rvI σ M n)) (k4 x1 x2 x3 M) (σ, M, n) 4 [(0, .inr (.inl (some a0))), (1, .inl x1), (2, .inl x2), (3, .inl x3)] []) (x1 : Int32) (x2 : Int32) (x3 : Int32) : JS X G 4 300 0 n0 (EM X G n0 5 300 (eR rvI σ M n)) (fRegion_manyOf_b4 a0 k4 x1 x2 x3 M) (σ, M, n) 4 [(0, .inr (.inl (some a0))), (1, .inl x1), (2, .inl x2), (3, .inl x3)] [] := by
  unfold fRegion_manyOf_b4
  refine s_blk C 4 2 [0, 1, 2, 3] (pc' := 6) (lv' := [(0, .inr (.inl (some a0))), (1, .inl x1), (2, .inl x2), (3, .inl x3)]) (st' := [.inr (.inl (some a0)), .inl x3]) rfl ?_
  refine s_gR C 6 rfl fl_X6_21 rfl rfl (fun v1 => ?_)
  refine s_rk (fun a2 ha3 hk4 => ?_)
  subst ha3
  refine s_RI (CE_EM _ _ _ _ _ _) (st := [.inl x3]) (fun o ho => j_callV (As := []) (st := [.inl x3]) (b := a2) C 7 rfl mf_Al_size ml_X6_32 rfl (recv_K C (by decide) (by decide) rfl hk4) (by decide) (by decide) (Nat.le_refl _) rfl (cAl_size (CX_tr C) σ M n a2 o ho)) (fun v5 => ?_)
  refine s_icge C 8 rfl (fun _ => ?_) (fun _ => ?_)
  · refine s_blk C 21 1 [] (pc' := 46) (lv' := []) (st' := [.inl x2]) rfl ?_
    exact s_iret C 22 rfl rfl
  refine s_blk C 9 1 [0, 1, 2, 3] (pc' := 16) (lv' := [(0, .inr (.inl (some a0))), (1, .inl x1), (2, .inl x2), (3, .inl x3)]) (st' := [.inr (.inl (some a0))]) rfl ?_
  refine s_gR C 10 rfl fl_X6_21 rfl rfl (fun v6 => ?_)
  refine s_blk C 11 1 [0, 1, 2, 3] (pc' := 20) (lv' := [(0, .inr (.inl (some a0))), (1, .inl x1), (2, .inl x2), (3, .inl x3)]) (st' := [.inl x3, .inr (.inl v6)]) rfl ?_
  refine s_rk (fun a7 ha8 hk9 => ?_)
  subst ha8
  refine s_RR (CE_EM _ _ _ _ _ _) (st := []) (fun o ho => j_callV (As := [.inl x3]) (st := []) (b := a7) C 12 rfl mf_Al_get ml_X6_36 rfl (recv_K C (by decide) (by decide) rfl hk9) (by decide) (by decide) (Nat.le_refl _) rfl (cAl_get (CX_tr C) σ M n a7 x3 o ho)) (fun v10 => ?_)
  refine s_cast C 13 rfl rfl (by decide) (by decide) cw_X6_40 (fun v11 => ?_)
  refine s_gR C 14 rfl fl_X6_42 rfl rfl (fun v12 => ?_)
  refine s_gI C 15 rfl fl_X6_46 rfl rfl (fun v13 => ?_)
  refine s_blk C 16 1 [0, 1, 2, 3] (pc' := 33) (lv' := [(0, .inr (.inl (some a0))), (1, .inl x1), (2, .inl x2), (3, .inl x3)]) (st' := [.inl x1, .inl v13]) rfl ?_
  refine s_icne C 17 rfl (fun _ => ?_) (fun _ => ?_)
  · refine s_blk C 18 1 [0, 1, 2, 3] (pc' := 39) (lv' := [(0, .inr (.inl (some a0))), (1, .inl x1), (2, .inl (x2 + 1)), (3, .inl x3)]) (st' := []) rfl ?_
    exact wRegion_manyOf_j39 C htab a0 k4 H4 _ _ _
  exact wRegion_manyOf_j39 C htab a0 k4 H4 _ _ _
def fRegion_manyOf_l4 (a0 : Nat) (fu : Nat) : Int32 → Int32 → Int32 → Mm → Option (Int32) := Nat.rec (fun x1 x2 x3 M => none) (fun _ k => fRegion_manyOf_b4 a0 k) fu
theorem wRegion_manyOf_l4 {X : MC} {G : GE} {n0 : Nat} (C : CX X G RX6 cX6_manyOf pRegion_manyOf 4 (some .int) n0) (htab : ∀ z ∈ X.2.2.2.2.2.2.2.2.exceptionTable.toList, False) {σ : Sg} {M : Mm} {n : Nat} (a0 : Nat) : ∀ (fu : Nat) (x1 : Int32) (x2 : Int32) (x3 : Int32), JS X G 4 300 0 n0 (EM X G n0 5 300 (eR rvI σ M n)) (fRegion_manyOf_l4 a0 fu x1 x2 x3 M) (σ, M, n) 4 [(0, .inr (.inl (some a0))), (1, .inl x1), (2, .inl x2), (3, .inl x3)] [] := by
  intro fu
  induction fu with
  | zero => intro x1 x2 x3; exact s_none
  | succ fu ih => intro x1 x2 x3; exact wRegion_manyOf_b4 C htab a0 (fRegion_manyOf_l4 a0 fu) ih _ _ _
def fRegion_manyOf (a0 : Nat) (x1 : Int32) (M : Mm) : Option (Int32) :=
  fRegion_manyOf_l4 a0 FU x1 0 0 M
theorem wRegion_manyOf {X : MC} {G : GE} {n0 : Nat} (C : CX X G RX6 cX6_manyOf pRegion_manyOf 4 (some .int) n0) (htab : ∀ z ∈ X.2.2.2.2.2.2.2.2.exceptionTable.toList, False) {σ : Sg} {M : Mm} {n : Nat} (a0 : Nat) (x1 : Int32) : JS X G 4 300 0 n0 (EM X G n0 5 300 (eR rvI σ M n)) (fRegion_manyOf a0 x1 M) (σ, M, n) 0 [(0, .inr (.inl (some a0))), (1, .inl x1)] [] := by
  unfold fRegion_manyOf
  refine s_blk C 0 4 [0, 1, 2, 3] (pc' := 4) (lv' := [(0, .inr (.inl (some a0))), (1, .inl x1), (2, .inl 0), (3, .inl 0)]) (st' := []) rfl ?_
  exact wRegion_manyOf_l4 C htab a0 FU _ _ _
theorem cRegion_manyOf {l : Launch} {G : GE} (htr : l.stackTraces = false) (σ : Sg) (M : Mm) (n : Nat) (a0 : Nat) (x1 : Int32) : ∀ o, fRegion_manyOf a0 x1 M = some o → MetX l G yX6_manyOf cX6_manyOf 4 (some .int) 5 300 [.inr (.inl (some a0)), .inl x1] (σ, M, n) ((eR rvI σ M n) o) :=
  c_ofX (by decide) kRegion_manyOf htr rfl rfl fun X _ _ C htab => wRegion_manyOf C htab a0 x1
def pHb_drop : List BR := [(0, .aload_n 0, 1, 0, 1), (1, .iload_n 1, 1, 0, 2), (2, .invokevirtual 65, 3, 0, 5), (5, .astore 4, 2, 0, 7), (7, .aload 4, 2, 0, 9), (9, .iload_n 2, 1, 0, 10), (10, .iload_n 3, 1, 0, 11), (11, .invokestatic 91, 3, 0, 14), (14, .astore 5, 2, 0, 16), (16, .aload 5, 2, 0, 18), (18, .aload_n 0, 1, 0, 19), (19, .getfield 95, 3, 0, 22), (22, .invokevirtual 98, 3, 0, 25), (25, .ifCond .ne (7), 3, 0, 32), (28, .iconst 1, 1, 1, 29), (29, .goto (4), 3, 0, 33), (32, .iconst 0, 1, 0, 33), (33, .invokestatic 54, 3, 0, 36), (36, .aload 4, 2, 0, 38), (38, .aload 5, 2, 0, 40), (40, .invokevirtual 104, 3, 0, 43), (43, .aload 4, 2, 0, 45), (45, .iload_n 2, 1, 0, 46), (46, .invokevirtual 108, 3, 0, 49), (49, .ireturn, 1, 0, 50)]
theorem kHb_drop : bOK cX11_drop 6 pHb_drop = true := by decide +kernel
def fHb_drop_j33 (a0 : Nat) (x2 : Int32) (r4 : Option Nat) (r5 : Option Nat) (s0 : Int32) (M : Mm) (n : Nat) : Option ((Int32 ⊕ Nat) × Mm × Nat) :=
  bdC (fHb_checkState s0 M n) n fun v1 M2 n3 =>
  rk 6 r4 M2 fun a4 =>
  bdW (fRegion_takeOut a4 r5 M2) fun v7 M8 =>
  rk 6 r4 M8 fun a10 =>
  bdR (fRegion_manyOf a10 x2 M8) fun v11 =>
  some (.inl v11, M8, n3)
theorem wHb_drop_j33 {X : MC} {G : GE} {n0 : Nat} (C : CX X G RX11 cX11_drop pHb_drop 6 (some .int) n0) (htab : ∀ z ∈ X.2.2.2.2.2.2.2.2.exceptionTable.toList, False) {σ : Sg} (a0 : Nat) (x2 : Int32) (r4 : Option Nat) (r5 : Option Nat) (s0 : Int32) (M : Mm) (n : Nat) : JS X G 6 300 0 n0 (EM X G n0 8 300 (eC rvI σ)) (fHb_drop_j33 a0 x2 r4 r5 s0 M n) (σ, M, n) 33 [(2, .inl x2), (4, .inr (.inl r4)), (5, .inr (.inl r5))] [.inl s0] := by
  unfold fHb_drop_j33
  refine s_CU C htab (st := []) (fun o ho => j_callS (As := [.inl s0]) (st := []) C 17 rfl mf_Hb_checkState ml_X11_54 rfl (by decide) (by decide) (Nat.le_refl _) rfl (cHb_checkState (CX_tr C) σ M n s0 o ho)) (fun v1 M2 n3 _ => ?_)
  refine s_blk C 18 2 [2, 4] (pc' := 40) (lv' := [(2, .inl x2), (4, .inr (.inl r4))]) (st' := [.inr (.inl r5), .inr (.inl r4)]) rfl ?_
  refine s_rk (fun a4 ha5 hk6 => ?_)
  subst ha5
  refine s_WU (CE_EM _ _ _ _ _ _) (st := []) (fun o ho => j_callV (As := [.inr (.inl r5)]) (st := []) (b := a4) C 20 rfl mf_Region_takeOut ml_X11_104 rfl (recv_K C (by decide) (by decide) rfl hk6) (by decide) (by decide) (Nat.le_refl _) rfl (cRegion_takeOut (CX_tr C) σ M2 n3 a4 r5 o ho)) (fun v7 M8 => ?_)
  refine s_blk C 21 2 [] (pc' := 46) (lv' := []) (st' := [.inl x2, .inr (.inl (some a4))]) rfl ?_
  refine s_rks (fun hk9 => ?_)
  refine s_RI (CE_EM _ _ _ _ _ _) (st := []) (fun o ho => j_callV (As := [.inl x2]) (st := []) (b := a4) C 23 rfl mf_Region_manyOf ml_X11_108 rfl (recv_K C (by decide) (by decide) rfl hk9) (by decide) (by decide) (Nat.le_refl _) rfl (cRegion_manyOf (CX_tr C) σ M8 n3 a4 x2 o ho)) (fun v11 => ?_)
  exact s_iret C 24 rfl rfl
def fHb_drop (a0 : Nat) (x1 : Int32) (x2 : Int32) (x3 : Int32) (M : Mm) (n : Nat) : Option ((Int32 ⊕ Nat) × Mm × Nat) :=
  rk 11 (some a0) M fun _ =>
  bdC (fHb_regionOf a0 x1 M n) n fun v2 M3 n4 =>
  bdC (fHb_versionOf v2 x2 x3 M3 n4) n4 fun v5 M6 n7 =>
  fgI 11 1109 (some a0) M6 fun v8 =>
  rk 10 v5 M6 fun a9 =>
  bdR (fVersion_isLocked a9 v8 M6) fun v12 =>
  if v12 = 0 then
    fHb_drop_j33 a0 x2 v2 v5 1 M6 n7
  else
    fHb_drop_j33 a0 x2 v2 v5 0 M6 n7
theorem wHb_drop {X : MC} {G : GE} {n0 : Nat} (C : CX X G RX11 cX11_drop pHb_drop 6 (some .int) n0) (htab : ∀ z ∈ X.2.2.2.2.2.2.2.2.exceptionTable.toList, False) {σ : Sg} (a0 : Nat) (x1 : Int32) (x2 : Int32) (x3 : Int32) (M : Mm) (n : Nat) : JS X G 6 300 0 n0 (EM X G n0 8 300 (eC rvI σ)) (fHb_drop a0 x1 x2 x3 M n) (σ, M, n) 0 [(0, .inr (.inl (some a0))), (1, .inl x1), (2, .inl x2), (3, .inl x3)] [] := by
  unfold fHb_drop
  refine s_blk C 0 2 [0, 2, 3] (pc' := 2) (lv' := [(0, .inr (.inl (some a0))), (2, .inl x2), (3, .inl x3)]) (st' := [.inl x1, .inr (.inl (some a0))]) rfl ?_
  refine s_rks (fun hk1 => ?_)
  refine s_CR C htab (st := []) (fun o ho => j_callV (As := [.inl x1]) (st := []) (b := a0) C 2 rfl mf_Hb_regionOf ml_X11_65 rfl (recv_K C (by decide) (by decide) rfl hk1) (by decide) (by decide) (Nat.le_refl _) rfl (cHb_regionOf (CX_tr C) σ M n a0 x1 o ho)) (fun v2 M3 n4 _ => ?_)
  refine s_blk C 3 4 [0, 2, 4] (pc' := 11) (lv' := [(0, .inr (.inl (some a0))), (2, .inl x2), (4, .inr (.inl v2))]) (st' := [.inl x3, .inl x2, .inr (.inl v2)]) rfl ?_
  refine s_CR C htab (st := []) (fun o ho => j_callS (As := [.inr (.inl v2), .inl x2, .inl x3]) (st := []) C 7 rfl mf_Hb_versionOf ml_X11_91 rfl (by decide) (by decide) (Nat.le_refl _) rfl (cHb_versionOf (CX_tr C) σ M3 n4 v2 x2 x3 o ho)) (fun v5 M6 n7 _ => ?_)
  refine s_blk C 8 3 [2, 4, 5] (pc' := 19) (lv' := [(2, .inl x2), (4, .inr (.inl v2)), (5, .inr (.inl v5))]) (st' := [.inr (.inl (some a0)), .inr (.inl v5)]) rfl ?_
  refine s_gI C 11 rfl fl_X11_95 rfl rfl (fun v8 => ?_)
  refine s_rk (fun a9 ha10 hk11 => ?_)
  subst ha10
  refine s_RI (CE_EM _ _ _ _ _ _) (st := []) (fun o ho => j_callV (As := [.inl v8]) (st := []) (b := a9) C 12 rfl mf_Version_isLocked ml_X11_98 rfl (recv_K C (by decide) (by decide) rfl hk11) (by decide) (by decide) (Nat.le_refl _) rfl (cVersion_isLocked (CX_tr C) σ M6 n7 a9 v8 o ho)) (fun v12 => ?_)
  refine s_ine C 13 rfl (fun _ => ?_) (fun _ => ?_)
  · refine s_blk C 14 2 [2, 4, 5] (pc' := 33) (lv' := [(2, .inl x2), (4, .inr (.inl v2)), (5, .inr (.inl (some a9)))]) (st' := [.inl 1]) rfl ?_
    exact wHb_drop_j33 C htab a0 _ _ _ _ _ _
  refine s_blk C 16 1 [2, 4, 5] (pc' := 33) (lv' := [(2, .inl x2), (4, .inr (.inl v2)), (5, .inr (.inl (some a9)))]) (st' := [.inl 0]) rfl ?_
  exact wHb_drop_j33 C htab a0 _ _ _ _ _ _
theorem cHb_drop {l : Launch} {G : GE} (htr : l.stackTraces = false) (σ : Sg) (M : Mm) (n : Nat) (a0 : Nat) (x1 : Int32) (x2 : Int32) (x3 : Int32) : ∀ o, fHb_drop a0 x1 x2 x3 M n = some o → MetX l G yX11_drop cX11_drop 6 (some .int) 8 300 [.inr (.inl (some a0)), .inl x1, .inl x2, .inl x3] (σ, M, n) ((eC rvI σ) o) :=
  c_ofX (by decide) kHb_drop htr rfl rfl fun X _ _ C htab => wHb_drop C htab a0 x1 x2 x3 _ _
def pHb_openUpload : List BR := [(0, .iload_n 1, 1, 0, 1), (1, .ifCond .lt (18), 3, 0, 19), (4, .iload_n 1, 1, 0, 5), (5, .aload_n 0, 1, 0, 6), (6, .getfield 35, 3, 0, 9), (9, .invokevirtual 136, 3, 0, 12), (12, .if_icmp .ge (7), 3, 0, 19), (15, .iconst 1, 1, 1, 16), (16, .goto (4), 3, 0, 20), (19, .iconst 0, 1, 0, 20), (20, .invokestatic 115, 3, 0, 23), (23, .aload_n 0, 1, 0, 24), (24, .getfield 35, 3, 0, 27), (27, .iload_n 1, 1, 0, 28), (28, .invokevirtual 315, 3, 0, 31), (31, .checkcast 139, 3, 0, 34), (34, .astore_n 2, 1, 0, 35), (35, .aload_n 2, 1, 0, 36), (36, .getfield 160, 3, 0, 39), (39, .ifCond .ne (7), 3, 0, 46), (42, .iconst 1, 1, 1, 43), (43, .goto (4), 3, 0, 47), (46, .iconst 0, 1, 0, 47), (47, .invokestatic 115, 3, 0, 50), (50, .aload_n 2, 1, 0, 51), (51, .areturn, 1, 0, 52)]
theorem kHb_openUpload : bOK cX11_openUpload 3 pHb_openUpload = true := by decide +kernel
def fHb_openUpload_j47 (a0 : Nat) (r2 : Option Nat) (s0 : Int32) (M : Mm) (n : Nat) : Option ((Option Nat ⊕ Nat) × Mm × Nat) :=
  bdC (fHb_checkIndex s0 M n) n fun v1 M2 n3 =>
  some (.inl r2, M2, n3)
theorem wHb_openUpload_j47 {X : MC} {G : GE} {n0 : Nat} (C : CX X G RX11 cX11_openUpload pHb_openUpload 3 (some (.object "BlobHarbor$Upload")) n0) (htab : ∀ z ∈ X.2.2.2.2.2.2.2.2.exceptionTable.toList, False) {σ : Sg} (a0 : Nat) (r2 : Option Nat) (s0 : Int32) (M : Mm) (n : Nat) : JS X G 3 300 0 n0 (EM X G n0 7 300 (eC rvR σ)) (fHb_openUpload_j47 a0 r2 s0 M n) (σ, M, n) 47 [(2, .inr (.inl r2))] [.inl s0] := by
  unfold fHb_openUpload_j47
  refine s_CU C htab (st := []) (fun o ho => j_callS (As := [.inl s0]) (st := []) C 23 rfl mf_Hb_checkIndex ml_X11_115 rfl (by decide) (by decide) (Nat.le_refl _) rfl (cHb_checkIndex (CX_tr C) σ M n s0 o ho)) (fun v1 M2 n3 _ => ?_)
  refine s_blk C 24 1 [] (pc' := 51) (lv' := []) (st' := [.inr (.inl r2)]) rfl ?_
  exact s_aret (Or.inl ⟨_, rfl⟩) C 25 rfl rfl
def fHb_openUpload_j20 (a0 : Nat) (x1 : Int32) (s0 : Int32) (M : Mm) (n : Nat) : Option ((Option Nat ⊕ Nat) × Mm × Nat) :=
  bdC (fHb_checkIndex s0 M n) n fun v1 M2 n3 =>
  fgR 11 1105 (some a0) M2 fun v4 =>
  rk 12 v4 M2 fun a5 =>
  bdR (fAl_get a5 x1 M2) fun v8 =>
  fca 9 v8 M2 fun v9 =>
  fgI 9 903 v9 M2 fun v10 =>
  if v10 = 0 then
    fHb_openUpload_j47 a0 v9 1 M2 n3
  else
    fHb_openUpload_j47 a0 v9 0 M2 n3
theorem wHb_openUpload_j20 {X : MC} {G : GE} {n0 : Nat} (C : CX X G RX11 cX11_openUpload pHb_openUpload 3 (some (.object "BlobHarbor$Upload")) n0) (htab : ∀ z ∈ X.2.2.2.2.2.2.2.2.exceptionTable.toList, False) {σ : Sg} (a0 : Nat) (x1 : Int32) (s0 : Int32) (M : Mm) (n : Nat) : JS X G 3 300 0 n0 (EM X G n0 7 300 (eC rvR σ)) (fHb_openUpload_j20 a0 x1 s0 M n) (σ, M, n) 20 [(0, .inr (.inl (some a0))), (1, .inl x1)] [.inl s0] := by
  unfold fHb_openUpload_j20
  refine s_CU C htab (st := []) (fun o ho => j_callS (As := [.inl s0]) (st := []) C 10 rfl mf_Hb_checkIndex ml_X11_115 rfl (by decide) (by decide) (Nat.le_refl _) rfl (cHb_checkIndex (CX_tr C) σ M n s0 o ho)) (fun v1 M2 n3 _ => ?_)
  refine s_blk C 11 1 [1] (pc' := 24) (lv' := [(1, .inl x1)]) (st' := [.inr (.inl (some a0))]) rfl ?_
  refine s_gR C 12 rfl fl_X11_35 rfl rfl (fun v4 => ?_)
  refine s_blk C 13 1 [] (pc' := 28) (lv' := []) (st' := [.inl x1, .inr (.inl v4)]) rfl ?_
  refine s_rk (fun a5 ha6 hk7 => ?_)
  subst ha6
  refine s_RR (CE_EM _ _ _ _ _ _) (st := []) (fun o ho => j_callV (As := [.inl x1]) (st := []) (b := a5) C 14 rfl mf_Al_get ml_X11_315 rfl (recv_K C (by decide) (by decide) rfl hk7) (by decide) (by decide) (Nat.le_refl _) rfl (cAl_get (CX_tr C) σ M2 n3 a5 x1 o ho)) (fun v8 => ?_)
  refine s_cast C 15 rfl rfl (by decide) (by decide) cw_X11_139 (fun v9 => ?_)
  refine s_blk C 16 2 [2] (pc' := 36) (lv' := [(2, .inr (.inl v9))]) (st' := [.inr (.inl v9)]) rfl ?_
  refine s_gI C 18 rfl fl_X11_160 rfl rfl (fun v10 => ?_)
  refine s_ine C 19 rfl (fun _ => ?_) (fun _ => ?_)
  · refine s_blk C 20 2 [2] (pc' := 47) (lv' := [(2, .inr (.inl v9))]) (st' := [.inl 1]) rfl ?_
    exact wHb_openUpload_j47 C htab a0 _ _ _ _
  refine s_blk C 22 1 [2] (pc' := 47) (lv' := [(2, .inr (.inl v9))]) (st' := [.inl 0]) rfl ?_
  exact wHb_openUpload_j47 C htab a0 _ _ _ _
def fHb_openUpload_j19 (a0 : Nat) (x1 : Int32) (M : Mm) (n : Nat) : Option ((Option Nat ⊕ Nat) × Mm × Nat) :=
  fHb_openUpload_j20 a0 x1 0 M n
theorem wHb_openUpload_j19 {X : MC} {G : GE} {n0 : Nat} (C : CX X G RX11 cX11_openUpload pHb_openUpload 3 (some (.object "BlobHarbor$Upload")) n0) (htab : ∀ z ∈ X.2.2.2.2.2.2.2.2.exceptionTable.toList, False) {σ : Sg} (a0 : Nat) (x1 : Int32) (M : Mm) (n : Nat) : JS X G 3 300 0 n0 (EM X G n0 7 300 (eC rvR σ)) (fHb_openUpload_j19 a0 x1 M n) (σ, M, n) 19 [(0, .inr (.inl (some a0))), (1, .inl x1)] [] := by
  unfold fHb_openUpload_j19
  refine s_blk C 9 1 [0, 1] (pc' := 20) (lv' := [(0, .inr (.inl (some a0))), (1, .inl x1)]) (st' := [.inl 0]) rfl ?_
  exact wHb_openUpload_j20 C htab a0 _ _ _ _
def fHb_openUpload (a0 : Nat) (x1 : Int32) (M : Mm) (n : Nat) : Option ((Option Nat ⊕ Nat) × Mm × Nat) :=
  if x1 < 0 then
    fHb_openUpload_j19 a0 x1 M n
  else
    fgR 11 1105 (some a0) M fun v1 =>
    rk 12 v1 M fun a2 =>
    bdR (fAl_size a2 M) fun v5 =>
    if v5 ≤ x1 then
      fHb_openUpload_j19 a0 x1 M n
    else
      fHb_openUpload_j20 a0 x1 1 M n
theorem wHb_openUpload {X : MC} {G : GE} {n0 : Nat} (C : CX X G RX11 cX11_openUpload pHb_openUpload 3 (some (.object "BlobHarbor$Upload")) n0) (htab : ∀ z ∈ X.2.2.2.2.2.2.2.2.exceptionTable.toList, False) {σ : Sg} (a0 : Nat) (x1 : Int32) (M : Mm) (n : Nat) : JS X G 3 300 0 n0 (EM X G n0 7 300 (eC rvR σ)) (fHb_openUpload a0 x1 M n) (σ, M, n) 0 [(0, .inr (.inl (some a0))), (1, .inl x1)] [] := by
  unfold fHb_openUpload
  refine s_blk C 0 1 [0, 1] (pc' := 1) (lv' := [(0, .inr (.inl (some a0))), (1, .inl x1)]) (st' := [.inl x1]) rfl ?_
  refine s_ilt C 1 rfl (fun _ => ?_) (fun _ => ?_)
  · exact wHb_openUpload_j19 C htab a0 _ _ _
  refine s_blk C 2 2 [0, 1] (pc' := 6) (lv' := [(0, .inr (.inl (some a0))), (1, .inl x1)]) (st' := [.inr (.inl (some a0)), .inl x1]) rfl ?_
  refine s_gR C 4 rfl fl_X11_35 rfl rfl (fun v1 => ?_)
  refine s_rk (fun a2 ha3 hk4 => ?_)
  subst ha3
  refine s_RI (CE_EM _ _ _ _ _ _) (st := [.inl x1]) (fun o ho => j_callV (As := []) (st := [.inl x1]) (b := a2) C 5 rfl mf_Al_size ml_X11_136 rfl (recv_K C (by decide) (by decide) rfl hk4) (by decide) (by decide) (Nat.le_refl _) rfl (cAl_size (CX_tr C) σ M n a2 o ho)) (fun v5 => ?_)
  refine s_icge C 6 rfl (fun _ => ?_) (fun _ => ?_)
  · exact wHb_openUpload_j19 C htab a0 _ _ _
  refine s_blk C 7 2 [0, 1] (pc' := 20) (lv' := [(0, .inr (.inl (some a0))), (1, .inl x1)]) (st' := [.inl 1]) rfl ?_
  exact wHb_openUpload_j20 C htab a0 _ _ _ _
theorem cHb_openUpload {l : Launch} {G : GE} (htr : l.stackTraces = false) (σ : Sg) (M : Mm) (n : Nat) (a0 : Nat) (x1 : Int32) : ∀ o, fHb_openUpload a0 x1 M n = some o → MetX l G yX11_openUpload cX11_openUpload 3 (some (.object "BlobHarbor$Upload")) 7 300 [.inr (.inl (some a0)), .inl x1] (σ, M, n) ((eC rvR σ) o) :=
  c_ofX (by decide) kHb_openUpload htr rfl rfl fun X _ _ C htab => wHb_openUpload C htab a0 x1 _ _
def pUpload_joinInto : List BR := [(0, .aload_n 1, 1, 0, 1), (1, .invokevirtual 33, 3, 0, 4), (4, .iconst 0, 1, 0, 5), (5, .istore_n 2, 1, 0, 6), (6, .iload_n 2, 1, 0, 7), (7, .aload_n 0, 1, 0, 8), (8, .getfield 11, 3, 0, 11), (11, .arraylength, 1, 0, 12), (12, .if_icmp .ge (19), 3, 0, 31), (15, .aload_n 1, 1, 0, 16), (16, .aload_n 0, 1, 0, 17), (17, .getfield 11, 3, 0, 20), (20, .iload_n 2, 1, 0, 21), (21, .aaload, 1, 0, 22), (22, .invokevirtual 36, 3, 0, 25), (25, .iinc 2 (1), 3, 1, 28), (28, .goto (-22), 3, 0, 6), (31, .return_, 1, 0, 32)]
theorem kUpload_joinInto : bOK cX9_joinInto 3 pUpload_joinInto = true := by decide +kernel
def fUpload_joinInto_b6 (a0 : Nat) (k6 : Option Nat → Int32 → Mm → Option (Unit × Mm)) (r1 : Option Nat) (x2 : Int32) (M : Mm) : Option (Unit × Mm) :=
  fgR 9 902 (some a0) M fun v1 =>
  aln v1 M fun v2 =>
  if v2 ≤ x2 then
    some ((), M)
  else
    fgR 9 902 (some a0) M fun v3 =>
    alP 24 v3 x2 M fun v4 =>
    rk 1 r1 M fun a5 =>
    bdW (fBytes_appendAll a5 v4 M) fun v8 M9 =>
    k6 r1 (x2 + 1) M9
theorem wUpload_joinInto_b6 {X : MC} {G : GE} {n0 : Nat} (C : CX X G RX9 cX9_joinInto pUpload_joinInto 3 none n0) (htab : ∀ z ∈ X.2.2.2.2.2.2.2.2.exceptionTable.toList, False) {σ : Sg} {n : Nat} (a0 : Nat) (k6 : Option Nat → Int32 → Mm → Option (Unit × Mm)) (H6 : ∀ (r1 : Option Nat) (x2 : Int32) (M : Mm), JS X G 3 300 0 n0 (EM X G n0 4 300 (eW rvU σ n)) (k6 r1 x2 M) (σ, M, n) 6 [(0, .inr (.inl (some a0))), (1, .inr (.inl r1)), (2, .inl x2)] []) (r1 : Option Nat) (x2 : Int32) (M : Mm) : JS X G 3 300 0 n0 (EM X G n0 4 300 (eW rvU σ n)) (fUpload_joinInto_b6 a0 k6 r1 x2 M) (σ, M, n) 6 [(0, .inr (.inl (some a0))), (1, .inr (.inl r1)), (2, .inl x2)] [] := by
  unfold fUpload_joinInto_b6
  refine s_blk C 4 2 [0, 1, 2] (pc' := 8) (lv' := [(0, .inr (.inl (some a0))), (1, .inr (.inl r1)), (2, .inl x2)]) (st' := [.inr (.inl (some a0)), .inl x2]) rfl ?_
  refine s_gR C 6 rfl fl_X9_11 rfl rfl (fun v1 => ?_)
  refine s_len C 7 rfl (fun v2 => ?_)
  refine s_icge C 8 rfl (fun _ => ?_) (fun _ => ?_)
  · exact s_vret C 17 rfl rfl
  refine s_blk C 9 2 [0, 1, 2] (pc' := 17) (lv' := [(0, .inr (.inl (some a0))), (1, .inr (.inl r1)), (2, .inl x2)]) (st' := [.inr (.inl (some a0)), .inr (.inl r1)]) rfl ?_
  refine s_gR C 11 rfl fl_X9_11 rfl rfl (fun v3 => ?_)
  refine s_blk C 12 1 [0, 1, 2] (pc' := 21) (lv' := [(0, .inr (.inl (some a0))), (1, .inr (.inl r1)), (2, .inl x2)]) (st' := [.inl x2, .inr (.inl v3), .inr (.inl r1)]) rfl ?_
  refine s_ldY C 13 rfl (fun v4 => ?_)
  refine s_rk (fun a5 ha6 hk7 => ?_)
  subst ha6
  refine s_WU (CE_EM _ _ _ _ _ _) (st := []) (fun o ho => j_callV (As := [.inr (.inl v4)]) (st := []) (b := a5) C 14 rfl mf_Bytes_appendAll ml_X9_36 rfl (recv_K C (by decide) (by decide) rfl hk7) (by decide) (by decide) (Nat.le_refl _) rfl (cBytes_appendAll (CX_tr C) σ M n a5 v4 o ho)) (fun v8 M9 => ?_)
  refine s_blk C 15 2 [0, 1, 2] (pc' := 6) (lv' := [(0, .inr (.inl (some a0))), (1, .inr (.inl (some a5))), (2, .inl (x2 + 1))]) (st' := []) rfl ?_
  exact H6 _ _ _
def fUpload_joinInto_l6 (a0 : Nat) (fu : Nat) : Option Nat → Int32 → Mm → Option (Unit × Mm) := Nat.rec (fun r1 x2 M => none) (fun _ k => fUpload_joinInto_b6 a0 k) fu
theorem wUpload_joinInto_l6 {X : MC} {G : GE} {n0 : Nat} (C : CX X G RX9 cX9_joinInto pUpload_joinInto 3 none n0) (htab : ∀ z ∈ X.2.2.2.2.2.2.2.2.exceptionTable.toList, False) {σ : Sg} {n : Nat} (a0 : Nat) : ∀ (fu : Nat) (r1 : Option Nat) (x2 : Int32) (M : Mm), JS X G 3 300 0 n0 (EM X G n0 4 300 (eW rvU σ n)) (fUpload_joinInto_l6 a0 fu r1 x2 M) (σ, M, n) 6 [(0, .inr (.inl (some a0))), (1, .inr (.inl r1)), (2, .inl x2)] [] := by
  intro fu
  induction fu with
  | zero => intro r1 x2 M; exact s_none
  | succ fu ih => intro r1 x2 M; exact wUpload_joinInto_b6 C htab a0 (fUpload_joinInto_l6 a0 fu) ih _ _ _
def fUpload_joinInto (a0 : Nat) (r1 : Option Nat) (M : Mm) : Option (Unit × Mm) :=
  rk 1 r1 M fun a1 =>
  bdW (fBytes_makeEmpty a1 M) fun v4 M5 =>
  fUpload_joinInto_l6 a0 FU r1 0 M5
theorem wUpload_joinInto {X : MC} {G : GE} {n0 : Nat} (C : CX X G RX9 cX9_joinInto pUpload_joinInto 3 none n0) (htab : ∀ z ∈ X.2.2.2.2.2.2.2.2.exceptionTable.toList, False) {σ : Sg} {n : Nat} (a0 : Nat) (r1 : Option Nat) (M : Mm) : JS X G 3 300 0 n0 (EM X G n0 4 300 (eW rvU σ n)) (fUpload_joinInto a0 r1 M) (σ, M, n) 0 [(0, .inr (.inl (some a0))), (1, .inr (.inl r1))] [] := by
  unfold fUpload_joinInto
  refine s_blk C 0 1 [0, 1] (pc' := 1) (lv' := [(0, .inr (.inl (some a0))), (1, .inr (.inl r1))]) (st' := [.inr (.inl r1)]) rfl ?_
  refine s_rk (fun a1 ha2 hk3 => ?_)
  subst ha2
  refine s_WU (CE_EM _ _ _ _ _ _) (st := []) (fun o ho => j_callV (As := []) (st := []) (b := a1) C 1 rfl mf_Bytes_makeEmpty ml_X9_33 rfl (recv_K C (by decide) (by decide) rfl hk3) (by decide) (by decide) (Nat.le_refl _) rfl (cBytes_makeEmpty (CX_tr C) σ M n a1 o ho)) (fun v4 M5 => ?_)
  refine s_blk C 2 2 [0, 1, 2] (pc' := 6) (lv' := [(0, .inr (.inl (some a0))), (1, .inr (.inl (some a1))), (2, .inl 0)]) (st' := []) rfl ?_
  exact wUpload_joinInto_l6 C htab a0 FU _ _ _
theorem cUpload_joinInto {l : Launch} {G : GE} (htr : l.stackTraces = false) (σ : Sg) (M : Mm) (n : Nat) (a0 : Nat) (r1 : Option Nat) : ∀ o, fUpload_joinInto a0 r1 M = some o → MetX l G yX9_joinInto cX9_joinInto 3 none 4 300 [.inr (.inl (some a0)), .inr (.inl r1)] (σ, M, n) ((eW rvU σ n) o) :=
  c_ofX (by decide) kUpload_joinInto htr rfl rfl fun X _ _ C htab => wUpload_joinInto C htab a0 r1 _
def pHb_finish : List BR := [(0, .aload_n 0, 1, 0, 1), (1, .iload_n 1, 1, 0, 2), (2, .invokevirtual 148, 3, 0, 5), (5, .astore_n 3, 1, 0, 6), (6, .iload_n 2, 1, 0, 7), (7, .ifCond .eq (10), 3, 0, 17), (10, .aload_n 3, 1, 0, 11), (11, .iconst 1, 1, 1, 12), (12, .putfield 160, 3, 0, 15), (15, .iconst 0, 1, 0, 16), (16, .ireturn, 1, 0, 17), (17, .aload_n 3, 1, 0, 18), (18, .aload_n 0, 1, 0, 19), (19, .getfield 26, 3, 0, 22), (22, .invokevirtual 164, 3, 0, 25), (25, .aload_n 0, 1, 0, 26), (26, .getfield 26, 3, 0, 29), (29, .getfield 50, 3, 0, 32), (32, .ifCond .le (7), 3, 0, 39), (35, .iconst 1, 1, 1, 36), (36, .goto (4), 3, 0, 40), (39, .iconst 0, 1, 0, 40), (40, .invokestatic 54, 3, 0, 43), (43, .aload_n 0, 1, 0, 44), (44, .aload_n 3, 1, 0, 45), (45, .getfield 168, 3, 0, 48), (48, .aload_n 3, 1, 0, 49), (49, .getfield 171, 3, 0, 52), (52, .aload_n 0, 1, 0, 53), (53, .getfield 26, 3, 0, 56), (56, .invokevirtual 83, 3, 0, 59), (59, .istore 4, 2, 0, 61), (61, .aload_n 3, 1, 0, 62), (62, .iconst 1, 1, 1, 63), (63, .putfield 160, 3, 0, 66), (66, .iload 4, 2, 0, 68), (68, .ireturn, 1, 0, 69)]
theorem kHb_finish : bOK cX11_finish 5 pHb_finish = true := by decide +kernel
def fHb_finish_j40 (a0 : Nat) (r3 : Option Nat) (s0 : Int32) (M : Mm) (n : Nat) : Option ((Int32 ⊕ Nat) × Mm × Nat) :=
  bdC (fHb_checkState s0 M n) n fun v1 M2 n3 =>
  fgR 9 900 r3 M2 fun v4 =>
  fgI 9 901 r3 M2 fun v5 =>
  fgR 11 1103 (some a0) M2 fun v6 =>
  rk 11 (some a0) M2 fun _ =>
  bdC (fHb_store a0 v4 v5 v6 M2 n3) n3 fun v8 M9 n10 =>
  fpZ 9 903 r3 1 M9 fun M11 =>
  some (.inl v8, M11, n10)
theorem wHb_finish_j40 {X : MC} {G : GE} {n0 : Nat} (C : CX X G RX11 cX11_finish pHb_finish 5 (some .int) n0) (htab : ∀ z ∈ X.2.2.2.2.2.2.2.2.exceptionTable.toList, False) {σ : Sg} (a0 : Nat) (r3 : Option Nat) (s0 : Int32) (M : Mm) (n : Nat) : JS X G 5 300 0 n0 (EM X G n0 12 300 (eC rvI σ)) (fHb_finish_j40 a0 r3 s0 M n) (σ, M, n) 40 [(0, .inr (.inl (some a0))), (3, .inr (.inl r3))] [.inl s0] := by
  unfold fHb_finish_j40
  refine s_CU C htab (st := []) (fun o ho => j_callS (As := [.inl s0]) (st := []) C 22 rfl mf_Hb_checkState ml_X11_54 rfl (by decide) (by decide) (Nat.le_refl _) rfl (cHb_checkState (CX_tr C) σ M n s0 o ho)) (fun v1 M2 n3 _ => ?_)
  refine s_blk C 23 2 [0, 3] (pc' := 45) (lv' := [(0, .inr (.inl (some a0))), (3, .inr (.inl r3))]) (st' := [.inr (.inl r3), .inr (.inl (some a0))]) rfl ?_
  refine s_gR C 25 rfl fl_X11_168 rfl rfl (fun v4 => ?_)
  refine s_blk C 26 1 [0, 3] (pc' := 49) (lv' := [(0, .inr (.inl (some a0))), (3, .inr (.inl r3))]) (st' := [.inr (.inl r3), .inr (.inl v4), .inr (.inl (some a0))]) rfl ?_
  refine s_gI C 27 rfl fl_X11_171 rfl rfl (fun v5 => ?_)
  refine s_blk C 28 1 [3] (pc' := 53) (lv' := [(3, .inr (.inl r3))]) (st' := [.inr (.inl (some a0)), .inl v5, .inr (.inl v4), .inr (.inl (some a0))]) rfl ?_
  refine s_gR C 29 rfl fl_X11_26 rfl rfl (fun v6 => ?_)
  refine s_rks (fun hk7 => ?_)
  refine s_CI C htab (st := []) (fun o ho => j_callV (As := [.inr (.inl v4), .inl v5, .inr (.inl v6)]) (st := []) (b := a0) C 30 rfl mf_Hb_store ml_X11_83 rfl (recv_K C (by decide) (by decide) rfl hk7) (by decide) (by decide) (Nat.le_refl _) rfl (cHb_store (CX_tr C) σ M2 n3 a0 v4 v5 v6 o ho)) (fun v8 M9 n10 _ => ?_)
  refine s_blk C 31 3 [4] (pc' := 63) (lv' := [(4, .inl v8)]) (st' := [.inl 1, .inr (.inl r3)]) rfl ?_
  refine s_pZ C 34 rfl fl_X11_160 fp_X11_9_3 (fun h => Bool.noConfusion h) rfl rfl (fun M11 _ => ?_)
  refine s_blk C 35 1 [] (pc' := 68) (lv' := []) (st' := [.inl v8]) rfl ?_
  exact s_iret C 36 rfl rfl
def fHb_finish (a0 : Nat) (x1 : Int32) (x2 : Int32) (M : Mm) (n : Nat) : Option ((Int32 ⊕ Nat) × Mm × Nat) :=
  rk 11 (some a0) M fun _ =>
  bdC (fHb_openUpload a0 x1 M n) n fun v2 M3 n4 =>
  if x2 = 0 then
    fgR 11 1103 (some a0) M3 fun v5 =>
    rk 9 v2 M3 fun a6 =>
    bdW (fUpload_joinInto a6 v5 M3) fun v9 M10 =>
    fgR 11 1103 (some a0) M10 fun v11 =>
    fgI 1 101 v11 M10 fun v12 =>
    if v12 ≤ 0 then
      fHb_finish_j40 a0 v2 0 M10 n4
    else
      fHb_finish_j40 a0 v2 1 M10 n4
  else
    fpZ 9 903 v2 1 M3 fun M13 =>
    some (.inl 0, M13, n4)
theorem wHb_finish {X : MC} {G : GE} {n0 : Nat} (C : CX X G RX11 cX11_finish pHb_finish 5 (some .int) n0) (htab : ∀ z ∈ X.2.2.2.2.2.2.2.2.exceptionTable.toList, False) {σ : Sg} (a0 : Nat) (x1 : Int32) (x2 : Int32) (M : Mm) (n : Nat) : JS X G 5 300 0 n0 (EM X G n0 12 300 (eC rvI σ)) (fHb_finish a0 x1 x2 M n) (σ, M, n) 0 [(0, .inr (.inl (some a0))), (1, .inl x1), (2, .inl x2)] [] := by
  unfold fHb_finish
  refine s_blk C 0 2 [0, 2] (pc' := 2) (lv' := [(0, .inr (.inl (some a0))), (2, .inl x2)]) (st' := [.inl x1, .inr (.inl (some a0))]) rfl ?_
  refine s_rks (fun hk1 => ?_)
  refine s_CR C htab (st := []) (fun o ho => j_callV (As := [.inl x1]) (st := []) (b := a0) C 2 rfl mf_Hb_openUpload ml_X11_148 rfl (recv_K C (by decide) (by decide) rfl hk1) (by decide) (by decide) (Nat.le_refl _) rfl (cHb_openUpload (CX_tr C) σ M n a0 x1 o ho)) (fun v2 M3 n4 _ => ?_)
  refine s_blk C 3 2 [0, 3] (pc' := 7) (lv' := [(0, .inr (.inl (some a0))), (3, .inr (.inl v2))]) (st' := [.inl x2]) rfl ?_
  refine s_ieq C 5 rfl (fun _ => ?_) (fun _ => ?_)
  · refine s_blk C 11 2 [0, 3] (pc' := 19) (lv' := [(0, .inr (.inl (some a0))), (3, .inr (.inl v2))]) (st' := [.inr (.inl (some a0)), .inr (.inl v2)]) rfl ?_
    refine s_gR C 13 rfl fl_X11_26 rfl rfl (fun v5 => ?_)
    refine s_rk (fun a6 ha7 hk8 => ?_)
    subst ha7
    refine s_WU (CE_EM _ _ _ _ _ _) (st := []) (fun o ho => j_callV (As := [.inr (.inl v5)]) (st := []) (b := a6) C 14 rfl mf_Upload_joinInto ml_X11_164 rfl (recv_K C (by decide) (by decide) rfl hk8) (by decide) (by decide) (Nat.le_refl _) rfl (cUpload_joinInto (CX_tr C) σ M3 n4 a6 v5 o ho)) (fun v9 M10 => ?_)
    refine s_blk C 15 1 [0, 3] (pc' := 26) (lv' := [(0, .inr (.inl (some a0))), (3, .inr (.inl (some a6)))]) (st' := [.inr (.inl (some a0))]) rfl ?_
    refine s_gR C 16 rfl fl_X11_26 rfl rfl (fun v11 => ?_)
    refine s_gI C 17 rfl fl_X11_50 rfl rfl (fun v12 => ?_)
    refine s_ile C 18 rfl (fun _ => ?_) (fun _ => ?_)
    · refine s_blk C 21 1 [0, 3] (pc' := 40) (lv' := [(0, .inr (.inl (some a0))), (3, .inr (.inl (some a6)))]) (st' := [.inl 0]) rfl ?_
      exact wHb_finish_j40 C htab a0 _ _ _ _
    refine s_blk C 19 2 [0, 3] (pc' := 40) (lv' := [(0, .inr (.inl (some a0))), (3, .inr (.inl (some a6)))]) (st' := [.inl 1]) rfl ?_
    exact wHb_finish_j40 C htab a0 _ _ _ _
  refine s_blk C 6 2 [] (pc' := 12) (lv' := []) (st' := [.inl 1, .inr (.inl v2)]) rfl ?_
  refine s_pZ C 8 rfl fl_X11_160 fp_X11_9_3 (fun h => Bool.noConfusion h) rfl rfl (fun M13 _ => ?_)
  refine s_blk C 9 1 [] (pc' := 16) (lv' := []) (st' := [.inl 0]) rfl ?_
  exact s_iret C 10 rfl rfl
theorem cHb_finish {l : Launch} {G : GE} (htr : l.stackTraces = false) (σ : Sg) (M : Mm) (n : Nat) (a0 : Nat) (x1 : Int32) (x2 : Int32) : ∀ o, fHb_finish a0 x1 x2 M n = some o → MetX l G yX11_finish cX11_finish 5 (some .int) 12 300 [.inr (.inl (some a0)), .inl x1, .inl x2] (σ, M, n) ((eC rvI σ) o) :=
  c_ofX (by decide) kHb_finish htr rfl rfl fun X _ _ C htab => wHb_finish C htab a0 x1 x2 _ _
def pAl_isEmpty : List BR := [(0, .aload_n 0, 1, 0, 1), (1, .getfield 48, 3, 0, 4), (4, .ifCond .ne (7), 3, 0, 11), (7, .iconst 1, 1, 1, 8), (8, .goto (4), 3, 0, 12), (11, .iconst 0, 1, 0, 12), (12, .ireturn, 1, 0, 13)]
theorem kAl_isEmpty : bOK cJx4a65c_isEmpty_aae02 1 pAl_isEmpty = true := by decide +kernel
def fAl_isEmpty (a0 : Nat) (M : Mm) : Option (Int32) :=
  fgI 12 1202 (some a0) M fun v1 =>
  if v1 = 0 then
    rZ 1 (some 1)
  else
    rZ 0 (some 0)
theorem wAl_isEmpty {X : MC} {G : GE} {n0 : Nat} (C : CX X G RJx4a65c cJx4a65c_isEmpty_aae02 pAl_isEmpty 1 (some .boolean) n0) (htab : ∀ z ∈ X.2.2.2.2.2.2.2.2.exceptionTable.toList, False) {σ : Sg} {M : Mm} {n : Nat} (a0 : Nat) : JS X G 1 300 0 n0 (EM X G n0 2 300 (eR rvI σ M n)) (fAl_isEmpty a0 M) (σ, M, n) 0 [(0, .inr (.inl (some a0)))] [] := by
  unfold fAl_isEmpty
  refine s_blk C 0 1 [] (pc' := 1) (lv' := []) (st' := [.inr (.inl (some a0))]) rfl ?_
  refine s_gI C 1 rfl fl_Jx4a65c_48 rfl rfl (fun v1 => ?_)
  refine s_ine C 2 rfl (fun _ => ?_) (fun _ => ?_)
  · refine s_blk C 3 2 [] (pc' := 12) (lv' := []) (st' := [.inl 1]) rfl ?_
    exact s_zret C 6 rfl rfl
  refine s_blk C 5 1 [] (pc' := 12) (lv' := []) (st' := [.inl 0]) rfl ?_
  exact s_zret C 6 rfl rfl
theorem cAl_isEmpty {l : Launch} {G : GE} (htr : l.stackTraces = false) (σ : Sg) (M : Mm) (n : Nat) (a0 : Nat) : ∀ o, fAl_isEmpty a0 M = some o → MetX l G yJx4a65c_isEmpty_aae02 cJx4a65c_isEmpty_aae02 1 (some .boolean) 2 300 [.inr (.inl (some a0))] (σ, M, n) ((eR rvI σ M n) o) :=
  c_ofX (by decide) kAl_isEmpty htr rfl rfl fun X _ _ C htab => wAl_isEmpty C htab a0

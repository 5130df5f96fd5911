def pRegion_hadNumber : List BR := [(0, .iload_n 1, 1, 0, 1), (1, .ifCond .lt (25), 3, 0, 26), (4, .iload_n 1, 1, 0, 5), (5, .aload_n 0, 1, 0, 6), (6, .getfield 28, 3, 0, 9), (9, .arraylength, 1, 0, 10), (10, .if_icmp .ge (16), 3, 0, 26), (13, .aload_n 0, 1, 0, 14), (14, .getfield 28, 3, 0, 17), (17, .iload_n 1, 1, 0, 18), (18, .baload, 1, 0, 19), (19, .ifCond .eq (7), 3, 0, 26), (22, .iconst 1, 1, 1, 23), (23, .goto (4), 3, 0, 27), (26, .iconst 0, 1, 0, 27), (27, .ireturn, 1, 0, 28)]
theorem kRegion_hadNumber : bOK cX6_hadNumber 2 pRegion_hadNumber = true := by decide +kernel
def fRegion_hadNumber (a0 : Nat) (x1 : Int32) (M : Mm) : Option (Int32) :=
  if x1 < 0 then
    rZ 0 (some 0)
  else
    fgR 6 603 (some a0) M fun v1 =>
    aln v1 M fun v2 =>
    if v2 ≤ x1 then
      rZ 0 (some 0)
    else
      fgR 6 603 (some a0) M fun v3 =>
      alI 22 v3 x1 M fun v4 =>
      if v4 = 0 then
        rZ 0 (some 0)
      else
        rZ 1 (some 1)
theorem wRegion_hadNumber {X : MC} {G : GE} {n0 : Nat} (C : CX X G RX6 cX6_hadNumber pRegion_hadNumber 2 (some .boolean) n0) (htab : ∀ z ∈ X.2.2.2.2.2.2.2.2.exceptionTable.toList, False) {σ : Sg} {M : Mm} {n : Nat} (a0 : Nat) (x1 : Int32) : JS X G 2 300 0 n0 (EM X G n0 2 300 (eR rvI σ M n)) (fRegion_hadNumber a0 x1 M) (σ, M, n) 0 [(0, .inr (.inl (some a0))), (1, .inl x1)] [] := by
  unfold fRegion_hadNumber
  refine s_blk C 0 1 [0, 1] (pc' := 1) (lv' := [(0, .inr (.inl (some a0))), (1, .inl x1)]) (st' := [.inl x1]) rfl ?_
  refine s_ilt C 1 rfl (fun _ => ?_) (fun _ => ?_)
  · refine s_blk C 14 1 [] (pc' := 27) (lv' := []) (st' := [.inl 0]) rfl ?_
    exact s_zret C 15 rfl rfl
  refine s_blk C 2 2 [0, 1] (pc' := 6) (lv' := [(0, .inr (.inl (some a0))), (1, .inl x1)]) (st' := [.inr (.inl (some a0)), .inl x1]) rfl ?_
  refine s_gR C 4 rfl fl_X6_28 rfl rfl (fun v1 => ?_)
  refine s_len C 5 rfl (fun v2 => ?_)
  refine s_icge C 6 rfl (fun _ => ?_) (fun _ => ?_)
  · refine s_blk C 14 1 [] (pc' := 27) (lv' := []) (st' := [.inl 0]) rfl ?_
    exact s_zret C 15 rfl rfl
  refine s_blk C 7 1 [1] (pc' := 14) (lv' := [(1, .inl x1)]) (st' := [.inr (.inl (some a0))]) rfl ?_
  refine s_gR C 8 rfl fl_X6_28 rfl rfl (fun v3 => ?_)
  refine s_blk C 9 1 [] (pc' := 18) (lv' := []) (st' := [.inl x1, .inr (.inl v3)]) rfl ?_
  refine s_ldZ C 10 rfl (fun v4 => ?_)
  refine s_ieq C 11 rfl (fun _ => ?_) (fun _ => ?_)
  · refine s_blk C 14 1 [] (pc' := 27) (lv' := []) (st' := [.inl 0]) rfl ?_
    exact s_zret C 15 rfl rfl
  refine s_blk C 12 2 [] (pc' := 27) (lv' := []) (st' := [.inl 1]) rfl ?_
  exact s_zret C 15 rfl rfl
theorem cRegion_hadNumber {l : Launch} {G : GE} (htr : l.stackTraces = false) (σ : Sg) (M : Mm) (n : Nat) (a0 : Nat) (x1 : Int32) : ∀ o, fRegion_hadNumber a0 x1 M = some o → MetX l G yX6_hadNumber cX6_hadNumber 2 (some .boolean) 2 300 [.inr (.inl (some a0)), .inl x1] (σ, M, n) ((eR rvI σ M n) o) :=
  c_ofX (by decide) kRegion_hadNumber htr rfl rfl fun X _ _ C htab => wRegion_hadNumber C htab a0 x1
def pHb_takeFirst : List BR := [(0, .aload_n 1, 1, 0, 1), (1, .getfield 273, 3, 0, 4), (4, .invokevirtual 343, 3, 0, 7), (7, .ifCond .eq (5), 3, 0, 12), (10, .iconst 0, 1, 0, 11), (11, .ireturn, 1, 0, 12), (12, .aload_n 1, 1, 0, 13), (13, .getfield 273, 3, 0, 16), (16, .iconst 0, 1, 0, 17), (17, .invokevirtual 315, 3, 0, 20), (20, .checkcast 201, 3, 0, 23), (23, .astore_n 3, 1, 0, 24), (24, .aload_n 2, 1, 0, 25), (25, .aload_n 3, 1, 0, 26), (26, .getfield 319, 3, 0, 29), (29, .invokevirtual 346, 3, 0, 32), (32, .istore 4, 2, 0, 34), (34, .iload 4, 2, 0, 36), (36, .ifCond .ne (16), 3, 0, 52), (39, .aload_n 2, 1, 0, 40), (40, .aload_n 3, 1, 0, 41), (41, .getfield 200, 3, 0, 44), (44, .invokevirtual 332, 3, 0, 47), (47, .ifCond .ne (5), 3, 0, 52), (50, .iconst 0, 1, 0, 51), (51, .ireturn, 1, 0, 52), (52, .iload 4, 2, 0, 54), (54, .ifCond .ne (8), 3, 0, 62), (57, .aload_n 2, 1, 0, 58), (58, .aload_n 3, 1, 0, 59), (59, .invokevirtual 339, 3, 0, 62), (62, .aload_n 1, 1, 0, 63), (63, .getfield 273, 3, 0, 66), (66, .iconst 0, 1, 0, 67), (67, .invokevirtual 349, 3, 0, 70), (70, .pop, 1, 0, 71), (71, .iconst 1, 1, 1, 72), (72, .ireturn, 1, 0, 73)]
theorem kHb_takeFirst : bOK cX11_takeFirst 5 pHb_takeFirst = true := by decide +kernel
def fHb_takeFirst_j62 (a0 : Nat) (r1 : Option Nat) (M : Mm) (n : Nat) : Option ((Int32 ⊕ Nat) × Mm × Nat) :=
  fgR 6 602 r1 M fun v1 =>
  rk 12 v1 M fun a2 =>
  bdW (fAl_remove a2 0 M) fun v5 M6 =>
  rZ 1 (some (.inl 1, M6, n))
theorem wHb_takeFirst_j62 {X : MC} {G : GE} {n0 : Nat} (C : CX X G RX11 cX11_takeFirst pHb_takeFirst 5 (some .boolean) n0) (htab : ∀ z ∈ X.2.2.2.2.2.2.2.2.exceptionTable.toList, False) {σ : Sg} (a0 : Nat) (r1 : Option Nat) (M : Mm) (n : Nat) : JS X G 5 300 0 n0 (EM X G n0 11 300 (eC rvI σ)) (fHb_takeFirst_j62 a0 r1 M n) (σ, M, n) 62 [(1, .inr (.inl r1))] [] := by
  unfold fHb_takeFirst_j62
  refine s_blk C 31 1 [] (pc' := 63) (lv' := []) (st' := [.inr (.inl r1)]) rfl ?_
  refine s_gR C 32 rfl fl_X11_273 rfl rfl (fun v1 => ?_)
  refine s_blk C 33 1 [] (pc' := 67) (lv' := []) (st' := [.inl 0, .inr (.inl v1)]) rfl ?_
  refine s_rk (fun a2 ha3 hk4 => ?_)
  subst ha3
  refine s_WR (CE_EM _ _ _ _ _ _) (st := []) (fun o ho => j_callV (As := [.inl 0]) (st := []) (b := a2) C 34 rfl mf_Al_remove ml_X11_349 rfl (recv_K C (by decide) (by decide) rfl hk4) (by decide) (by decide) (Nat.le_refl _) rfl (cAl_remove (CX_tr C) σ M n a2 0 o ho)) (fun v5 M6 => ?_)
  refine s_blk C 35 2 [] (pc' := 72) (lv' := []) (st' := [.inl 1]) rfl ?_
  exact s_zret C 37 rfl rfl
def fHb_takeFirst_j52 (a0 : Nat) (r1 : Option Nat) (r2 : Option Nat) (r3 : Option Nat) (x4 : Int32) (M : Mm) (n : Nat) : Option ((Int32 ⊕ Nat) × Mm × Nat) :=
  if x4 = 0 then
    rk 6 r2 M fun a1 =>
    bdC (fRegion_take a1 r3 M n) n fun v4 M5 n6 =>
    fHb_takeFirst_j62 a0 r1 M5 n6
  else
    fHb_takeFirst_j62 a0 r1 M n
theorem wHb_takeFirst_j52 {X : MC} {G : GE} {n0 : Nat} (C : CX X G RX11 cX11_takeFirst pHb_takeFirst 5 (some .boolean) n0) (htab : ∀ z ∈ X.2.2.2.2.2.2.2.2.exceptionTable.toList, False) {σ : Sg} (a0 : Nat) (r1 : Option Nat) (r2 : Option Nat) (r3 : Option Nat) (x4 : Int32) (M : Mm) (n : Nat) : JS X G 5 300 0 n0 (EM X G n0 11 300 (eC rvI σ)) (fHb_takeFirst_j52 a0 r1 r2 r3 x4 M n) (σ, M, n) 52 [(1, .inr (.inl r1)), (2, .inr (.inl r2)), (3, .inr (.inl r3)), (4, .inl x4)] [] := by
  unfold fHb_takeFirst_j52
  refine s_blk C 26 1 [1, 2, 3] (pc' := 54) (lv' := [(1, .inr (.inl r1)), (2, .inr (.inl r2)), (3, .inr (.inl r3))]) (st' := [.inl x4]) rfl ?_
  refine s_ine C 27 rfl (fun _ => ?_) (fun _ => ?_)
  · refine s_blk C 28 2 [1] (pc' := 59) (lv' := [(1, .inr (.inl r1))]) (st' := [.inr (.inl r3), .inr (.inl r2)]) rfl ?_
    refine s_rk (fun a1 ha2 hk3 => ?_)
    subst ha2
    refine s_CU C htab (st := []) (fun o ho => j_callV (As := [.inr (.inl r3)]) (st := []) (b := a1) C 30 rfl mf_Region_take ml_X11_339 rfl (recv_K C (by decide) (by decide) rfl hk3) (by decide) (by decide) (Nat.le_refl _) rfl (cRegion_take (CX_tr C) σ M n a1 r3 o ho)) (fun v4 M5 n6 _ => ?_)
    exact wHb_takeFirst_j62 C htab a0 _ _ _
  refine s_blk C 0 0 [1] (pc' := 62) (lv' := [(1, .inr (.inl r1))]) (st' := []) rfl ?_
  exact wHb_takeFirst_j62 C htab a0 _ _ _
def fHb_takeFirst (a0 : Nat) (r1 : Option Nat) (r2 : Option Nat) (M : Mm) (n : Nat) : Option ((Int32 ⊕ Nat) × Mm × Nat) :=
  fgR 6 602 r1 M fun v1 =>
  rk 12 v1 M fun a2 =>
  bdR (fAl_isEmpty a2 M) fun v5 =>
  if v5 = 0 then
    fgR 6 602 r1 M fun v6 =>
    rk 12 v6 M fun a7 =>
    bdR (fAl_get a7 0 M) fun v10 =>
    fca 4 v10 M fun v11 =>
    fgI 4 401 v11 M fun v12 =>
    rk 6 r2 M fun a13 =>
    bdR (fRegion_hadNumber a13 v12 M) fun v16 =>
    if v16 = 0 then
      fgR 4 403 v11 M fun v17 =>
      rk 6 r2 M fun a19 =>
      bdW (fRegion_hasRoom a19 v17 M) fun v20 M21 =>
      if v20 = 0 then
        rZ 0 (some (.inl 0, M21, n))
      else
        fHb_takeFirst_j52 a0 r1 r2 v11 v16 M21 n
    else
      fHb_takeFirst_j52 a0 r1 r2 v11 v16 M n
  else
    rZ 0 (some (.inl 0, M, n))
theorem wHb_takeFirst {X : MC} {G : GE} {n0 : Nat} (C : CX X G RX11 cX11_takeFirst pHb_takeFirst 5 (some .boolean) n0) (htab : ∀ z ∈ X.2.2.2.2.2.2.2.2.exceptionTable.toList, False) {σ : Sg} (a0 : Nat) (r1 : Option Nat) (r2 : Option Nat) (M : Mm) (n : Nat) : JS X G 5 300 0 n0 (EM X G n0 11 300 (eC rvI σ)) (fHb_takeFirst a0 r1 r2 M n) (σ, M, n) 0 [(0, .inr (.inl (some a0))), (1, .inr (.inl r1)), (2, .inr (.inl r2))] [] := by
  unfold fHb_takeFirst
  refine s_blk C 0 1 [1, 2] (pc' := 1) (lv' := [(1, .inr (.inl r1)), (2, .inr (.inl r2))]) (st' := [.inr (.inl r1)]) rfl ?_
  refine s_gR C 1 rfl fl_X11_273 rfl rfl (fun v1 => ?_)
  refine s_rk (fun a2 ha3 hk4 => ?_)
  subst ha3
  refine s_RI (CE_EM _ _ _ _ _ _) (st := []) (fun o ho => j_callV (As := []) (st := []) (b := a2) C 2 rfl mf_Al_isEmpty ml_X11_343 rfl (recv_K C (by decide) (by decide) rfl hk4) (by decide) (by decide) (Nat.le_refl _) rfl (cAl_isEmpty (CX_tr C) σ M n a2 o ho)) (fun v5 => ?_)
  refine s_ieq C 3 rfl (fun _ => ?_) (fun _ => ?_)
  · refine s_blk C 6 1 [1, 2] (pc' := 13) (lv' := [(1, .inr (.inl r1)), (2, .inr (.inl r2))]) (st' := [.inr (.inl r1)]) rfl ?_
    refine s_gR C 7 rfl fl_X11_273 rfl rfl (fun v6 => ?_)
    refine s_blk C 8 1 [1, 2] (pc' := 17) (lv' := [(1, .inr (.inl r1)), (2, .inr (.inl r2))]) (st' := [.inl 0, .inr (.inl v6)]) rfl ?_
    refine s_rk (fun a7 ha8 hk9 => ?_)
    subst ha8
    refine s_RR (CE_EM _ _ _ _ _ _) (st := []) (fun o ho => j_callV (As := [.inl 0]) (st := []) (b := a7) C 9 rfl mf_Al_get ml_X11_315 rfl (recv_K C (by decide) (by decide) rfl hk9) (by decide) (by decide) (Nat.le_refl _) rfl (cAl_get (CX_tr C) σ M n a7 0 o ho)) (fun v10 => ?_)
    refine s_cast C 10 rfl rfl (by decide) (by decide) cw_X11_201 (fun v11 => ?_)
    refine s_blk C 11 3 [1, 2, 3] (pc' := 26) (lv' := [(1, .inr (.inl r1)), (2, .inr (.inl r2)), (3, .inr (.inl v11))]) (st' := [.inr (.inl v11), .inr (.inl r2)]) rfl ?_
    refine s_gI C 14 rfl fl_X11_319 rfl rfl (fun v12 => ?_)
    refine s_rk (fun a13 ha14 hk15 => ?_)
    subst ha14
    refine s_RI (CE_EM _ _ _ _ _ _) (st := []) (fun o ho => j_callV (As := [.inl v12]) (st := []) (b := a13) C 15 rfl mf_Region_hadNumber ml_X11_346 rfl (recv_K C (by decide) (by decide) rfl hk15) (by decide) (by decide) (Nat.le_refl _) rfl (cRegion_hadNumber (CX_tr C) σ M n a13 v12 o ho)) (fun v16 => ?_)
    refine s_blk C 16 2 [1, 2, 3, 4] (pc' := 36) (lv' := [(1, .inr (.inl r1)), (2, .inr (.inl (some a13))), (3, .inr (.inl v11)), (4, .inl v16)]) (st' := [.inl v16]) rfl ?_
    refine s_ine C 18 rfl (fun _ => ?_) (fun _ => ?_)
    · refine s_blk C 19 2 [1, 2, 3, 4] (pc' := 41) (lv' := [(1, .inr (.inl r1)), (2, .inr (.inl (some a13))), (3, .inr (.inl v11)), (4, .inl v16)]) (st' := [.inr (.inl v11), .inr (.inl (some a13))]) rfl ?_
      refine s_gR C 21 rfl fl_X11_200 rfl rfl (fun v17 => ?_)
      refine s_rks (fun hk18 => ?_)
      refine s_WI (CE_EM _ _ _ _ _ _) (st := []) (fun o ho => j_callV (As := [.inr (.inl v17)]) (st := []) (b := a13) C 22 rfl mf_Region_hasRoom ml_X11_332 rfl (recv_K C (by decide) (by decide) rfl hk18) (by decide) (by decide) (Nat.le_refl _) rfl (cRegion_hasRoom (CX_tr C) σ M n a13 v17 o ho)) (fun v20 M21 => ?_)
      refine s_ine C 23 rfl (fun _ => ?_) (fun _ => ?_)
      · refine s_blk C 24 1 [] (pc' := 51) (lv' := []) (st' := [.inl 0]) rfl ?_
        exact s_zret C 25 rfl rfl
      exact wHb_takeFirst_j52 C htab a0 _ _ _ _ _ _
    exact wHb_takeFirst_j52 C htab a0 _ _ _ _ _ _
  refine s_blk C 4 1 [] (pc' := 11) (lv' := []) (st' := [.inl 0]) rfl ?_
  exact s_zret C 5 rfl rfl
theorem cHb_takeFirst {l : Launch} {G : GE} (htr : l.stackTraces = false) (σ : Sg) (M : Mm) (n : Nat) (a0 : Nat) (r1 : Option Nat) (r2 : Option Nat) : ∀ o, fHb_takeFirst a0 r1 r2 M n = some o → MetX l G yX11_takeFirst cX11_takeFirst 5 (some .boolean) 11 300 [.inr (.inl (some a0)), .inr (.inl r1), .inr (.inl r2)] (σ, M, n) ((eC rvI σ) o) :=
  c_ofX (by decide) kHb_takeFirst htr rfl rfl fun X _ _ C htab => wHb_takeFirst C htab a0 r1 r2 _ _
def pHb_follow : List BR := [(0, .aload_n 0, 1, 0, 1), (1, .iload_n 1, 1, 0, 2), (2, .invokevirtual 65, 3, 0, 5), (5, .astore_n 3, 1, 0, 6), (6, .aload_n 0, 1, 0, 7), (7, .iconst 1, 1, 1, 8), (8, .iload_n 1, 1, 0, 9), (9, .isub, 1, 0, 10), (10, .invokevirtual 65, 3, 0, 13), (13, .astore 4, 2, 0, 15), (15, .iload_n 2, 1, 0, 16), (16, .iconst 1, 1, 1, 17), (17, .bipush 99, 2, 99, 19), (19, .invokestatic 46, 3, 0, 22), (22, .iconst 0, 1, 0, 23), (23, .istore 5, 2, 0, 25), (25, .iload 5, 2, 0, 27), (27, .iload_n 2, 1, 0, 28), (28, .if_icmp .ge (22), 3, 0, 50), (31, .aload_n 0, 1, 0, 32), (32, .aload_n 3, 1, 0, 33), (33, .aload 4, 2, 0, 35), (35, .invokevirtual 269, 3, 0, 38), (38, .ifCond .ne (6), 3, 0, 44), (41, .iload 5, 2, 0, 43), (43, .ireturn, 1, 0, 44), (44, .iinc 5 (1), 3, 1, 47), (47, .goto (-22), 3, 0, 25), (50, .iload_n 2, 1, 0, 51), (51, .ireturn, 1, 0, 52)]
theorem kHb_follow : bOK cX11_follow 6 pHb_follow = true := by decide +kernel
def fHb_follow_b25 (a0 : Nat) (k25 : Int32 → Option Nat → Option Nat → Int32 → Mm → Nat → Option ((Int32 ⊕ Nat) × Mm × Nat)) (x2 : Int32) (r3 : Option Nat) (r4 : Option Nat) (x5 : Int32) (M : Mm) (n : Nat) : Option ((Int32 ⊕ Nat) × Mm × Nat) :=
  if x2 ≤ x5 then
    some (.inl x2, M, n)
  else
    rk 11 (some a0) M fun _ =>
    bdC (fHb_takeFirst a0 r3 r4 M n) n fun v2 M3 n4 =>
    if v2 = 0 then
      some (.inl x5, M3, n4)
    else
      k25 x2 r3 r4 (x5 + 1) M3 n4
theorem wHb_follow_b25 {X : MC} {G : GE} {n0 : Nat} (C : CX X G RX11 cX11_follow pHb_follow 6 (some .int) n0) (htab : ∀ z ∈ X.2.2.2.2.2.2.2.2.exceptionTable.toList, False) {σ : Sg} (a0 : Nat) (k25 : Int32 → Option Nat → Option Nat → Int32 → Mm → Nat → Option ((Int32 ⊕ Nat) × Mm × Nat)) (H25 : ∀ (x2 : Int32) (r3 : Option Nat) (r4 : Option Nat) (x5 : Int32) (M : Mm) (n : Nat), JS X G 6 300 0 n0 (EM X G n0 12 300 (eC rvI σ)) (k25 x2 r3 r4 x5 M n) (σ, M, n) 25 [(0, .inr (.inl (some a0))), (2, .inl x2), (3, .inr (.inl r3)), (4, .inr (.inl r4)), (5, .inl x5)] []) (x2 : Int32) (r3 : Option Nat) (r4 : Option Nat) (x5 : Int32) (M : Mm) (n : Nat) : JS X G 6 300 0 n0 (EM X G n0 12 300 (eC rvI σ)) (fHb_follow_b25 a0 k25 x2 r3 r4 x5 M n) (σ, M, n) 25 [(0, .inr (.inl (some a0))), (2, .inl x2), (3, .inr (.inl r3)), (4, .inr (.inl r4)), (5, .inl x5)] [] := by
  unfold fHb_follow_b25
  refine s_blk C 16 2 [0, 2, 3, 4, 5] (pc' := 28) (lv' := [(0, .inr (.inl (some a0))), (2, .inl x2), (3, .inr (.inl r3)), (4, .inr (.inl r4)), (5, .inl x5)]) (st' := [.inl x2, .inl x5]) rfl ?_
  refine s_icge C 18 rfl (fun _ => ?_) (fun _ => ?_)
  · refine s_blk C 28 1 [] (pc' := 51) (lv' := []) (st' := [.inl x2]) rfl ?_
    exact s_iret C 29 rfl rfl
  refine s_blk C 19 3 [0, 2, 3, 4, 5] (pc' := 35) (lv' := [(0, .inr (.inl (some a0))), (2, .inl x2), (3, .inr (.inl r3)), (4, .inr (.inl r4)), (5, .inl x5)]) (st' := [.inr (.inl r4), .inr (.inl r3), .inr (.inl (some a0))]) rfl ?_
  refine s_rks (fun hk1 => ?_)
  refine s_CI C htab (st := []) (fun o ho => j_callV (As := [.inr (.inl r3), .inr (.inl r4)]) (st := []) (b := a0) C 22 rfl mf_Hb_takeFirst ml_X11_269 rfl (recv_K C (by decide) (by decide) rfl hk1) (by decide) (by decide) (Nat.le_refl _) rfl (cHb_takeFirst (CX_tr C) σ M n a0 r3 r4 o ho)) (fun v2 M3 n4 _ => ?_)
  refine s_ine C 23 rfl (fun _ => ?_) (fun _ => ?_)
  · refine s_blk C 24 1 [] (pc' := 43) (lv' := []) (st' := [.inl x5]) rfl ?_
    exact s_iret C 25 rfl rfl
  refine s_blk C 26 2 [0, 2, 3, 4, 5] (pc' := 25) (lv' := [(0, .inr (.inl (some a0))), (2, .inl x2), (3, .inr (.inl r3)), (4, .inr (.inl r4)), (5, .inl (x5 + 1))]) (st' := []) rfl ?_
  exact H25 _ _ _ _ _ _
def fHb_follow_l25 (a0 : Nat) (fu : Nat) : Int32 → Option Nat → Option Nat → Int32 → Mm → Nat → Option ((Int32 ⊕ Nat) × Mm × Nat) := Nat.rec (fun x2 r3 r4 x5 M n => none) (fun _ k => fHb_follow_b25 a0 k) fu
theorem wHb_follow_l25 {X : MC} {G : GE} {n0 : Nat} (C : CX X G RX11 cX11_follow pHb_follow 6 (some .int) n0) (htab : ∀ z ∈ X.2.2.2.2.2.2.2.2.exceptionTable.toList, False) {σ : Sg} (a0 : Nat) : ∀ (fu : Nat) (x2 : Int32) (r3 : Option Nat) (r4 : Option Nat) (x5 : Int32) (M : Mm) (n : Nat), JS X G 6 300 0 n0 (EM X G n0 12 300 (eC rvI σ)) (fHb_follow_l25 a0 fu x2 r3 r4 x5 M n) (σ, M, n) 25 [(0, .inr (.inl (some a0))), (2, .inl x2), (3, .inr (.inl r3)), (4, .inr (.inl r4)), (5, .inl x5)] [] := by
  intro fu
  induction fu with
  | zero => intro x2 r3 r4 x5 M n; exact s_none
  | succ fu ih => intro x2 r3 r4 x5 M n; exact wHb_follow_b25 C htab a0 (fHb_follow_l25 a0 fu) ih _ _ _ _ _ _
def fHb_follow (a0 : Nat) (x1 : Int32) (x2 : Int32) (M : Mm) (n : Nat) : Option ((Int32 ⊕ Nat) × Mm × Nat) :=
  rk 11 (some a0) M fun _ =>
  bdC (fHb_regionOf a0 x1 M n) n fun v2 M3 n4 =>
  rk 11 (some a0) M3 fun _ =>
  bdC (fHb_regionOf a0 (1 - x1) M3 n4) n4 fun v6 M7 n8 =>
  bdC (fHb_checkRange x2 1 99 M7 n8) n8 fun v9 M10 n11 =>
  fHb_follow_l25 a0 FU x2 v2 v6 0 M10 n11
theorem wHb_follow {X : MC} {G : GE} {n0 : Nat} (C : CX X G RX11 cX11_follow pHb_follow 6 (some .int) n0) (htab : ∀ z ∈ X.2.2.2.2.2.2.2.2.exceptionTable.toList, False) {σ : Sg} (a0 : Nat) (x1 : Int32) (x2 : Int32) (M : Mm) (n : Nat) : JS X G 6 300 0 n0 (EM X G n0 12 300 (eC rvI σ)) (fHb_follow a0 x1 x2 M n) (σ, M, n) 0 [(0, .inr (.inl (some a0))), (1, .inl x1), (2, .inl x2)] [] := by
  unfold fHb_follow
  refine s_blk C 0 2 [0, 1, 2] (pc' := 2) (lv' := [(0, .inr (.inl (some a0))), (1, .inl x1), (2, .inl x2)]) (st' := [.inl x1, .inr (.inl (some a0))]) rfl ?_
  refine s_rks (fun hk1 => ?_)
  refine s_CR C htab (st := []) (fun o ho => j_callV (As := [.inl x1]) (st := []) (b := a0) C 2 rfl mf_Hb_regionOf ml_X11_65 rfl (recv_K C (by decide) (by decide) rfl hk1) (by decide) (by decide) (Nat.le_refl _) rfl (cHb_regionOf (CX_tr C) σ M n a0 x1 o ho)) (fun v2 M3 n4 _ => ?_)
  refine s_blk C 3 5 [0, 2, 3] (pc' := 10) (lv' := [(0, .inr (.inl (some a0))), (2, .inl x2), (3, .inr (.inl v2))]) (st' := [.inl (1 - x1), .inr (.inl (some a0))]) rfl ?_
  refine s_rks (fun hk5 => ?_)
  refine s_CR C htab (st := []) (fun o ho => j_callV (As := [.inl (1 - x1)]) (st := []) (b := a0) C 8 rfl mf_Hb_regionOf ml_X11_65 rfl (recv_K C (by decide) (by decide) rfl hk5) (by decide) (by decide) (Nat.le_refl _) rfl (cHb_regionOf (CX_tr C) σ M3 n4 a0 (1 - x1) o ho)) (fun v6 M7 n8 _ => ?_)
  refine s_blk C 9 4 [0, 2, 3, 4] (pc' := 19) (lv' := [(0, .inr (.inl (some a0))), (2, .inl x2), (3, .inr (.inl v2)), (4, .inr (.inl v6))]) (st' := [.inl 99, .inl 1, .inl x2]) rfl ?_
  refine s_CU C htab (st := []) (fun o ho => j_callS (As := [.inl x2, .inl 1, .inl 99]) (st := []) C 13 rfl mf_Hb_checkRange ml_X11_46 rfl (by decide) (by decide) (Nat.le_refl _) rfl (cHb_checkRange (CX_tr C) σ M7 n8 x2 1 99 o ho)) (fun v9 M10 n11 _ => ?_)
  refine s_blk C 14 2 [0, 2, 3, 4, 5] (pc' := 25) (lv' := [(0, .inr (.inl (some a0))), (2, .inl x2), (3, .inr (.inl v2)), (4, .inr (.inl v6)), (5, .inl 0)]) (st' := []) rfl ?_
  exact wHb_follow_l25 C htab a0 FU _ _ _ _ _ _
theorem cHb_follow {l : Launch} {G : GE} (htr : l.stackTraces = false) (σ : Sg) (M : Mm) (n : Nat) (a0 : Nat) (x1 : Int32) (x2 : Int32) : ∀ o, fHb_follow a0 x1 x2 M n = some o → MetX l G yX11_follow cX11_follow 6 (some .int) 12 300 [.inr (.inl (some a0)), .inl x1, .inl x2] (σ, M, n) ((eC rvI σ) o) :=
  c_ofX (by decide) kHb_follow htr rfl rfl fun X _ _ C htab => wHb_follow C htab a0 x1 x2 _ _
def pHb_holds : List BR := [(0, .iload_n 0, 1, 0, 1), (1, .iconst (-1), 1, -1, 2), (2, .if_icmp .ne (5), 3, 0, 7), (5, .iconst 1, 1, 1, 6), (6, .ireturn, 1, 0, 7), (7, .iload_n 0, 1, 0, 8), (8, .ifCond .ne (16), 3, 0, 24), (11, .aload_n 1, 1, 0, 12), (12, .invokestatic 87, 3, 0, 15), (15, .ifCond .ne (7), 3, 0, 22), (18, .iconst 1, 1, 1, 19), (19, .goto (4), 3, 0, 23), (22, .iconst 0, 1, 0, 23), (23, .ireturn, 1, 0, 24), (24, .aload_n 1, 1, 0, 25), (25, .ifnull (18), 3, 0, 43), (28, .aload_n 1, 1, 0, 29), (29, .getfield 196, 3, 0, 32), (32, .getfield 319, 3, 0, 35), (35, .iload_n 0, 1, 0, 36), (36, .if_icmp .ne (7), 3, 0, 43), (39, .iconst 1, 1, 1, 40), (40, .goto (4), 3, 0, 44), (43, .iconst 0, 1, 0, 44), (44, .ireturn, 1, 0, 45)]
theorem kHb_holds : bOK cX11_holds 2 pHb_holds = true := by decide +kernel
def fHb_holds (x0 : Int32) (r1 : Option Nat) (M : Mm) : Option (Int32) :=
  if x0 = (-1) then
    rZ 1 (some 1)
  else
    if x0 = 0 then
      bdR (fHb_isObject r1 M) fun v1 =>
      if v1 = 0 then
        rZ 1 (some 1)
      else
        rZ 0 (some 0)
    else
      ifN r1
        (rZ 0 (some 0))
        (fgR 10 1000 r1 M fun v2 =>
        fgI 4 401 v2 M fun v3 =>
        if v3 = x0 then
          rZ 1 (some 1)
        else
          rZ 0 (some 0))
theorem wHb_holds {X : MC} {G : GE} {n0 : Nat} (C : CX X G RX11 cX11_holds pHb_holds 2 (some .boolean) n0) (htab : ∀ z ∈ X.2.2.2.2.2.2.2.2.exceptionTable.toList, False) {σ : Sg} {M : Mm} {n : Nat} (x0 : Int32) (r1 : Option Nat) : JS X G 2 300 0 n0 (EM X G n0 4 300 (eR rvI σ M n)) (fHb_holds x0 r1 M) (σ, M, n) 0 [(0, .inl x0), (1, .inr (.inl r1))] [] := by
  unfold fHb_holds
  refine s_blk C 0 2 [0, 1] (pc' := 2) (lv' := [(0, .inl x0), (1, .inr (.inl r1))]) (st' := [.inl (-1), .inl x0]) rfl ?_
  refine s_icne C 2 rfl (fun _ => ?_) (fun _ => ?_)
  · refine s_blk C 3 1 [] (pc' := 6) (lv' := []) (st' := [.inl 1]) rfl ?_
    exact s_zret C 4 rfl rfl
  refine s_blk C 5 1 [0, 1] (pc' := 8) (lv' := [(0, .inl x0), (1, .inr (.inl r1))]) (st' := [.inl x0]) rfl ?_
  refine s_ine C 6 rfl (fun _ => ?_) (fun _ => ?_)
  · refine s_blk C 7 1 [] (pc' := 12) (lv' := []) (st' := [.inr (.inl r1)]) rfl ?_
    refine s_RI (CE_EM _ _ _ _ _ _) (st := []) (fun o ho => j_callS (As := [.inr (.inl r1)]) (st := []) C 8 rfl mf_Hb_isObject ml_X11_87 rfl (by decide) (by decide) (Nat.le_refl _) rfl (cHb_isObject (CX_tr C) σ M n r1 o ho)) (fun v1 => ?_)
    refine s_ine C 9 rfl (fun _ => ?_) (fun _ => ?_)
    · refine s_blk C 10 2 [] (pc' := 23) (lv' := []) (st' := [.inl 1]) rfl ?_
      exact s_zret C 13 rfl rfl
    refine s_blk C 12 1 [] (pc' := 23) (lv' := []) (st' := [.inl 0]) rfl ?_
    exact s_zret C 13 rfl rfl
  refine s_blk C 14 1 [0, 1] (pc' := 25) (lv' := [(0, .inl x0), (1, .inr (.inl r1))]) (st' := [.inr (.inl r1)]) rfl ?_
  refine s_null C 15 rfl ?_ ?_
  · refine s_blk C 23 1 [] (pc' := 44) (lv' := []) (st' := [.inl 0]) rfl ?_
    exact s_zret C 24 rfl rfl
  refine s_blk C 16 1 [0] (pc' := 29) (lv' := [(0, .inl x0)]) (st' := [.inr (.inl r1)]) rfl ?_
  refine s_gR C 17 rfl fl_X11_196 rfl rfl (fun v2 => ?_)
  refine s_gI C 18 rfl fl_X11_319 rfl rfl (fun v3 => ?_)
  refine s_blk C 19 1 [] (pc' := 36) (lv' := []) (st' := [.inl x0, .inl v3]) rfl ?_
  refine s_icne C 20 rfl (fun _ => ?_) (fun _ => ?_)
  · refine s_blk C 21 2 [] (pc' := 44) (lv' := []) (st' := [.inl 1]) rfl ?_
    exact s_zret C 24 rfl rfl
  refine s_blk C 23 1 [] (pc' := 44) (lv' := []) (st' := [.inl 0]) rfl ?_
  exact s_zret C 24 rfl rfl
theorem cHb_holds {l : Launch} {G : GE} (htr : l.stackTraces = false) (σ : Sg) (M : Mm) (n : Nat) (x0 : Int32) (r1 : Option Nat) : ∀ o, fHb_holds x0 r1 M = some o → MetX l G yX11_holds cX11_holds 2 (some .boolean) 4 300 [.inl x0, .inr (.inl r1)] (σ, M, n) ((eR rvI σ M n) o) :=
  c_ofX (by decide) kHb_holds htr rfl rfl fun X _ _ C htab => wHb_holds C htab x0 r1
def pKeys_lettersOf : List BR := [(0, .iload_n 0, 1, 0, 1), (1, .iconst 5, 1, 5, 2), (2, .if_icmp .ge (5), 3, 0, 7), (5, .iconst 1, 1, 1, 6), (6, .ireturn, 1, 0, 7), (7, .iload_n 0, 1, 0, 8), (8, .bipush 25, 2, 25, 10), (10, .if_icmp .ge (7), 3, 0, 17), (13, .iconst 2, 1, 2, 14), (14, .goto (4), 3, 0, 18), (17, .iconst 3, 1, 3, 18), (18, .ireturn, 1, 0, 19)]
theorem kKeys_lettersOf : bOK cX4_lettersOf 1 pKeys_lettersOf = true := by decide +kernel
def fKeys_lettersOf (x0 : Int32) : Option (Int32) :=
  if 5 ≤ x0 then
    if 25 ≤ x0 then
      some 3
    else
      some 2
  else
    some 1
theorem wKeys_lettersOf {X : MC} {G : GE} {n0 : Nat} (C : CX X G RX4 cX4_lettersOf pKeys_lettersOf 1 (some .int) n0) (htab : ∀ z ∈ X.2.2.2.2.2.2.2.2.exceptionTable.toList, False) {σ : Sg} {M : Mm} {n : Nat} (x0 : Int32) : JS X G 1 300 0 n0 (EM X G n0 2 300 (eR rvI σ M n)) (fKeys_lettersOf x0) (σ, M, n) 0 [(0, .inl x0)] [] := by
  unfold fKeys_lettersOf
  refine s_blk C 0 2 [0] (pc' := 2) (lv' := [(0, .inl x0)]) (st' := [.inl 5, .inl x0]) rfl ?_
  refine s_icge C 2 rfl (fun _ => ?_) (fun _ => ?_)
  · refine s_blk C 5 2 [] (pc' := 10) (lv' := []) (st' := [.inl 25, .inl x0]) rfl ?_
    refine s_icge C 7 rfl (fun _ => ?_) (fun _ => ?_)
    · refine s_blk C 10 1 [] (pc' := 18) (lv' := []) (st' := [.inl 3]) rfl ?_
      exact s_iret C 11 rfl rfl
    refine s_blk C 8 2 [] (pc' := 18) (lv' := []) (st' := [.inl 2]) rfl ?_
    exact s_iret C 11 rfl rfl
  refine s_blk C 3 1 [] (pc' := 6) (lv' := []) (st' := [.inl 1]) rfl ?_
  exact s_iret C 4 rfl rfl
theorem cKeys_lettersOf {l : Launch} {G : GE} (htr : l.stackTraces = false) (σ : Sg) (M : Mm) (n : Nat) (x0 : Int32) : ∀ o, fKeys_lettersOf x0 = some o → MetX l G yX4_lettersOf cX4_lettersOf 1 (some .int) 2 300 [.inl x0] (σ, M, n) ((eR rvI σ M n) o) :=
  c_ofX (by decide) kKeys_lettersOf htr rfl rfl fun X _ _ C htab => wKeys_lettersOf C htab x0
def pKeys_asWord : List BR := [(0, .iload_n 0, 1, 0, 1), (1, .invokestatic 9, 3, 0, 4), (4, .istore_n 1, 1, 0, 5), (5, .iload_n 1, 1, 0, 6), (6, .iconst 1, 1, 1, 7), (7, .if_icmp .ne (8), 3, 0, 15), (10, .iload_n 0, 1, 0, 11), (11, .bipush 25, 2, 25, 13), (13, .imul, 1, 0, 14), (14, .ireturn, 1, 0, 15), (15, .iload_n 1, 1, 0, 16), (16, .iconst 2, 1, 2, 17), (17, .if_icmp .ne (9), 3, 0, 26), (20, .iload_n 0, 1, 0, 21), (21, .iconst 5, 1, 5, 22), (22, .imul, 1, 0, 23), (23, .goto (4), 3, 0, 27), (26, .iload_n 0, 1, 0, 27), (27, .ireturn, 1, 0, 28)]
theorem kKeys_asWord : bOK cX4_asWord 2 pKeys_asWord = true := by decide +kernel
def fKeys_asWord (x0 : Int32) : Option (Int32) :=
  bdR (fKeys_lettersOf x0) fun v1 =>
  if v1 = 1 then
    some (x0 * 25)
  else
    if v1 = 2 then
      some (x0 * 5)
    else
      some x0
theorem wKeys_asWord {X : MC} {G : GE} {n0 : Nat} (C : CX X G RX4 cX4_asWord pKeys_asWord 2 (some .int) n0) (htab : ∀ z ∈ X.2.2.2.2.2.2.2.2.exceptionTable.toList, False) {σ : Sg} {M : Mm} {n : Nat} (x0 : Int32) : JS X G 2 300 0 n0 (EM X G n0 3 300 (eR rvI σ M n)) (fKeys_asWord x0) (σ, M, n) 0 [(0, .inl x0)] [] := by
  unfold fKeys_asWord
  refine s_blk C 0 1 [0] (pc' := 1) (lv' := [(0, .inl x0)]) (st' := [.inl x0]) rfl ?_
  refine s_RI (CE_EM _ _ _ _ _ _) (st := []) (fun o ho => j_callS (As := [.inl x0]) (st := []) C 1 rfl mf_Keys_lettersOf ml_X4_9 rfl (by decide) (by decide) (Nat.le_refl _) rfl (cKeys_lettersOf (CX_tr C) σ M n x0 o ho)) (fun v1 => ?_)
  refine s_blk C 2 3 [0, 1] (pc' := 7) (lv' := [(0, .inl x0), (1, .inl v1)]) (st' := [.inl 1, .inl v1]) rfl ?_
  refine s_icne C 5 rfl (fun _ => ?_) (fun _ => ?_)
  · refine s_blk C 6 3 [] (pc' := 14) (lv' := []) (st' := [.inl (x0 * 25)]) rfl ?_
    exact s_iret C 9 rfl rfl
  refine s_blk C 10 2 [0] (pc' := 17) (lv' := [(0, .inl x0)]) (st' := [.inl 2, .inl v1]) rfl ?_
  refine s_icne C 12 rfl (fun _ => ?_) (fun _ => ?_)
  · refine s_blk C 13 4 [] (pc' := 27) (lv' := []) (st' := [.inl (x0 * 5)]) rfl ?_
    exact s_iret C 18 rfl rfl
  refine s_blk C 17 1 [] (pc' := 27) (lv' := []) (st' := [.inl x0]) rfl ?_
  exact s_iret C 18 rfl rfl
theorem cKeys_asWord {l : Launch} {G : GE} (htr : l.stackTraces = false) (σ : Sg) (M : Mm) (n : Nat) (x0 : Int32) : ∀ o, fKeys_asWord x0 = some o → MetX l G yX4_asWord cX4_asWord 2 (some .int) 3 300 [.inl x0] (σ, M, n) ((eR rvI σ M n) o) :=
  c_ofX (by decide) kKeys_asWord htr rfl rfl fun X _ _ C htab => wKeys_asWord C htab x0
def pKeys_digit : List BR := [(0, .iload_n 0, 1, 0, 1), (1, .invokestatic 13, 3, 0, 4), (4, .istore_n 2, 1, 0, 5), (5, .iload_n 1, 1, 0, 6), (6, .tableswitch (41) (0) (2) #[(26), (31), (37)], 26, 0, 32), (32, .iload_n 2, 1, 0, 33), (33, .bipush 25, 2, 25, 35), (35, .idiv, 1, 0, 36), (36, .ireturn, 1, 0, 37), (37, .iload_n 2, 1, 0, 38), (38, .iconst 5, 1, 5, 39), (39, .idiv, 1, 0, 40), (40, .iconst 5, 1, 5, 41), (41, .irem, 1, 0, 42), (42, .ireturn, 1, 0, 43), (43, .iload_n 2, 1, 0, 44), (44, .iconst 5, 1, 5, 45), (45, .irem, 1, 0, 46), (46, .ireturn, 1, 0, 47), (47, .iconst 0, 1, 0, 48), (48, .ireturn, 1, 0, 49)]
theorem kKeys_digit : bOK cX4_digit 3 pKeys_digit = true := by decide +kernel
def fKeys_digit (x0 : Int32) (x1 : Int32) : Option (Int32) :=
  bdR (fKeys_asWord x0) fun v1 =>
  tsw 0 2 x1 (tsl [
    (some (v1 / 25)),
    (some ((v1 / 5) - (v1 / 5) / 5 * 5)),
    (some (v1 - v1 / 5 * 5))])
    (some 0)
theorem wKeys_digit {X : MC} {G : GE} {n0 : Nat} (C : CX X G RX4 cX4_digit pKeys_digit 3 (some .int) n0) (htab : ∀ z ∈ X.2.2.2.2.2.2.2.2.exceptionTable.toList, False) {σ : Sg} {M : Mm} {n : Nat} (x0 : Int32) (x1 : Int32) : JS X G 3 300 0 n0 (EM X G n0 4 300 (eR rvI σ M n)) (fKeys_digit x0 x1) (σ, M, n) 0 [(0, .inl x0), (1, .inl x1)] [] := by
  unfold fKeys_digit
  refine s_blk C 0 1 [1] (pc' := 1) (lv' := [(1, .inl x1)]) (st' := [.inl x0]) rfl ?_
  refine s_RI (CE_EM _ _ _ _ _ _) (st := []) (fun o ho => j_callS (As := [.inl x0]) (st := []) C 1 rfl mf_Keys_asWord ml_X4_13 rfl (by decide) (by decide) (Nat.le_refl _) rfl (cKeys_asWord (CX_tr C) σ M n x0 o ho)) (fun v1 => ?_)
  refine s_blk C 2 2 [2] (pc' := 6) (lv' := [(2, .inl v1)]) (st' := [.inl x1]) rfl ?_
  refine s_tsw C 4 (tg := 47) rfl (by decide) (by decide) ?_ (fun j off hj => ?_)
  · refine s_blk C 19 1 [] (pc' := 48) (lv' := []) (st' := [.inl 0]) rfl ?_
    exact s_iret C 20 rfl rfl
  rcases j with _ | _ | _ | j
  · obtain rfl : (26 : Int) = off := Option.some.inj hj
    refine ⟨32, by decide, ?_⟩
    dsimp only [tsl]
    refine s_blk C 5 2 [] (pc' := 35) (lv' := []) (st' := [.inl 25, .inl v1]) rfl ?_
    refine s_idiv C 7 rfl (by decide) ?_
    exact s_iret C 8 rfl rfl
  · obtain rfl : (31 : Int) = off := Option.some.inj hj
    refine ⟨37, by decide, ?_⟩
    dsimp only [tsl]
    refine s_blk C 9 2 [] (pc' := 39) (lv' := []) (st' := [.inl 5, .inl v1]) rfl ?_
    refine s_idiv C 11 rfl (by decide) ?_
    refine s_blk C 12 1 [] (pc' := 41) (lv' := []) (st' := [.inl 5, .inl (v1 / 5)]) rfl ?_
    refine s_irem C 13 rfl (by decide) ?_
    exact s_iret C 14 rfl rfl
  · obtain rfl : (37 : Int) = off := Option.some.inj hj
    refine ⟨43, by decide, ?_⟩
    dsimp only [tsl]
    refine s_blk C 15 2 [] (pc' := 45) (lv' := []) (st' := [.inl 5, .inl v1]) rfl ?_
    refine s_irem C 17 rfl (by decide) ?_
    exact s_iret C 18 rfl rfl
  exact absurd (Array.getElem?_eq_some_iff.mp hj).1 (Nat.not_lt.mpr (Nat.le_add_left 3 j))
theorem cKeys_digit {l : Launch} {G : GE} (htr : l.stackTraces = false) (σ : Sg) (M : Mm) (n : Nat) (x0 : Int32) (x1 : Int32) : ∀ o, fKeys_digit x0 x1 = some o → MetX l G yX4_digit cX4_digit 3 (some .int) 4 300 [.inl x0, .inl x1] (σ, M, n) ((eR rvI σ M n) o) :=
  c_ofX (by decide) kKeys_digit htr rfl rfl fun X _ _ C htab => wKeys_digit C htab x0 x1
def pHb_letter : List BR := [(0, .iload_n 1, 1, 0, 1), (1, .invokestatic 69, 3, 0, 4), (4, .iload_n 2, 1, 0, 5), (5, .ifCond .lt (7), 3, 0, 12), (8, .iconst 1, 1, 1, 9), (9, .goto (4), 3, 0, 13), (12, .iconst 0, 1, 0, 13), (13, .invokestatic 115, 3, 0, 16), (16, .iload_n 1, 1, 0, 17), (17, .iload_n 2, 1, 0, 18), (18, .invokestatic 283, 3, 0, 21), (21, .istore_n 3, 1, 0, 22), (22, .iload_n 3, 1, 0, 23), (23, .ifCond .ne (8), 3, 0, 31), (26, .bipush 32, 2, 32, 28), (28, .goto (10), 3, 0, 38), (31, .bipush 97, 2, 97, 33), (33, .iload_n 3, 1, 0, 34), (34, .iadd, 1, 0, 35), (35, .iconst 1, 1, 1, 36), (36, .isub, 1, 0, 37), (37, .i2c, 1, 0, 38), (38, .ireturn, 1, 0, 39)]
theorem kHb_letter : bOK cX11_letter 4 pHb_letter = true := by decide +kernel
def fHb_letter_j13 (a0 : Nat) (x1 : Int32) (x2 : Int32) (s0 : Int32) (M : Mm) (n : Nat) : Option ((Int32 ⊕ Nat) × Mm × Nat) :=
  bdC (fHb_checkIndex s0 M n) n fun v1 M2 n3 =>
  bdR (fKeys_digit x1 x2) fun v4 =>
  if v4 = 0 then
    rC 32 (some (.inl 32, M2, n3))
  else
    rC (((((97 + v4) - 1)).toUInt32 % 65536).toInt32) (some (.inl (((((97 + v4) - 1)).toUInt32 % 65536).toInt32), M2, n3))
theorem wHb_letter_j13 {X : MC} {G : GE} {n0 : Nat} (C : CX X G RX11 cX11_letter pHb_letter 4 (some .char) n0) (htab : ∀ z ∈ X.2.2.2.2.2.2.2.2.exceptionTable.toList, False) {σ : Sg} (a0 : Nat) (x1 : Int32) (x2 : Int32) (s0 : Int32) (M : Mm) (n : Nat) : JS X G 4 300 0 n0 (EM X G n0 8 300 (eC rvI σ)) (fHb_letter_j13 a0 x1 x2 s0 M n) (σ, M, n) 13 [(1, .inl x1), (2, .inl x2)] [.inl s0] := by
  unfold fHb_letter_j13
  refine s_CU C htab (st := []) (fun o ho => j_callS (As := [.inl s0]) (st := []) C 7 rfl mf_Hb_checkIndex ml_X11_115 rfl (by decide) (by decide) (Nat.le_refl _) rfl (cHb_checkIndex (CX_tr C) σ M n s0 o ho)) (fun v1 M2 n3 _ => ?_)
  refine s_blk C 8 2 [] (pc' := 18) (lv' := []) (st' := [.inl x2, .inl x1]) rfl ?_
  refine s_RI (CE_EM _ _ _ _ _ _) (st := []) (fun o ho => j_callS (As := [.inl x1, .inl x2]) (st := []) C 10 rfl mf_Keys_digit ml_X11_283 rfl (by decide) (by decide) (Nat.le_refl _) rfl (cKeys_digit (CX_tr C) σ M2 n3 x1 x2 o ho)) (fun v4 => ?_)
  refine s_blk C 11 2 [3] (pc' := 23) (lv' := [(3, .inl v4)]) (st' := [.inl v4]) rfl ?_
  refine s_ine C 13 rfl (fun _ => ?_) (fun _ => ?_)
  · refine s_blk C 14 2 [] (pc' := 38) (lv' := []) (st' := [.inl 32]) rfl ?_
    exact s_cret C 22 rfl rfl
  refine s_blk C 16 6 [] (pc' := 38) (lv' := []) (st' := [.inl (((((97 + v4) - 1)).toUInt32 % 65536).toInt32)]) rfl ?_
  exact s_cret C 22 rfl rfl
def fHb_letter (a0 : Nat) (x1 : Int32) (x2 : Int32) (M : Mm) (n : Nat) : Option ((Int32 ⊕ Nat) × Mm × Nat) :=
  bdC (fHb_checkKey x1 M n) n fun v1 M2 n3 =>
  if x2 < 0 then
    fHb_letter_j13 a0 x1 x2 0 M2 n3
  else
    fHb_letter_j13 a0 x1 x2 1 M2 n3
theorem wHb_letter {X : MC} {G : GE} {n0 : Nat} (C : CX X G RX11 cX11_letter pHb_letter 4 (some .char) n0) (htab : ∀ z ∈ X.2.2.2.2.2.2.2.2.exceptionTable.toList, False) {σ : Sg} (a0 : Nat) (x1 : Int32) (x2 : Int32) (M : Mm) (n : Nat) : JS X G 4 300 0 n0 (EM X G n0 8 300 (eC rvI σ)) (fHb_letter a0 x1 x2 M n) (σ, M, n) 0 [(0, .inr (.inl (some a0))), (1, .inl x1), (2, .inl x2)] [] := by
  unfold fHb_letter
  refine s_blk C 0 1 [1, 2] (pc' := 1) (lv' := [(1, .inl x1), (2, .inl x2)]) (st' := [.inl x1]) rfl ?_
  refine s_CU C htab (st := []) (fun o ho => j_callS (As := [.inl x1]) (st := []) C 1 rfl mf_Hb_checkKey ml_X11_69 rfl (by decide) (by decide) (Nat.le_refl _) rfl (cHb_checkKey (CX_tr C) σ M n x1 o ho)) (fun v1 M2 n3 _ => ?_)
  refine s_blk C 2 1 [1, 2] (pc' := 5) (lv' := [(1, .inl x1), (2, .inl x2)]) (st' := [.inl x2]) rfl ?_
  refine s_ilt C 3 rfl (fun _ => ?_) (fun _ => ?_)
  · refine s_blk C 6 1 [1, 2] (pc' := 13) (lv' := [(1, .inl x1), (2, .inl x2)]) (st' := [.inl 0]) rfl ?_
    exact wHb_letter_j13 C htab a0 _ _ _ _ _
  refine s_blk C 4 2 [1, 2] (pc' := 13) (lv' := [(1, .inl x1), (2, .inl x2)]) (st' := [.inl 1]) rfl ?_
  exact wHb_letter_j13 C htab a0 _ _ _ _ _
theorem cHb_letter {l : Launch} {G : GE} (htr : l.stackTraces = false) (σ : Sg) (M : Mm) (n : Nat) (a0 : Nat) (x1 : Int32) (x2 : Int32) : ∀ o, fHb_letter a0 x1 x2 M n = some o → MetX l G yX11_letter cX11_letter 4 (some .char) 8 300 [.inr (.inl (some a0)), .inl x1, .inl x2] (σ, M, n) ((eC rvI σ) o) :=
  c_ofX (by decide) kHb_letter htr rfl rfl fun X _ _ C htab => wHb_letter C htab a0 x1 x2 _ _
def pKeys_wordBehind : List BR := [(0, .iload_n 0, 1, 0, 1), (1, .ifCond .ne (8), 3, 0, 9), (4, .bipush 25, 2, 25, 6), (6, .goto (9), 3, 0, 15), (9, .iload_n 0, 1, 0, 10), (10, .invokestatic 13, 3, 0, 13), (13, .iconst 1, 1, 1, 14), (14, .iadd, 1, 0, 15), (15, .ireturn, 1, 0, 16)]
theorem kKeys_wordBehind : bOK cX4_wordBehind 1 pKeys_wordBehind = true := by decide +kernel
def fKeys_wordBehind (x0 : Int32) : Option (Int32) :=
  if x0 = 0 then
    some 25
  else
    bdR (fKeys_asWord x0) fun v1 =>
    some (v1 + 1)
theorem wKeys_wordBehind {X : MC} {G : GE} {n0 : Nat} (C : CX X G RX4 cX4_wordBehind pKeys_wordBehind 1 (some .int) n0) (htab : ∀ z ∈ X.2.2.2.2.2.2.2.2.exceptionTable.toList, False) {σ : Sg} {M : Mm} {n : Nat} (x0 : Int32) : JS X G 1 300 0 n0 (EM X G n0 4 300 (eR rvI σ M n)) (fKeys_wordBehind x0) (σ, M, n) 0 [(0, .inl x0)] [] := by
  unfold fKeys_wordBehind
  refine s_blk C 0 1 [0] (pc' := 1) (lv' := [(0, .inl x0)]) (st' := [.inl x0]) rfl ?_
  refine s_ine C 1 rfl (fun _ => ?_) (fun _ => ?_)
  · refine s_blk C 2 2 [] (pc' := 15) (lv' := []) (st' := [.inl 25]) rfl ?_
    exact s_iret C 8 rfl rfl
  refine s_blk C 4 1 [] (pc' := 10) (lv' := []) (st' := [.inl x0]) rfl ?_
  refine s_RI (CE_EM _ _ _ _ _ _) (st := []) (fun o ho => j_callS (As := [.inl x0]) (st := []) C 5 rfl mf_Keys_asWord ml_X4_13 rfl (by decide) (by decide) (Nat.le_refl _) rfl (cKeys_asWord (CX_tr C) σ M n x0 o ho)) (fun v1 => ?_)
  refine s_blk C 6 2 [] (pc' := 15) (lv' := []) (st' := [.inl (v1 + 1)]) rfl ?_
  exact s_iret C 8 rfl rfl
theorem cKeys_wordBehind {l : Launch} {G : GE} (htr : l.stackTraces = false) (σ : Sg) (M : Mm) (n : Nat) (x0 : Int32) : ∀ o, fKeys_wordBehind x0 = some o → MetX l G yX4_wordBehind cX4_wordBehind 1 (some .int) 4 300 [.inl x0] (σ, M, n) ((eR rvI σ M n) o) :=
  c_ofX (by decide) kKeys_wordBehind htr rfl rfl fun X _ _ C htab => wKeys_wordBehind C htab x0
def pKeys_ofWord : List BR := [(0, .iload_n 0, 1, 0, 1), (1, .bipush 25, 2, 25, 3), (3, .irem, 1, 0, 4), (4, .ifCond .ne (8), 3, 0, 12), (7, .iload_n 0, 1, 0, 8), (8, .bipush 25, 2, 25, 10), (10, .idiv, 1, 0, 11), (11, .ireturn, 1, 0, 12), (12, .iload_n 0, 1, 0, 13), (13, .iconst 5, 1, 5, 14), (14, .irem, 1, 0, 15), (15, .ifCond .ne (9), 3, 0, 24), (18, .iload_n 0, 1, 0, 19), (19, .iconst 5, 1, 5, 20), (20, .idiv, 1, 0, 21), (21, .goto (4), 3, 0, 25), (24, .iload_n 0, 1, 0, 25), (25, .ireturn, 1, 0, 26)]
theorem kKeys_ofWord : bOK cX4_ofWord 1 pKeys_ofWord = true := by decide +kernel
def fKeys_ofWord (x0 : Int32) : Option (Int32) :=
  if (x0 - x0 / 25 * 25) = 0 then
    some (x0 / 25)
  else
    if (x0 - x0 / 5 * 5) = 0 then
      some (x0 / 5)
    else
      some x0
theorem wKeys_ofWord {X : MC} {G : GE} {n0 : Nat} (C : CX X G RX4 cX4_ofWord pKeys_ofWord 1 (some .int) n0) (htab : ∀ z ∈ X.2.2.2.2.2.2.2.2.exceptionTable.toList, False) {σ : Sg} {M : Mm} {n : Nat} (x0 : Int32) : JS X G 1 300 0 n0 (EM X G n0 2 300 (eR rvI σ M n)) (fKeys_ofWord x0) (σ, M, n) 0 [(0, .inl x0)] [] := by
  unfold fKeys_ofWord
  refine s_blk C 0 2 [0] (pc' := 3) (lv' := [(0, .inl x0)]) (st' := [.inl 25, .inl x0]) rfl ?_
  refine s_irem C 2 rfl (by decide) ?_
  refine s_ine C 3 rfl (fun _ => ?_) (fun _ => ?_)
  · refine s_blk C 4 2 [] (pc' := 10) (lv' := []) (st' := [.inl 25, .inl x0]) rfl ?_
    refine s_idiv C 6 rfl (by decide) ?_
    exact s_iret C 7 rfl rfl
  refine s_blk C 8 2 [0] (pc' := 14) (lv' := [(0, .inl x0)]) (st' := [.inl 5, .inl x0]) rfl ?_
  refine s_irem C 10 rfl (by decide) ?_
  refine s_ine C 11 rfl (fun _ => ?_) (fun _ => ?_)
  · refine s_blk C 12 2 [] (pc' := 20) (lv' := []) (st' := [.inl 5, .inl x0]) rfl ?_
    refine s_idiv C 14 rfl (by decide) ?_
    refine s_blk C 15 1 [] (pc' := 25) (lv' := []) (st' := [.inl (x0 / 5)]) rfl ?_
    exact s_iret C 17 rfl rfl
  refine s_blk C 16 1 [] (pc' := 25) (lv' := []) (st' := [.inl x0]) rfl ?_
  exact s_iret C 17 rfl rfl
theorem cKeys_ofWord {l : Launch} {G : GE} (htr : l.stackTraces = false) (σ : Sg) (M : Mm) (n : Nat) (x0 : Int32) : ∀ o, fKeys_ofWord x0 = some o → MetX l G yX4_ofWord cX4_ofWord 1 (some .int) 2 300 [.inl x0] (σ, M, n) ((eR rvI σ M n) o) :=
  c_ofX (by decide) kKeys_ofWord htr rfl rfl fun X _ _ C htab => wKeys_ofWord C htab x0

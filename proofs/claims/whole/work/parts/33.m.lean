def pAl_add0_0 : List BR := [(0, .aload_n 0, 1, 0, 1), (1, .iload_n 1, 1, 0, 2), (2, .invokevirtual 135, 3, 0, 5), (5, .aload_n 0, 1, 0, 6), (6, .dup, 1, 0, 7), (7, .getfield 63, 3, 0, 10), (10, .iconst 1, 1, 1, 11), (11, .iadd, 1, 0, 12), (12, .putfield 63, 3, 0, 15), (15, .aload_n 0, 1, 0, 16), (16, .getfield 48, 3, 0, 19), (19, .dup, 1, 0, 20), (20, .istore_n 3, 1, 0, 21), (21, .aload_n 0, 1, 0, 22), (22, .getfield 9, 3, 0, 25), (25, .dup, 1, 0, 26), (26, .astore 4, 2, 0, 28), (28, .arraylength, 1, 0, 29), (29, .if_icmp .ne (9), 3, 0, 38), (32, .aload_n 0, 1, 0, 33), (33, .invokevirtual 129, 3, 0, 36), (36, .astore 4, 2, 0, 38), (38, .aload 4, 2, 0, 40), (40, .iload_n 1, 1, 0, 41), (41, .aload 4, 2, 0, 43), (43, .iload_n 1, 1, 0, 44), (44, .iconst 1, 1, 1, 45), (45, .iadd, 1, 0, 46), (46, .iload_n 3, 1, 0, 47), (47, .iload_n 1, 1, 0, 48), (48, .isub, 1, 0, 49), (49, .invokestatic 112, 3, 0, 52), (52, .aload 4, 2, 0, 54), (54, .iload_n 1, 1, 0, 55), (55, .aload_n 2, 1, 0, 56), (56, .aastore, 1, 0, 57), (57, .aload_n 0, 1, 0, 58), (58, .iload_n 3, 1, 0, 59), (59, .iconst 1, 1, 1, 60), (60, .iadd, 1, 0, 61)]
theorem kAl_add0_0 : bOK cJx4a65c_add_7a177 5 pAl_add0_0 = true := by decide +kernel
def pAl_add0_1 : List BR := [(61, .putfield 48, 3, 0, 64), (64, .return_, 1, 0, 65)]
theorem kAl_add0_1 : bOK cJx4a65c_add_7a177 5 pAl_add0_1 = true := by decide +kernel
def pAl_add0 : List BR := (pAl_add0_0 ++ pAl_add0_1)
theorem kAl_add0 : bOK cJx4a65c_add_7a177 5 pAl_add0 = true := (bOK_app kAl_add0_0 kAl_add0_1)
def fAl_add0_j38 (a0 : Nat) (x1 : Int32) (r2 : Option Nat) (x3 : Int32) (r4 : Option Nat) (M : Mm) (n : Nat) : Option ((Unit ⊕ Nat) × Mm × Nat) :=
  acp r4 x1 r4 (x1 + 1) (x3 - x1) M fun M1 =>
  asP 23 r4 x1 r2 M1 fun M2 =>
  fpI 12 1202 (some a0) (x3 + 1) M2 fun M3 =>
  some (.inl (), M3, n)
theorem wAl_add0_j38 {X : MC} {G : GE} {n0 : Nat} (C : CX X G RJx4a65c cJx4a65c_add_7a177 pAl_add0 5 none n0) (htab : ∀ z ∈ X.2.2.2.2.2.2.2.2.exceptionTable.toList, False) {σ : Sg} (a0 : Nat) (x1 : Int32) (r2 : Option Nat) (x3 : Int32) (r4 : Option Nat) (M : Mm) (n : Nat) : JS X G 5 300 0 n0 (EM X G n0 6 300 (eC rvU σ)) (fAl_add0_j38 a0 x1 r2 x3 r4 M n) (σ, M, n) 38 [(0, .inr (.inl (some a0))), (1, .inl x1), (2, .inr (.inl r2)), (3, .inl x3), (4, .inr (.inl r4))] [] := by
  unfold fAl_add0_j38
  refine s_blk C 22 9 [0, 1, 2, 3, 4] (pc' := 49) (lv' := [(0, .inr (.inl (some a0))), (1, .inl x1), (2, .inr (.inl r2)), (3, .inl x3), (4, .inr (.inl r4))]) (st' := [.inl (x3 - x1), .inl (x1 + 1), .inr (.inl r4), .inl x1, .inr (.inl r4)]) rfl ?_
  refine s_acp C (CE_EM _ _ _ _ _ _) 31 rfl ml_Jx4a65c_112 (by decide) rfl (fun M1 => ?_)
  refine s_blk C 32 3 [0, 3] (pc' := 56) (lv' := [(0, .inr (.inl (some a0))), (3, .inl x3)]) (st' := [.inr (.inl r2), .inl x1, .inr (.inl r4)]) rfl ?_
  refine s_stP C 35 rfl (Or.inl rfl) (fun M2 _ => ?_)
  refine s_blk C 36 4 [] (pc' := 61) (lv' := []) (st' := [.inl (x3 + 1), .inr (.inl (some a0))]) rfl ?_
  refine s_pI C 40 rfl fl_Jx4a65c_48 fp_Jx4a65c_12_2 (fun h => Bool.noConfusion h) rfl rfl (fun M3 _ => ?_)
  exact s_vret C 41 rfl rfl
def fAl_add0 (a0 : Nat) (x1 : Int32) (r2 : Option Nat) (M : Mm) (n : Nat) : Option ((Unit ⊕ Nat) × Mm × Nat) :=
  rk 12 (some a0) M fun _ =>
  bdR (fAl_rangeCheckForAdd a0 x1 M) fun v2 =>
  fgI 12 1200 (some a0) M fun v3 =>
  fpI 12 1200 (some a0) (v3 + 1) M fun M4 =>
  fgI 12 1202 (some a0) M4 fun v5 =>
  fgR 12 1201 (some a0) M4 fun v6 =>
  aln v6 M4 fun v7 =>
  if v5 = v7 then
    rk 12 (some a0) M4 fun _ =>
    bdC (fAl_grow0 a0 M4 n) n fun v9 M10 n11 =>
    fAl_add0_j38 a0 x1 r2 v5 v9 M10 n11
  else
    fAl_add0_j38 a0 x1 r2 v5 v6 M4 n
theorem wAl_add0 {X : MC} {G : GE} {n0 : Nat} (C : CX X G RJx4a65c cJx4a65c_add_7a177 pAl_add0 5 none n0) (htab : ∀ z ∈ X.2.2.2.2.2.2.2.2.exceptionTable.toList, False) {σ : Sg} (a0 : Nat) (x1 : Int32) (r2 : Option Nat) (M : Mm) (n : Nat) : JS X G 5 300 0 n0 (EM X G n0 6 300 (eC rvU σ)) (fAl_add0 a0 x1 r2 M n) (σ, M, n) 0 [(0, .inr (.inl (some a0))), (1, .inl x1), (2, .inr (.inl r2))] [] := by
  unfold fAl_add0
  refine s_blk C 0 2 [0, 1, 2] (pc' := 2) (lv' := [(0, .inr (.inl (some a0))), (1, .inl x1), (2, .inr (.inl r2))]) (st' := [.inl x1, .inr (.inl (some a0))]) rfl ?_
  refine s_rks (fun hk1 => ?_)
  refine s_RU (CE_EM _ _ _ _ _ _) (st := []) (fun o ho => j_callV (As := [.inl x1]) (st := []) (b := a0) C 2 rfl mf_Al_rangeCheckForAdd ml_Jx4a65c_135 rfl (recv_K C (by decide) (by decide) rfl hk1) (by decide) (by decide) (Nat.le_refl _) rfl (cAl_rangeCheckForAdd (CX_tr C) σ M n a0 x1 o ho)) (fun v2 => ?_)
  refine s_blk C 3 2 [0, 1, 2] (pc' := 7) (lv' := [(0, .inr (.inl (some a0))), (1, .inl x1), (2, .inr (.inl r2))]) (st' := [.inr (.inl (some a0)), .inr (.inl (some a0))]) rfl ?_
  refine s_gI C 5 rfl fl_Jx4a65c_63 rfl rfl (fun v3 => ?_)
  refine s_blk C 6 2 [0, 1, 2] (pc' := 12) (lv' := [(0, .inr (.inl (some a0))), (1, .inl x1), (2, .inr (.inl r2))]) (st' := [.inl (v3 + 1), .inr (.inl (some a0))]) rfl ?_
  refine s_pI C 8 rfl fl_Jx4a65c_63 fp_Jx4a65c_12_0 (fun h => Bool.noConfusion h) rfl rfl (fun M4 _ => ?_)
  refine s_blk C 9 1 [0, 1, 2] (pc' := 16) (lv' := [(0, .inr (.inl (some a0))), (1, .inl x1), (2, .inr (.inl r2))]) (st' := [.inr (.inl (some a0))]) rfl ?_
  refine s_gI C 10 rfl fl_Jx4a65c_48 rfl rfl (fun v5 => ?_)
  refine s_blk C 11 3 [0, 1, 2, 3] (pc' := 22) (lv' := [(0, .inr (.inl (some a0))), (1, .inl x1), (2, .inr (.inl r2)), (3, .inl v5)]) (st' := [.inr (.inl (some a0)), .inl v5]) rfl ?_
  refine s_gR C 14 rfl fl_Jx4a65c_9 rfl rfl (fun v6 => ?_)
  refine s_blk C 15 2 [0, 1, 2, 3, 4] (pc' := 28) (lv' := [(0, .inr (.inl (some a0))), (1, .inl x1), (2, .inr (.inl r2)), (3, .inl v5), (4, .inr (.inl v6))]) (st' := [.inr (.inl v6), .inl v5]) rfl ?_
  refine s_len C 17 rfl (fun v7 => ?_)
  refine s_icne C 18 rfl (fun _ => ?_) (fun _ => ?_)
  · refine s_blk C 19 1 [0, 1, 2, 3] (pc' := 33) (lv' := [(0, .inr (.inl (some a0))), (1, .inl x1), (2, .inr (.inl r2)), (3, .inl v5)]) (st' := [.inr (.inl (some a0))]) rfl ?_
    refine s_rks (fun hk8 => ?_)
    refine s_CR C htab (st := []) (fun o ho => j_callV (As := []) (st := []) (b := a0) C 20 rfl mf_Al_grow0 ml_Jx4a65c_129 rfl (recv_K C (by decide) (by decide) rfl hk8) (by decide) (by decide) (Nat.le_refl _) rfl (cAl_grow0 (CX_tr C) σ M4 n a0 o ho)) (fun v9 M10 n11 _ => ?_)
    refine s_blk C 21 1 [0, 1, 2, 3, 4] (pc' := 38) (lv' := [(0, .inr (.inl (some a0))), (1, .inl x1), (2, .inr (.inl r2)), (3, .inl v5), (4, .inr (.inl v9))]) (st' := []) rfl ?_
    exact wAl_add0_j38 C htab a0 _ _ _ _ _ _
  exact wAl_add0_j38 C htab a0 _ _ _ _ _ _
theorem cAl_add0 {l : Launch} {G : GE} (htr : l.stackTraces = false) (σ : Sg) (M : Mm) (n : Nat) (a0 : Nat) (x1 : Int32) (r2 : Option Nat) : ∀ o, fAl_add0 a0 x1 r2 M n = some o → MetX l G yJx4a65c_add_7a177 cJx4a65c_add_7a177 5 none 6 300 [.inr (.inl (some a0)), .inl x1, .inr (.inl r2)] (σ, M, n) ((eC rvU σ) o) :=
  c_ofX (by decide) kAl_add0 htr rfl rfl fun X _ _ C htab => wAl_add0 C htab a0 x1 r2 _ _
def pRegion_take_0 : List BR := [(0, .aload_n 0, 1, 0, 1), (1, .getfield 21, 3, 0, 4), (4, .invokevirtual 32, 3, 0, 7), (7, .istore_n 2, 1, 0, 8), (8, .aload_n 0, 1, 0, 9), (9, .getfield 21, 3, 0, 12), (12, .invokevirtual 32, 3, 0, 15), (15, .iconst 1, 1, 1, 16), (16, .isub, 1, 0, 17), (17, .istore_n 3, 1, 0, 18), (18, .iload_n 3, 1, 0, 19), (19, .ifCond .lt (35), 3, 0, 54), (22, .aload_n 0, 1, 0, 23), (23, .getfield 21, 3, 0, 26), (26, .iload_n 3, 1, 0, 27), (27, .invokevirtual 36, 3, 0, 30), (30, .checkcast 40, 3, 0, 33), (33, .getfield 42, 3, 0, 36), (36, .getfield 52, 3, 0, 39), (39, .aload_n 1, 1, 0, 40), (40, .getfield 52, 3, 0, 43), (43, .if_icmp .le (11), 3, 0, 54), (46, .iload_n 3, 1, 0, 47), (47, .istore_n 2, 1, 0, 48), (48, .iinc 3 (-1), 3, -1, 51), (51, .goto (-33), 3, 0, 18), (54, .aload_n 0, 1, 0, 55), (55, .getfield 21, 3, 0, 58), (58, .iload_n 2, 1, 0, 59), (59, .new 40, 3, 0, 62), (62, .dup, 1, 0, 63), (63, .aload_n 1, 1, 0, 64), (64, .aload_n 0, 1, 0, 65), (65, .getfield 12, 3, 0, 68), (68, .aload_n 1, 1, 0, 69), (69, .getfield 67, 3, 0, 72), (72, .invokevirtual 71, 3, 0, 75), (75, .invokespecial 75, 3, 0, 78), (78, .invokevirtual 78, 3, 0, 81), (81, .aload_n 1, 1, 0, 82)]
theorem kRegion_take_0 : bOK cX6_take 4 pRegion_take_0 = true := by decide +kernel
def pRegion_take_1 : List BR := [(82, .getfield 52, 3, 0, 85), (85, .ifCond .lt (25), 3, 0, 110), (88, .aload_n 1, 1, 0, 89), (89, .getfield 52, 3, 0, 92), (92, .aload_n 0, 1, 0, 93), (93, .getfield 28, 3, 0, 96), (96, .arraylength, 1, 0, 97), (97, .if_icmp .ge (13), 3, 0, 110), (100, .aload_n 0, 1, 0, 101), (101, .getfield 28, 3, 0, 104), (104, .aload_n 1, 1, 0, 105), (105, .getfield 52, 3, 0, 108), (108, .iconst 1, 1, 1, 109), (109, .bastore, 1, 0, 110), (110, .return_, 1, 0, 111)]
theorem kRegion_take_1 : bOK cX6_take 4 pRegion_take_1 = true := by decide +kernel
def pRegion_take : List BR := (pRegion_take_0 ++ pRegion_take_1)
theorem kRegion_take : bOK cX6_take 4 pRegion_take = true := (bOK_app kRegion_take_0 kRegion_take_1)
def fRegion_take_j54 (a0 : Nat) (r1 : Option Nat) (x2 : Int32) (M : Mm) (n : Nat) : Option ((Unit ⊕ Nat) × Mm × Nat) :=
  fgR 6 601 (some a0) M fun v1 =>
  nwO 10 M n fun y2 M3 n4 =>
  fgR 6 600 (some a0) M3 fun v5 =>
  fgR 4 403 r1 M3 fun v6 =>
  rk 8 v5 M3 fun a7 =>
  bdC (fStore_takeIn a7 v6 M3 n4) n4 fun v10 M11 n12 =>
  rk 10 y2 M11 fun a13 =>
  bdW (fVersion_init a13 r1 v10 M11) fun v16 M17 =>
  rk 12 v1 M17 fun a18 =>
  bdC (fAl_add0 a18 x2 y2 M17 n12) n12 fun v21 M22 n23 =>
  fgI 4 401 r1 M22 fun v24 =>
  if v24 < 0 then
    some (.inl (), M22, n23)
  else
    fgI 4 401 r1 M22 fun v25 =>
    fgR 6 603 (some a0) M22 fun v26 =>
    aln v26 M22 fun v27 =>
    if v27 ≤ v25 then
      some (.inl (), M22, n23)
    else
      fgR 6 603 (some a0) M22 fun v28 =>
      fgI 4 401 r1 M22 fun v29 =>
      asZ v28 v29 1 M22 fun M30 =>
      some (.inl (), M30, n23)
theorem wRegion_take_j54 {X : MC} {G : GE} {n0 : Nat} (C : CX X G RX6 cX6_take pRegion_take 4 none n0) (htab : ∀ z ∈ X.2.2.2.2.2.2.2.2.exceptionTable.toList, False) {σ : Sg} (a0 : Nat) (r1 : Option Nat) (x2 : Int32) (M : Mm) (n : Nat) : JS X G 4 300 0 n0 (EM X G n0 10 300 (eC rvU σ)) (fRegion_take_j54 a0 r1 x2 M n) (σ, M, n) 54 [(0, .inr (.inl (some a0))), (1, .inr (.inl r1)), (2, .inl x2)] [] := by
  unfold fRegion_take_j54
  refine s_blk C 26 1 [0, 1, 2] (pc' := 55) (lv' := [(0, .inr (.inl (some a0))), (1, .inr (.inl r1)), (2, .inl x2)]) (st' := [.inr (.inl (some a0))]) rfl ?_
  refine s_gR C 27 rfl fl_X6_21 rfl rfl (fun v1 => ?_)
  refine s_blk C 28 1 [0, 1] (pc' := 59) (lv' := [(0, .inr (.inl (some a0))), (1, .inr (.inl r1))]) (st' := [.inl x2, .inr (.inl v1)]) rfl ?_
  refine s_new C (CE_EM _ _ _ _ _ _) 29 rfl cl_X6_40 (by decide) (fun y2 M3 n4 _ _ => ?_)
  refine s_blk C 30 3 [0, 1] (pc' := 65) (lv' := [(0, .inr (.inl (some a0))), (1, .inr (.inl r1))]) (st' := [.inr (.inl (some a0)), .inr (.inl r1), .inr (.inl y2), .inr (.inl y2), .inl x2, .inr (.inl v1)]) rfl ?_
  refine s_gR C 33 rfl fl_X6_12 rfl rfl (fun v5 => ?_)
  refine s_blk C 34 1 [0, 1] (pc' := 69) (lv' := [(0, .inr (.inl (some a0))), (1, .inr (.inl r1))]) (st' := [.inr (.inl r1), .inr (.inl v5), .inr (.inl r1), .inr (.inl y2), .inr (.inl y2), .inl x2, .inr (.inl v1)]) rfl ?_
  refine s_gR C 35 rfl fl_X6_67 rfl rfl (fun v6 => ?_)
  refine s_rk (fun a7 ha8 hk9 => ?_)
  subst ha8
  refine s_CR C htab (st := [.inr (.inl r1), .inr (.inl y2), .inr (.inl y2), .inl x2, .inr (.inl v1)]) (fun o ho => j_callV (As := [.inr (.inl v6)]) (st := [.inr (.inl r1), .inr (.inl y2), .inr (.inl y2), .inl x2, .inr (.inl v1)]) (b := a7) C 36 rfl mf_Store_takeIn ml_X6_71 rfl (recv_K C (by decide) (by decide) rfl hk9) (by decide) (by decide) (Nat.le_refl _) rfl (cStore_takeIn (CX_tr C) σ M3 n4 a7 v6 o ho)) (fun v10 M11 n12 _ => ?_)
  refine s_rk (fun a13 ha14 hk15 => ?_)
  subst ha14
  refine s_WU (CE_EM _ _ _ _ _ _) (st := [.inr (.inl (some a13)), .inl x2, .inr (.inl v1)]) (fun o ho => j_callI (As := [.inr (.inl r1), .inr (.inl v10)]) (st := [.inr (.inl (some a13)), .inl x2, .inr (.inl v1)]) (b := a13) C 37 rfl mf_Version_init (Or.inl ml_X6_75) rfl (by decide) (by decide) (Nat.le_refl _) rfl (cVersion_init (CX_tr C) σ M11 n12 a13 r1 v10 o ho) rfl) (fun v16 M17 => ?_)
  refine s_rk (fun a18 ha19 hk20 => ?_)
  subst ha19
  refine s_CU C htab (st := []) (fun o ho => j_callV (As := [.inl x2, .inr (.inl (some a13))]) (st := []) (b := a18) C 38 rfl mf_Al_add0 ml_X6_78 rfl (recv_K C (by decide) (by decide) rfl hk20) (by decide) (by decide) (Nat.le_refl _) rfl (cAl_add0 (CX_tr C) σ M17 n12 a18 x2 (some a13) o ho)) (fun v21 M22 n23 _ => ?_)
  refine s_blk C 39 1 [0, 1] (pc' := 82) (lv' := [(0, .inr (.inl (some a0))), (1, .inr (.inl r1))]) (st' := [.inr (.inl r1)]) rfl ?_
  refine s_gI C 40 rfl fl_X6_52 rfl rfl (fun v24 => ?_)
  refine s_ilt C 41 rfl (fun _ => ?_) (fun _ => ?_)
  · exact s_vret C 54 rfl rfl
  refine s_blk C 42 1 [0, 1] (pc' := 89) (lv' := [(0, .inr (.inl (some a0))), (1, .inr (.inl r1))]) (st' := [.inr (.inl r1)]) rfl ?_
  refine s_gI C 43 rfl fl_X6_52 rfl rfl (fun v25 => ?_)
  refine s_blk C 44 1 [0, 1] (pc' := 93) (lv' := [(0, .inr (.inl (some a0))), (1, .inr (.inl r1))]) (st' := [.inr (.inl (some a0)), .inl v25]) rfl ?_
  refine s_gR C 45 rfl fl_X6_28 rfl rfl (fun v26 => ?_)
  refine s_len C 46 rfl (fun v27 => ?_)
  refine s_icge C 47 rfl (fun _ => ?_) (fun _ => ?_)
  · exact s_vret C 54 rfl rfl
  refine s_blk C 48 1 [1] (pc' := 101) (lv' := [(1, .inr (.inl r1))]) (st' := [.inr (.inl (some a0))]) rfl ?_
  refine s_gR C 49 rfl fl_X6_28 rfl rfl (fun v28 => ?_)
  refine s_blk C 50 1 [] (pc' := 105) (lv' := []) (st' := [.inr (.inl r1), .inr (.inl v28)]) rfl ?_
  refine s_gI C 51 rfl fl_X6_52 rfl rfl (fun v29 => ?_)
  refine s_blk C 52 1 [] (pc' := 109) (lv' := []) (st' := [.inl 1, .inl v29, .inr (.inl v28)]) rfl ?_
  refine s_stZ C 53 rfl (fun M30 _ => ?_)
  exact s_vret C 54 rfl rfl
def fRegion_take_b18 (a0 : Nat) (k18 : Option Nat → Int32 → Int32 → Mm → Nat → Option ((Unit ⊕ Nat) × Mm × Nat)) (r1 : Option Nat) (x2 : Int32) (x3 : Int32) (M : Mm) (n : Nat) : Option ((Unit ⊕ Nat) × Mm × Nat) :=
  if x3 < 0 then
    fRegion_take_j54 a0 r1 x2 M n
  else
    fgR 6 601 (some a0) M fun v1 =>
    rk 12 v1 M fun a2 =>
    bdR (fAl_get a2 x3 M) fun v5 =>
    fca 10 v5 M fun v6 =>
    fgR 10 1000 v6 M fun v7 =>
    fgI 4 401 v7 M fun v8 =>
    fgI 4 401 r1 M fun v9 =>
    if v8 ≤ v9 then
      fRegion_take_j54 a0 r1 x2 M n
    else
      k18 r1 x3 (x3 + (-1)) M n
theorem wRegion_take_b18 {X : MC} {G : GE} {n0 : Nat} (C : CX X G RX6 cX6_take pRegion_take 4 none n0) (htab : ∀ z ∈ X.2.2.2.2.2.2.2.2.exceptionTable.toList, False) {σ : Sg} (a0 : Nat) (k18 : Option Nat → Int32 → Int32 → Mm → Nat → Option ((Unit ⊕ Nat) × Mm × Nat)) (H18 : ∀ (r1 : Option Nat) (x2 : Int32) (x3 : Int32) (M : Mm) (n : Nat), JS X G 4 300 0 n0 (EM X G n0 10 300 (eC rvU σ)) (k18 r1 x2 x3 M n) (σ, M, n) 18 [(0, .inr (.inl (some a0))), (1, .inr (.inl r1)), (2, .inl x2), (3, .inl x3)] []) (r1 : Option Nat) (x2 : Int32) (x3 : Int32) (M : Mm) (n : Nat) : JS X G 4 300 0 n0 (EM X G n0 10 300 (eC rvU σ)) (fRegion_take_b18 a0 k18 r1 x2 x3 M n) (σ, M, n) 18 [(0, .inr (.inl (some a0))), (1, .inr (.inl r1)), (2, .inl x2), (3, .inl x3)] [] := by
  unfold fRegion_take_b18
  refine s_blk C 10 1 [0, 1, 2, 3] (pc' := 19) (lv' := [(0, .inr (.inl (some a0))), (1, .inr (.inl r1)), (2, .inl x2), (3, .inl x3)]) (st' := [.inl x3]) rfl ?_
  refine s_ilt C 11 rfl (fun _ => ?_) (fun _ => ?_)
  · refine s_blk C 0 0 [0, 1, 2] (pc' := 54) (lv' := [(0, .inr (.inl (some a0))), (1, .inr (.inl r1)), (2, .inl x2)]) (st' := []) rfl ?_
    exact wRegion_take_j54 C htab a0 _ _ _ _
  refine s_blk C 12 1 [0, 1, 2, 3] (pc' := 23) (lv' := [(0, .inr (.inl (some a0))), (1, .inr (.inl r1)), (2, .inl x2), (3, .inl x3)]) (st' := [.inr (.inl (some a0))]) rfl ?_
  refine s_gR C 13 rfl fl_X6_21 rfl rfl (fun v1 => ?_)
  refine s_blk C 14 1 [0, 1, 2, 3] (pc' := 27) (lv' := [(0, .inr (.inl (some a0))), (1, .inr (.inl r1)), (2, .inl x2), (3, .inl x3)]) (st' := [.inl x3, .inr (.inl v1)]) rfl ?_
  refine s_rk (fun a2 ha3 hk4 => ?_)
  subst ha3
  refine s_RR (CE_EM _ _ _ _ _ _) (st := []) (fun o ho => j_callV (As := [.inl x3]) (st := []) (b := a2) C 15 rfl mf_Al_get ml_X6_36 rfl (recv_K C (by decide) (by decide) rfl hk4) (by decide) (by decide) (Nat.le_refl _) rfl (cAl_get (CX_tr C) σ M n a2 x3 o ho)) (fun v5 => ?_)
  refine s_cast C 16 rfl rfl (by decide) (by decide) cw_X6_40 (fun v6 => ?_)
  refine s_gR C 17 rfl fl_X6_42 rfl rfl (fun v7 => ?_)
  refine s_gI C 18 rfl fl_X6_52 rfl rfl (fun v8 => ?_)
  refine s_blk C 19 1 [0, 1, 2, 3] (pc' := 40) (lv' := [(0, .inr (.inl (some a0))), (1, .inr (.inl r1)), (2, .inl x2), (3, .inl x3)]) (st' := [.inr (.inl r1), .inl v8]) rfl ?_
  refine s_gI C 20 rfl fl_X6_52 rfl rfl (fun v9 => ?_)
  refine s_icle C 21 rfl (fun _ => ?_) (fun _ => ?_)
  · refine s_blk C 0 0 [0, 1, 2] (pc' := 54) (lv' := [(0, .inr (.inl (some a0))), (1, .inr (.inl r1)), (2, .inl x2)]) (st' := []) rfl ?_
    exact wRegion_take_j54 C htab a0 _ _ _ _
  refine s_blk C 22 4 [0, 1, 2, 3] (pc' := 18) (lv' := [(0, .inr (.inl (some a0))), (1, .inr (.inl r1)), (2, .inl x3), (3, .inl (x3 + (-1)))]) (st' := []) rfl ?_
  exact H18 _ _ _ _ _
def fRegion_take_l18 (a0 : Nat) (fu : Nat) : Option Nat → Int32 → Int32 → Mm → Nat → Option ((Unit ⊕ Nat) × Mm × Nat) := Nat.rec (fun r1 x2 x3 M n => none) (fun _ k => fRegion_take_b18 a0 k) fu
theorem wRegion_take_l18 {X : MC} {G : GE} {n0 : Nat} (C : CX X G RX6 cX6_take pRegion_take 4 none n0) (htab : ∀ z ∈ X.2.2.2.2.2.2.2.2.exceptionTable.toList, False) {σ : Sg} (a0 : Nat) : ∀ (fu : Nat) (r1 : Option Nat) (x2 : Int32) (x3 : Int32) (M : Mm) (n : Nat), JS X G 4 300 0 n0 (EM X G n0 10 300 (eC rvU σ)) (fRegion_take_l18 a0 fu r1 x2 x3 M n) (σ, M, n) 18 [(0, .inr (.inl (some a0))), (1, .inr (.inl r1)), (2, .inl x2), (3, .inl x3)] [] := by
  intro fu
  induction fu with
  | zero => intro r1 x2 x3 M n; exact s_none
  | succ fu ih => intro r1 x2 x3 M n; exact wRegion_take_b18 C htab a0 (fRegion_take_l18 a0 fu) ih _ _ _ _ _
def fRegion_take (a0 : Nat) (r1 : Option Nat) (M : Mm) (n : Nat) : Option ((Unit ⊕ Nat) × Mm × Nat) :=
  fgR 6 601 (some a0) M fun v1 =>
  rk 12 v1 M fun a2 =>
  bdR (fAl_size a2 M) fun v5 =>
  fgR 6 601 (some a0) M fun v6 =>
  rk 12 v6 M fun a7 =>
  bdR (fAl_size a7 M) fun v10 =>
  fRegion_take_l18 a0 FU r1 v5 (v10 - 1) M n
theorem wRegion_take {X : MC} {G : GE} {n0 : Nat} (C : CX X G RX6 cX6_take pRegion_take 4 none n0) (htab : ∀ z ∈ X.2.2.2.2.2.2.2.2.exceptionTable.toList, False) {σ : Sg} (a0 : Nat) (r1 : Option Nat) (M : Mm) (n : Nat) : JS X G 4 300 0 n0 (EM X G n0 10 300 (eC rvU σ)) (fRegion_take a0 r1 M n) (σ, M, n) 0 [(0, .inr (.inl (some a0))), (1, .inr (.inl r1))] [] := by
  unfold fRegion_take
  refine s_blk C 0 1 [0, 1] (pc' := 1) (lv' := [(0, .inr (.inl (some a0))), (1, .inr (.inl r1))]) (st' := [.inr (.inl (some a0))]) rfl ?_
  refine s_gR C 1 rfl fl_X6_21 rfl rfl (fun v1 => ?_)
  refine s_rk (fun a2 ha3 hk4 => ?_)
  subst ha3
  refine s_RI (CE_EM _ _ _ _ _ _) (st := []) (fun o ho => j_callV (As := []) (st := []) (b := a2) C 2 rfl mf_Al_size ml_X6_32 rfl (recv_K C (by decide) (by decide) rfl hk4) (by decide) (by decide) (Nat.le_refl _) rfl (cAl_size (CX_tr C) σ M n a2 o ho)) (fun v5 => ?_)
  refine s_blk C 3 2 [0, 1, 2] (pc' := 9) (lv' := [(0, .inr (.inl (some a0))), (1, .inr (.inl r1)), (2, .inl v5)]) (st' := [.inr (.inl (some a0))]) rfl ?_
  refine s_gR C 5 rfl fl_X6_21 rfl rfl (fun v6 => ?_)
  refine s_rk (fun a7 ha8 hk9 => ?_)
  subst ha8
  refine s_RI (CE_EM _ _ _ _ _ _) (st := []) (fun o ho => j_callV (As := []) (st := []) (b := a7) C 6 rfl mf_Al_size ml_X6_32 rfl (recv_K C (by decide) (by decide) rfl hk9) (by decide) (by decide) (Nat.le_refl _) rfl (cAl_size (CX_tr C) σ M n a7 o ho)) (fun v10 => ?_)
  refine s_blk C 7 3 [0, 1, 2, 3] (pc' := 18) (lv' := [(0, .inr (.inl (some a0))), (1, .inr (.inl r1)), (2, .inl v5), (3, .inl (v10 - 1))]) (st' := []) rfl ?_
  exact wRegion_take_l18 C htab a0 FU _ _ _ _ _
theorem cRegion_take {l : Launch} {G : GE} (htr : l.stackTraces = false) (σ : Sg) (M : Mm) (n : Nat) (a0 : Nat) (r1 : Option Nat) : ∀ o, fRegion_take a0 r1 M n = some o → MetX l G yX6_take cX6_take 4 none 10 300 [.inr (.inl (some a0)), .inr (.inl r1)] (σ, M, n) ((eC rvU σ) o) :=
  c_ofX (by decide) kRegion_take htr rfl rfl fun X _ _ C htab => wRegion_take C htab a0 r1 _ _
def pHb_store_0 : List BR := [(0, .aload_n 0, 1, 0, 1), (1, .getfield 329, 3, 0, 4), (4, .sipush 200, 3, 200, 7), (7, .if_icmp .ge (15), 3, 0, 22), (10, .aload_n 1, 1, 0, 11), (11, .aload_n 3, 1, 0, 12), (12, .invokevirtual 332, 3, 0, 15), (15, .ifCond .eq (7), 3, 0, 22), (18, .iconst 1, 1, 1, 19), (19, .goto (4), 3, 0, 23), (22, .iconst 0, 1, 0, 23), (23, .invokestatic 54, 3, 0, 26), (26, .aload_n 0, 1, 0, 27), (27, .dup, 1, 0, 28), (28, .getfield 329, 3, 0, 31), (31, .iconst 1, 1, 1, 32), (32, .iadd, 1, 0, 33), (33, .putfield 329, 3, 0, 36), (36, .new 201, 3, 0, 39), (39, .dup, 1, 0, 40), (40, .iload_n 2, 1, 0, 41), (41, .aload_n 0, 1, 0, 42), (42, .getfield 329, 3, 0, 45), (45, .aload_n 0, 1, 0, 46), (46, .getfield 95, 3, 0, 49), (49, .invokespecial 335, 3, 0, 52), (52, .astore 4, 2, 0, 54), (54, .aload 4, 2, 0, 56), (56, .getfield 200, 3, 0, 59), (59, .aload_n 3, 1, 0, 60), (60, .invokevirtual 336, 3, 0, 63), (63, .aload_n 1, 1, 0, 64), (64, .aload 4, 2, 0, 66), (66, .invokevirtual 339, 3, 0, 69), (69, .aload_n 1, 1, 0, 70), (70, .getfield 273, 3, 0, 73), (73, .aload 4, 2, 0, 75), (75, .invokevirtual 144, 3, 0, 78), (78, .pop, 1, 0, 79), (79, .aload_n 0, 1, 0, 80)]
theorem kHb_store_0 : bOK cX11_store 5 pHb_store_0 = true := by decide +kernel
def pHb_store_1 : List BR := [(80, .getfield 329, 3, 0, 83), (83, .ireturn, 1, 0, 84)]
theorem kHb_store_1 : bOK cX11_store 5 pHb_store_1 = true := by decide +kernel
def pHb_store : List BR := (pHb_store_0 ++ pHb_store_1)
theorem kHb_store : bOK cX11_store 5 pHb_store = true := (bOK_app kHb_store_0 kHb_store_1)
def fHb_store_j23 (a0 : Nat) (r1 : Option Nat) (x2 : Int32) (r3 : Option Nat) (s0 : Int32) (M : Mm) (n : Nat) : Option ((Int32 ⊕ Nat) × Mm × Nat) :=
  bdC (fHb_checkState s0 M n) n fun v1 M2 n3 =>
  fgI 11 1108 (some a0) M2 fun v4 =>
  fpI 11 1108 (some a0) (v4 + 1) M2 fun M5 =>
  nwO 4 M5 n3 fun y6 M7 n8 =>
  fgI 11 1108 (some a0) M7 fun v9 =>
  fgI 11 1109 (some a0) M7 fun v10 =>
  rk 4 y6 M7 fun a11 =>
  bdN (fEntry_init a11 x2 v9 v10 M7 n8) n8 fun v14 M15 n16 =>
  fgR 4 403 y6 M15 fun v17 =>
  rk 1 v17 M15 fun a18 =>
  bdW (fBytes_appendAll a18 r3 M15) fun v21 M22 =>
  rk 6 r1 M22 fun a23 =>
  bdC (fRegion_take a23 y6 M22 n16) n16 fun v26 M27 n28 =>
  fgR 6 602 r1 M27 fun v29 =>
  rk 12 v29 M27 fun a30 =>
  bdC (fAl_add1 a30 y6 M27 n28) n28 fun v33 M34 n35 =>
  fgI 11 1108 (some a0) M34 fun v36 =>
  some (.inl v36, M34, n35)
theorem wHb_store_j23 {X : MC} {G : GE} {n0 : Nat} (C : CX X G RX11 cX11_store pHb_store 5 (some .int) n0) (htab : ∀ z ∈ X.2.2.2.2.2.2.2.2.exceptionTable.toList, False) {σ : Sg} (a0 : Nat) (r1 : Option Nat) (x2 : Int32) (r3 : Option Nat) (s0 : Int32) (M : Mm) (n : Nat) : JS X G 5 300 0 n0 (EM X G n0 11 300 (eC rvI σ)) (fHb_store_j23 a0 r1 x2 r3 s0 M n) (σ, M, n) 23 [(0, .inr (.inl (some a0))), (1, .inr (.inl r1)), (2, .inl x2), (3, .inr (.inl r3))] [.inl s0] := by
  unfold fHb_store_j23
  refine s_CU C htab (st := []) (fun o ho => j_callS (As := [.inl s0]) (st := []) C 11 rfl mf_Hb_checkState ml_X11_54 rfl (by decide) (by decide) (Nat.le_refl _) rfl (cHb_checkState (CX_tr C) σ M n s0 o ho)) (fun v1 M2 n3 _ => ?_)
  refine s_blk C 12 2 [0, 1, 2, 3] (pc' := 28) (lv' := [(0, .inr (.inl (some a0))), (1, .inr (.inl r1)), (2, .inl x2), (3, .inr (.inl r3))]) (st' := [.inr (.inl (some a0)), .inr (.inl (some a0))]) rfl ?_
  refine s_gI C 14 rfl fl_X11_329 rfl rfl (fun v4 => ?_)
  refine s_blk C 15 2 [0, 1, 2, 3] (pc' := 33) (lv' := [(0, .inr (.inl (some a0))), (1, .inr (.inl r1)), (2, .inl x2), (3, .inr (.inl r3))]) (st' := [.inl (v4 + 1), .inr (.inl (some a0))]) rfl ?_
  refine s_pI C 17 rfl fl_X11_329 fp_X11_11_8 (fun h => Bool.noConfusion h) rfl rfl (fun M5 _ => ?_)
  refine s_new C (CE_EM _ _ _ _ _ _) 18 rfl cl_X11_201 (by decide) (fun y6 M7 n8 _ _ => ?_)
  refine s_blk C 19 3 [0, 1, 3] (pc' := 42) (lv' := [(0, .inr (.inl (some a0))), (1, .inr (.inl r1)), (3, .inr (.inl r3))]) (st' := [.inr (.inl (some a0)), .inl x2, .inr (.inl y6), .inr (.inl y6)]) rfl ?_
  refine s_gI C 22 rfl fl_X11_329 rfl rfl (fun v9 => ?_)
  refine s_blk C 23 1 [0, 1, 3] (pc' := 46) (lv' := [(0, .inr (.inl (some a0))), (1, .inr (.inl r1)), (3, .inr (.inl r3))]) (st' := [.inr (.inl (some a0)), .inl v9, .inl x2, .inr (.inl y6), .inr (.inl y6)]) rfl ?_
  refine s_gI C 24 rfl fl_X11_95 rfl rfl (fun v10 => ?_)
  refine s_rk (fun a11 ha12 hk13 => ?_)
  subst ha12
  refine s_NU C htab (st := [.inr (.inl (some a11))]) (fun v M1 n1 ho => j_callI (As := [.inl x2, .inl v9, .inl v10]) (st := [.inr (.inl (some a11))]) (b := a11) C 25 rfl mf_Entry_init (Or.inl ml_X11_335) rfl (by decide) (by decide) (Nat.le_refl _) rfl (cEntry_init (CX_tr C) σ M7 n8 a11 x2 v9 v10 _ ho) rfl) (fun v14 M15 n16 _ => ?_)
  refine s_blk C 26 2 [0, 1, 3, 4] (pc' := 56) (lv' := [(0, .inr (.inl (some a0))), (1, .inr (.inl r1)), (3, .inr (.inl r3)), (4, .inr (.inl (some a11)))]) (st' := [.inr (.inl (some a11))]) rfl ?_
  refine s_gR C 28 rfl fl_X11_200 rfl rfl (fun v17 => ?_)
  refine s_blk C 29 1 [0, 1, 4] (pc' := 60) (lv' := [(0, .inr (.inl (some a0))), (1, .inr (.inl r1)), (4, .inr (.inl (some a11)))]) (st' := [.inr (.inl r3), .inr (.inl v17)]) rfl ?_
  refine s_rk (fun a18 ha19 hk20 => ?_)
  subst ha19
  refine s_WU (CE_EM _ _ _ _ _ _) (st := []) (fun o ho => j_callV (As := [.inr (.inl r3)]) (st := []) (b := a18) C 30 rfl mf_Bytes_appendAll ml_X11_336 rfl (recv_K C (by decide) (by decide) rfl hk20) (by decide) (by decide) (Nat.le_refl _) rfl (cBytes_appendAll (CX_tr C) σ M15 n16 a18 r3 o ho)) (fun v21 M22 => ?_)
  refine s_blk C 31 2 [0, 1, 4] (pc' := 66) (lv' := [(0, .inr (.inl (some a0))), (1, .inr (.inl r1)), (4, .inr (.inl (some a11)))]) (st' := [.inr (.inl (some a11)), .inr (.inl r1)]) rfl ?_
  refine s_rk (fun a23 ha24 hk25 => ?_)
  subst ha24
  refine s_CU C htab (st := []) (fun o ho => j_callV (As := [.inr (.inl (some a11))]) (st := []) (b := a23) C 33 rfl mf_Region_take ml_X11_339 rfl (recv_K C (by decide) (by decide) rfl hk25) (by decide) (by decide) (Nat.le_refl _) rfl (cRegion_take (CX_tr C) σ M22 n16 a23 (some a11) o ho)) (fun v26 M27 n28 _ => ?_)
  refine s_blk C 34 1 [0, 4] (pc' := 70) (lv' := [(0, .inr (.inl (some a0))), (4, .inr (.inl (some a11)))]) (st' := [.inr (.inl (some a23))]) rfl ?_
  refine s_gR C 35 rfl fl_X11_273 rfl rfl (fun v29 => ?_)
  refine s_blk C 36 1 [0] (pc' := 75) (lv' := [(0, .inr (.inl (some a0)))]) (st' := [.inr (.inl (some a11)), .inr (.inl v29)]) rfl ?_
  refine s_rk (fun a30 ha31 hk32 => ?_)
  subst ha31
  refine s_CI C htab (st := []) (fun o ho => j_callV (As := [.inr (.inl (some a11))]) (st := []) (b := a30) C 37 rfl mf_Al_add1 ml_X11_144 rfl (recv_K C (by decide) (by decide) rfl hk32) (by decide) (by decide) (Nat.le_refl _) rfl (cAl_add1 (CX_tr C) σ M27 n28 a30 (some a11) o ho)) (fun v33 M34 n35 _ => ?_)
  refine s_blk C 38 2 [] (pc' := 80) (lv' := []) (st' := [.inr (.inl (some a0))]) rfl ?_
  refine s_gI C 40 rfl fl_X11_329 rfl rfl (fun v36 => ?_)
  exact s_iret C 41 rfl rfl
def fHb_store_j22 (a0 : Nat) (r1 : Option Nat) (x2 : Int32) (r3 : Option Nat) (M : Mm) (n : Nat) : Option ((Int32 ⊕ Nat) × Mm × Nat) :=
  fHb_store_j23 a0 r1 x2 r3 0 M n
theorem wHb_store_j22 {X : MC} {G : GE} {n0 : Nat} (C : CX X G RX11 cX11_store pHb_store 5 (some .int) n0) (htab : ∀ z ∈ X.2.2.2.2.2.2.2.2.exceptionTable.toList, False) {σ : Sg} (a0 : Nat) (r1 : Option Nat) (x2 : Int32) (r3 : Option Nat) (M : Mm) (n : Nat) : JS X G 5 300 0 n0 (EM X G n0 11 300 (eC rvI σ)) (fHb_store_j22 a0 r1 x2 r3 M n) (σ, M, n) 22 [(0, .inr (.inl (some a0))), (1, .inr (.inl r1)), (2, .inl x2), (3, .inr (.inl r3))] [] := by
  unfold fHb_store_j22
  refine s_blk C 10 1 [0, 1, 2, 3] (pc' := 23) (lv' := [(0, .inr (.inl (some a0))), (1, .inr (.inl r1)), (2, .inl x2), (3, .inr (.inl r3))]) (st' := [.inl 0]) rfl ?_
  exact wHb_store_j23 C htab a0 _ _ _ _ _ _
def fHb_store (a0 : Nat) (r1 : Option Nat) (x2 : Int32) (r3 : Option Nat) (M : Mm) (n : Nat) : Option ((Int32 ⊕ Nat) × Mm × Nat) :=
  fgI 11 1108 (some a0) M fun v1 =>
  if 200 ≤ v1 then
    fHb_store_j22 a0 r1 x2 r3 M n
  else
    rk 6 r1 M fun a2 =>
    bdW (fRegion_hasRoom a2 r3 M) fun v5 M6 =>
    if v5 = 0 then
      fHb_store_j22 a0 r1 x2 r3 M6 n
    else
      fHb_store_j23 a0 r1 x2 r3 1 M6 n
theorem wHb_store {X : MC} {G : GE} {n0 : Nat} (C : CX X G RX11 cX11_store pHb_store 5 (some .int) n0) (htab : ∀ z ∈ X.2.2.2.2.2.2.2.2.exceptionTable.toList, False) {σ : Sg} (a0 : Nat) (r1 : Option Nat) (x2 : Int32) (r3 : Option Nat) (M : Mm) (n : Nat) : JS X G 5 300 0 n0 (EM X G n0 11 300 (eC rvI σ)) (fHb_store a0 r1 x2 r3 M n) (σ, M, n) 0 [(0, .inr (.inl (some a0))), (1, .inr (.inl r1)), (2, .inl x2), (3, .inr (.inl r3))] [] := by
  unfold fHb_store
  refine s_blk C 0 1 [0, 1, 2, 3] (pc' := 1) (lv' := [(0, .inr (.inl (some a0))), (1, .inr (.inl r1)), (2, .inl x2), (3, .inr (.inl r3))]) (st' := [.inr (.inl (some a0))]) rfl ?_
  refine s_gI C 1 rfl fl_X11_329 rfl rfl (fun v1 => ?_)
  refine s_blk C 2 1 [0, 1, 2, 3] (pc' := 7) (lv' := [(0, .inr (.inl (some a0))), (1, .inr (.inl r1)), (2, .inl x2), (3, .inr (.inl r3))]) (st' := [.inl 200, .inl v1]) rfl ?_
  refine s_icge C 3 rfl (fun _ => ?_) (fun _ => ?_)
  · exact wHb_store_j22 C htab a0 _ _ _ _ _
  refine s_blk C 4 2 [0, 1, 2, 3] (pc' := 12) (lv' := [(0, .inr (.inl (some a0))), (1, .inr (.inl r1)), (2, .inl x2), (3, .inr (.inl r3))]) (st' := [.inr (.inl r3), .inr (.inl r1)]) rfl ?_
  refine s_rk (fun a2 ha3 hk4 => ?_)
  subst ha3
  refine s_WI (CE_EM _ _ _ _ _ _) (st := []) (fun o ho => j_callV (As := [.inr (.inl r3)]) (st := []) (b := a2) C 6 rfl mf_Region_hasRoom ml_X11_332 rfl (recv_K C (by decide) (by decide) rfl hk4) (by decide) (by decide) (Nat.le_refl _) rfl (cRegion_hasRoom (CX_tr C) σ M n a2 r3 o ho)) (fun v5 M6 => ?_)
  refine s_ieq C 7 rfl (fun _ => ?_) (fun _ => ?_)
  · exact wHb_store_j22 C htab a0 _ _ _ _ _
  refine s_blk C 8 2 [0, 1, 2, 3] (pc' := 23) (lv' := [(0, .inr (.inl (some a0))), (1, .inr (.inl (some a2))), (2, .inl x2), (3, .inr (.inl r3))]) (st' := [.inl 1]) rfl ?_
  exact wHb_store_j23 C htab a0 _ _ _ _ _ _
theorem cHb_store {l : Launch} {G : GE} (htr : l.stackTraces = false) (σ : Sg) (M : Mm) (n : Nat) (a0 : Nat) (r1 : Option Nat) (x2 : Int32) (r3 : Option Nat) : ∀ o, fHb_store a0 r1 x2 r3 M n = some o → MetX l G yX11_store cX11_store 5 (some .int) 11 300 [.inr (.inl (some a0)), .inr (.inl r1), .inl x2, .inr (.inl r3)] (σ, M, n) ((eC rvI σ) o) :=
  c_ofX (by decide) kHb_store htr rfl rfl fun X _ _ C htab => wHb_store C htab a0 r1 x2 r3 _ _
def pHb_delete : List BR := [(0, .aload_n 0, 1, 0, 1), (1, .iload_n 1, 1, 0, 2), (2, .invokevirtual 65, 3, 0, 5), (5, .astore_n 3, 1, 0, 6), (6, .iload_n 2, 1, 0, 7), (7, .invokestatic 69, 3, 0, 10), (10, .aload_n 3, 1, 0, 11), (11, .iload_n 2, 1, 0, 12), (12, .invokevirtual 75, 3, 0, 15), (15, .invokestatic 87, 3, 0, 18), (18, .ifCond .ne (5), 3, 0, 23), (21, .iconst 0, 1, 0, 22), (22, .ireturn, 1, 0, 23), (23, .aload_n 0, 1, 0, 24), (24, .aload_n 3, 1, 0, 25), (25, .iload_n 2, 1, 0, 26), (26, .aload_n 0, 1, 0, 27), (27, .getfield 29, 3, 0, 30), (30, .invokevirtual 83, 3, 0, 33), (33, .ireturn, 1, 0, 34)]
theorem kHb_delete : bOK cX11_delete 4 pHb_delete = true := by decide +kernel
def fHb_delete (a0 : Nat) (x1 : Int32) (x2 : Int32) (M : Mm) (n : Nat) : Option ((Int32 ⊕ Nat) × Mm × Nat) :=
  rk 11 (some a0) M fun _ =>
  bdC (fHb_regionOf a0 x1 M n) n fun v2 M3 n4 =>
  bdC (fHb_checkKey x2 M3 n4) n4 fun v5 M6 n7 =>
  rk 6 v2 M6 fun a8 =>
  bdR (fRegion_latest a8 x2 M6) fun v11 =>
  bdR (fHb_isObject v11 M6) fun v12 =>
  if v12 = 0 then
    some (.inl 0, M6, n7)
  else
    fgR 11 1104 (some a0) M6 fun v13 =>
    rk 11 (some a0) M6 fun _ =>
    bdC (fHb_store a0 v2 x2 v13 M6 n7) n7 fun v15 M16 n17 =>
    some (.inl v15, M16, n17)
theorem wHb_delete {X : MC} {G : GE} {n0 : Nat} (C : CX X G RX11 cX11_delete pHb_delete 4 (some .int) n0) (htab : ∀ z ∈ X.2.2.2.2.2.2.2.2.exceptionTable.toList, False) {σ : Sg} (a0 : Nat) (x1 : Int32) (x2 : Int32) (M : Mm) (n : Nat) : JS X G 4 300 0 n0 (EM X G n0 12 300 (eC rvI σ)) (fHb_delete a0 x1 x2 M n) (σ, M, n) 0 [(0, .inr (.inl (some a0))), (1, .inl x1), (2, .inl x2)] [] := by
  unfold fHb_delete
  refine s_blk C 0 2 [0, 2] (pc' := 2) (lv' := [(0, .inr (.inl (some a0))), (2, .inl x2)]) (st' := [.inl x1, .inr (.inl (some a0))]) rfl ?_
  refine s_rks (fun hk1 => ?_)
  refine s_CR C htab (st := []) (fun o ho => j_callV (As := [.inl x1]) (st := []) (b := a0) C 2 rfl mf_Hb_regionOf ml_X11_65 rfl (recv_K C (by decide) (by decide) rfl hk1) (by decide) (by decide) (Nat.le_refl _) rfl (cHb_regionOf (CX_tr C) σ M n a0 x1 o ho)) (fun v2 M3 n4 _ => ?_)
  refine s_blk C 3 2 [0, 2, 3] (pc' := 7) (lv' := [(0, .inr (.inl (some a0))), (2, .inl x2), (3, .inr (.inl v2))]) (st' := [.inl x2]) rfl ?_
  refine s_CU C htab (st := []) (fun o ho => j_callS (As := [.inl x2]) (st := []) C 5 rfl mf_Hb_checkKey ml_X11_69 rfl (by decide) (by decide) (Nat.le_refl _) rfl (cHb_checkKey (CX_tr C) σ M3 n4 x2 o ho)) (fun v5 M6 n7 _ => ?_)
  refine s_blk C 6 2 [0, 2, 3] (pc' := 12) (lv' := [(0, .inr (.inl (some a0))), (2, .inl x2), (3, .inr (.inl v2))]) (st' := [.inl x2, .inr (.inl v2)]) rfl ?_
  refine s_rk (fun a8 ha9 hk10 => ?_)
  subst ha9
  refine s_RR (CE_EM _ _ _ _ _ _) (st := []) (fun o ho => j_callV (As := [.inl x2]) (st := []) (b := a8) C 8 rfl mf_Region_latest ml_X11_75 rfl (recv_K C (by decide) (by decide) rfl hk10) (by decide) (by decide) (Nat.le_refl _) rfl (cRegion_latest (CX_tr C) σ M6 n7 a8 x2 o ho)) (fun v11 => ?_)
  refine s_RI (CE_EM _ _ _ _ _ _) (st := []) (fun o ho => j_callS (As := [.inr (.inl v11)]) (st := []) C 9 rfl mf_Hb_isObject ml_X11_87 rfl (by decide) (by decide) (Nat.le_refl _) rfl (cHb_isObject (CX_tr C) σ M6 n7 v11 o ho)) (fun v12 => ?_)
  refine s_ine C 10 rfl (fun _ => ?_) (fun _ => ?_)
  · refine s_blk C 11 1 [] (pc' := 22) (lv' := []) (st' := [.inl 0]) rfl ?_
    exact s_iret C 12 rfl rfl
  refine s_blk C 13 4 [] (pc' := 27) (lv' := []) (st' := [.inr (.inl (some a0)), .inl x2, .inr (.inl (some a8)), .inr (.inl (some a0))]) rfl ?_
  refine s_gR C 17 rfl fl_X11_29 rfl rfl (fun v13 => ?_)
  refine s_rks (fun hk14 => ?_)
  refine s_CI C htab (st := []) (fun o ho => j_callV (As := [.inr (.inl (some a8)), .inl x2, .inr (.inl v13)]) (st := []) (b := a0) C 18 rfl mf_Hb_store ml_X11_83 rfl (recv_K C (by decide) (by decide) rfl hk14) (by decide) (by decide) (Nat.le_refl _) rfl (cHb_store (CX_tr C) σ M6 n7 a0 (some a8) x2 v13 o ho)) (fun v15 M16 n17 _ => ?_)
  exact s_iret C 19 rfl rfl
theorem cHb_delete {l : Launch} {G : GE} (htr : l.stackTraces = false) (σ : Sg) (M : Mm) (n : Nat) (a0 : Nat) (x1 : Int32) (x2 : Int32) : ∀ o, fHb_delete a0 x1 x2 M n = some o → MetX l G yX11_delete cX11_delete 4 (some .int) 12 300 [.inr (.inl (some a0)), .inl x1, .inl x2] (σ, M, n) ((eC rvI σ) o) :=
  c_ofX (by decide) kHb_delete htr rfl rfl fun X _ _ C htab => wHb_delete C htab a0 x1 x2 _ _

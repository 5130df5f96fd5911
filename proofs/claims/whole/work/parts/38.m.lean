def pRegion_charge : List BR := [(0, .iconst 0, 1, 0, 1), (1, .istore_n 2, 1, 0, 2), (2, .iload_n 2, 1, 0, 3), (3, .aload_n 0, 1, 0, 4), (4, .getfield 21, 3, 0, 7), (7, .invokevirtual 32, 3, 0, 10), (10, .if_icmp .ge (63), 3, 0, 73), (13, .aload_n 0, 1, 0, 14), (14, .getfield 21, 3, 0, 17), (17, .iload_n 2, 1, 0, 18), (18, .invokevirtual 36, 3, 0, 21), (21, .checkcast 40, 3, 0, 24), (24, .astore_n 3, 1, 0, 25), (25, .aload_n 3, 1, 0, 26), (26, .getfield 110, 3, 0, 29), (29, .ifCond .lt (38), 3, 0, 67), (32, .aload_n 3, 1, 0, 33), (33, .getfield 110, 3, 0, 36), (36, .aload_n 1, 1, 0, 37), (37, .arraylength, 1, 0, 38), (38, .if_icmp .ge (29), 3, 0, 67), (41, .aload_n 1, 1, 0, 42), (42, .aload_n 3, 1, 0, 43), (43, .getfield 110, 3, 0, 46), (46, .dup2, 1, 0, 47), (47, .iaload, 1, 0, 48), (48, .aload_n 3, 1, 0, 49), (49, .getfield 42, 3, 0, 52), (52, .getfield 67, 3, 0, 55), (55, .getfield 55, 3, 0, 58), (58, .iconst 4, 1, 4, 59), (59, .aload_n 3, 1, 0, 60), (60, .getfield 110, 3, 0, 63), (63, .ishr, 1, 0, 64), (64, .imul, 1, 0, 65), (65, .iadd, 1, 0, 66), (66, .iastore, 1, 0, 67), (67, .iinc 2 (1), 3, 1, 70), (70, .goto (-68), 3, 0, 2), (73, .return_, 1, 0, 74)]
theorem kRegion_charge : bOK cX6_charge 4 pRegion_charge = true := by decide +kernel
def fRegion_charge_j67 (a0 : Nat) (k2 : Option Nat → Int32 → Mm → Option (Unit × Mm)) (r1 : Option Nat) (x2 : Int32) (M : Mm) : Option (Unit × Mm) :=
  k2 r1 (x2 + 1) M
theorem wRegion_charge_j67 {X : MC} {G : GE} {n0 : Nat} (C : CX X G RX6 cX6_charge pRegion_charge 4 none n0) (htab : ∀ z ∈ X.2.2.2.2.2.2.2.2.exceptionTable.toList, False) {σ : Sg} {n : Nat} (a0 : Nat) (k2 : Option Nat → Int32 → Mm → Option (Unit × Mm)) (H2 : ∀ (r1 : Option Nat) (x2 : Int32) (M : Mm), JS X G 4 300 0 n0 (EM X G n0 5 300 (eW rvU σ n)) (k2 r1 x2 M) (σ, M, n) 2 [(0, .inr (.inl (some a0))), (1, .inr (.inl r1)), (2, .inl x2)] []) (r1 : Option Nat) (x2 : Int32) (M : Mm) : JS X G 4 300 0 n0 (EM X G n0 5 300 (eW rvU σ n)) (fRegion_charge_j67 a0 k2 r1 x2 M) (σ, M, n) 67 [(0, .inr (.inl (some a0))), (1, .inr (.inl r1)), (2, .inl x2)] [] := by
  unfold fRegion_charge_j67
  refine s_blk C 37 2 [0, 1, 2] (pc' := 2) (lv' := [(0, .inr (.inl (some a0))), (1, .inr (.inl r1)), (2, .inl (x2 + 1))]) (st' := []) rfl ?_
  exact H2 _ _ _
def fRegion_charge_b2 (a0 : Nat) (k2 : Option Nat → Int32 → Mm → Option (Unit × Mm)) (r1 : Option Nat) (x2 : Int32) (M : Mm) : Option (Unit × Mm) :=
  fgR 6 601 (some a0) M fun v1 =>
  rk 12 v1 M fun a2 =>
  bdR (fAl_size a2 M) fun v5 =>
  if v5 ≤ x2 then
    some ((), M)
  else
    fgR 6 601 (some a0) M fun v6 =>
    rk 12 v6 M fun a7 =>
    bdR (fAl_get a7 x2 M) fun v10 =>
    fca 10 v10 M fun v11 =>
    fgI 10 1002 v11 M fun v12 =>
    if v12 < 0 then
      fRegion_charge_j67 a0 k2 r1 x2 M
    else
      fgI 10 1002 v11 M fun v13 =>
      aln r1 M fun v14 =>
      if v14 ≤ v13 then
        fRegion_charge_j67 a0 k2 r1 x2 M
      else
        fgI 10 1002 v11 M fun v15 =>
        alI 21 r1 v15 M fun v16 =>
        fgR 10 1000 v11 M fun v17 =>
        fgR 4 403 v17 M fun v18 =>
        fgI 1 101 v18 M fun v19 =>
        fgI 10 1002 v11 M fun v20 =>
        asI r1 v15 (v16 + (v19 * (4 >>> (v20 &&& 31)))) M fun M21 =>
        fRegion_charge_j67 a0 k2 r1 x2 M21
theorem wRegion_charge_b2 {X : MC} {G : GE} {n0 : Nat} (C : CX X G RX6 cX6_charge pRegion_charge 4 none n0) (htab : ∀ z ∈ X.2.2.2.2.2.2.2.2.exceptionTable.toList, False) {σ : Sg} {n : Nat} (a0 : Nat) (k2 : Option Nat → Int32 → Mm → Option (Unit × Mm)) (H2 : ∀ (r1 : Option Nat) (x2 : Int32) (M : Mm), JS X G 4 300 0 n0 (EM X G n0 5 300 (eW rvU σ n)) (k2 r1 x2 M) (σ, M, n) 2 [(0, .inr (.inl (some a0))), (1, .inr (.inl r1)), (2, .inl x2)] []) (r1 : Option Nat) (x2 : Int32) (M : Mm) : JS X G 4 300 0 n0 (EM X G n0 5 300 (eW rvU σ n)) (fRegion_charge_b2 a0 k2 r1 x2 M) (σ, M, n) 2 [(0, .inr (.inl (some a0))), (1, .inr (.inl r1)), (2, .inl x2)] [] := by
  unfold fRegion_charge_b2
  refine s_blk C 2 2 [0, 1, 2] (pc' := 4) (lv' := [(0, .inr (.inl (some a0))), (1, .inr (.inl r1)), (2, .inl x2)]) (st' := [.inr (.inl (some a0)), .inl x2]) rfl ?_
  refine s_gR C 4 rfl fl_X6_21 rfl rfl (fun v1 => ?_)
  refine s_rk (fun a2 ha3 hk4 => ?_)
  subst ha3
  refine s_RI (CE_EM _ _ _ _ _ _) (st := [.inl x2]) (fun o ho => j_callV (As := []) (st := [.inl x2]) (b := a2) C 5 rfl mf_Al_size ml_X6_32 rfl (recv_K C (by decide) (by decide) rfl hk4) (by decide) (by decide) (Nat.le_refl _) rfl (cAl_size (CX_tr C) σ M n a2 o ho)) (fun v5 => ?_)
  refine s_icge C 6 rfl (fun _ => ?_) (fun _ => ?_)
  · exact s_vret C 39 rfl rfl
  refine s_blk C 7 1 [0, 1, 2] (pc' := 14) (lv' := [(0, .inr (.inl (some a0))), (1, .inr (.inl r1)), (2, .inl x2)]) (st' := [.inr (.inl (some a0))]) rfl ?_
  refine s_gR C 8 rfl fl_X6_21 rfl rfl (fun v6 => ?_)
  refine s_blk C 9 1 [0, 1, 2] (pc' := 18) (lv' := [(0, .inr (.inl (some a0))), (1, .inr (.inl r1)), (2, .inl x2)]) (st' := [.inl x2, .inr (.inl v6)]) rfl ?_
  refine s_rk (fun a7 ha8 hk9 => ?_)
  subst ha8
  refine s_RR (CE_EM _ _ _ _ _ _) (st := []) (fun o ho => j_callV (As := [.inl x2]) (st := []) (b := a7) C 10 rfl mf_Al_get ml_X6_36 rfl (recv_K C (by decide) (by decide) rfl hk9) (by decide) (by decide) (Nat.le_refl _) rfl (cAl_get (CX_tr C) σ M n a7 x2 o ho)) (fun v10 => ?_)
  refine s_cast C 11 rfl rfl (by decide) (by decide) cw_X6_40 (fun v11 => ?_)
  refine s_blk C 12 2 [0, 1, 2, 3] (pc' := 26) (lv' := [(0, .inr (.inl (some a0))), (1, .inr (.inl r1)), (2, .inl x2), (3, .inr (.inl v11))]) (st' := [.inr (.inl v11)]) rfl ?_
  refine s_gI C 14 rfl fl_X6_110 rfl rfl (fun v12 => ?_)
  refine s_ilt C 15 rfl (fun _ => ?_) (fun _ => ?_)
  · refine s_blk C 0 0 [0, 1, 2] (pc' := 67) (lv' := [(0, .inr (.inl (some a0))), (1, .inr (.inl r1)), (2, .inl x2)]) (st' := []) rfl ?_
    exact wRegion_charge_j67 C htab a0 k2 H2 _ _ _
  refine s_blk C 16 1 [0, 1, 2, 3] (pc' := 33) (lv' := [(0, .inr (.inl (some a0))), (1, .inr (.inl r1)), (2, .inl x2), (3, .inr (.inl v11))]) (st' := [.inr (.inl v11)]) rfl ?_
  refine s_gI C 17 rfl fl_X6_110 rfl rfl (fun v13 => ?_)
  refine s_blk C 18 1 [0, 1, 2, 3] (pc' := 37) (lv' := [(0, .inr (.inl (some a0))), (1, .inr (.inl r1)), (2, .inl x2), (3, .inr (.inl v11))]) (st' := [.inr (.inl r1), .inl v13]) rfl ?_
  refine s_len C 19 rfl (fun v14 => ?_)
  refine s_icge C 20 rfl (fun _ => ?_) (fun _ => ?_)
  · refine s_blk C 0 0 [0, 1, 2] (pc' := 67) (lv' := [(0, .inr (.inl (some a0))), (1, .inr (.inl r1)), (2, .inl x2)]) (st' := []) rfl ?_
    exact wRegion_charge_j67 C htab a0 k2 H2 _ _ _
  refine s_blk C 21 2 [0, 1, 2, 3] (pc' := 43) (lv' := [(0, .inr (.inl (some a0))), (1, .inr (.inl r1)), (2, .inl x2), (3, .inr (.inl v11))]) (st' := [.inr (.inl v11), .inr (.inl r1)]) rfl ?_
  refine s_gI C 23 rfl fl_X6_110 rfl rfl (fun v15 => ?_)
  refine s_blk C 24 1 [0, 1, 2, 3] (pc' := 47) (lv' := [(0, .inr (.inl (some a0))), (1, .inr (.inl r1)), (2, .inl x2), (3, .inr (.inl v11))]) (st' := [.inl v15, .inr (.inl r1), .inl v15, .inr (.inl r1)]) rfl ?_
  refine s_ldI C 25 rfl (fun v16 => ?_)
  refine s_blk C 26 1 [0, 1, 2, 3] (pc' := 49) (lv' := [(0, .inr (.inl (some a0))), (1, .inr (.inl r1)), (2, .inl x2), (3, .inr (.inl v11))]) (st' := [.inr (.inl v11), .inl v16, .inl v15, .inr (.inl r1)]) rfl ?_
  refine s_gR C 27 rfl fl_X6_42 rfl rfl (fun v17 => ?_)
  refine s_gR C 28 rfl fl_X6_67 rfl rfl (fun v18 => ?_)
  refine s_gI C 29 rfl fl_X6_55 rfl rfl (fun v19 => ?_)
  refine s_blk C 30 2 [0, 1, 2] (pc' := 60) (lv' := [(0, .inr (.inl (some a0))), (1, .inr (.inl r1)), (2, .inl x2)]) (st' := [.inr (.inl v11), .inl 4, .inl v19, .inl v16, .inl v15, .inr (.inl r1)]) rfl ?_
  refine s_gI C 32 rfl fl_X6_110 rfl rfl (fun v20 => ?_)
  refine s_blk C 33 3 [0, 1, 2] (pc' := 66) (lv' := [(0, .inr (.inl (some a0))), (1, .inr (.inl r1)), (2, .inl x2)]) (st' := [.inl (v16 + (v19 * (4 >>> (v20 &&& 31)))), .inl v15, .inr (.inl r1)]) rfl ?_
  refine s_stI C 36 rfl (fun M21 _ => ?_)
  exact wRegion_charge_j67 C htab a0 k2 H2 _ _ _
def fRegion_charge_l2 (a0 : Nat) (fu : Nat) : Option Nat → Int32 → Mm → Option (Unit × Mm) := Nat.rec (fun r1 x2 M => none) (fun _ k => fRegion_charge_b2 a0 k) fu
theorem wRegion_charge_l2 {X : MC} {G : GE} {n0 : Nat} (C : CX X G RX6 cX6_charge pRegion_charge 4 none n0) (htab : ∀ z ∈ X.2.2.2.2.2.2.2.2.exceptionTable.toList, False) {σ : Sg} {n : Nat} (a0 : Nat) : ∀ (fu : Nat) (r1 : Option Nat) (x2 : Int32) (M : Mm), JS X G 4 300 0 n0 (EM X G n0 5 300 (eW rvU σ n)) (fRegion_charge_l2 a0 fu r1 x2 M) (σ, M, n) 2 [(0, .inr (.inl (some a0))), (1, .inr (.inl r1)), (2, .inl x2)] [] := by
  intro fu
  induction fu with
  | zero => intro r1 x2 M; exact s_none
  | succ fu ih => intro r1 x2 M; exact wRegion_charge_b2 C htab a0 (fRegion_charge_l2 a0 fu) ih _ _ _
def fRegion_charge (a0 : Nat) (r1 : Option Nat) (M : Mm) : Option (Unit × Mm) :=
  fRegion_charge_l2 a0 FU r1 0 M
theorem wRegion_charge {X : MC} {G : GE} {n0 : Nat} (C : CX X G RX6 cX6_charge pRegion_charge 4 none n0) (htab : ∀ z ∈ X.2.2.2.2.2.2.2.2.exceptionTable.toList, False) {σ : Sg} {n : Nat} (a0 : Nat) (r1 : Option Nat) (M : Mm) : JS X G 4 300 0 n0 (EM X G n0 5 300 (eW rvU σ n)) (fRegion_charge a0 r1 M) (σ, M, n) 0 [(0, .inr (.inl (some a0))), (1, .inr (.inl r1))] [] := by
  unfold fRegion_charge
  refine s_blk C 0 2 [0, 1, 2] (pc' := 2) (lv' := [(0, .inr (.inl (some a0))), (1, .inr (.inl r1)), (2, .inl 0)]) (st' := []) rfl ?_
  exact wRegion_charge_l2 C htab a0 FU _ _ _
theorem cRegion_charge {l : Launch} {G : GE} (htr : l.stackTraces = false) (σ : Sg) (M : Mm) (n : Nat) (a0 : Nat) (r1 : Option Nat) : ∀ o, fRegion_charge a0 r1 M = some o → MetX l G yX6_charge cX6_charge 4 none 5 300 [.inr (.inl (some a0)), .inr (.inl r1)] (σ, M, n) ((eW rvU σ n) o) :=
  c_ofX (by decide) kRegion_charge htr rfl rfl fun X _ _ C htab => wRegion_charge C htab a0 r1 _
def pHb_pass : List BR := [(0, .iload_n 1, 1, 0, 1), (1, .iconst 1, 1, 1, 2), (2, .bipush 30, 2, 30, 4), (4, .invokestatic 46, 3, 0, 7), (7, .iconst 0, 1, 0, 8), (8, .istore_n 2, 1, 0, 9), (9, .iload_n 2, 1, 0, 10), (10, .iload_n 1, 1, 0, 11), (11, .if_icmp .ge (45), 3, 0, 56), (14, .aload_n 0, 1, 0, 15), (15, .getfield 10, 3, 0, 18), (18, .aload_n 0, 1, 0, 19), (19, .getfield 42, 3, 0, 22), (22, .invokevirtual 262, 3, 0, 25), (25, .aload_n 0, 1, 0, 26), (26, .getfield 16, 3, 0, 29), (29, .aload_n 0, 1, 0, 30), (30, .getfield 42, 3, 0, 33), (33, .invokevirtual 262, 3, 0, 36), (36, .aload_n 0, 1, 0, 37), (37, .dup, 1, 0, 38), (38, .getfield 95, 3, 0, 41), (41, .iconst 1, 1, 1, 42), (42, .iadd, 1, 0, 43), (43, .putfield 95, 3, 0, 46), (46, .aload_n 0, 1, 0, 47), (47, .invokevirtual 266, 3, 0, 50), (50, .iinc 2 (1), 3, 1, 53), (53, .goto (-44), 3, 0, 9), (56, .aload_n 0, 1, 0, 57), (57, .getfield 95, 3, 0, 60), (60, .ireturn, 1, 0, 61)]
theorem kHb_pass : bOK cX11_pass 3 pHb_pass = true := by decide +kernel
def fHb_pass_b9 (a0 : Nat) (k9 : Int32 → Int32 → Mm → Nat → Option ((Int32 ⊕ Nat) × Mm × Nat)) (x1 : Int32) (x2 : Int32) (M : Mm) (n : Nat) : Option ((Int32 ⊕ Nat) × Mm × Nat) :=
  if x1 ≤ x2 then
    fgI 11 1109 (some a0) M fun v1 =>
    some (.inl v1, M, n)
  else
    fgR 11 1100 (some a0) M fun v2 =>
    fgR 11 1107 (some a0) M fun v3 =>
    rk 6 v2 M fun a4 =>
    bdW (fRegion_charge a4 v3 M) fun v7 M8 =>
    fgR 11 1101 (some a0) M8 fun v9 =>
    fgR 11 1107 (some a0) M8 fun v10 =>
    rk 6 v9 M8 fun a11 =>
    bdW (fRegion_charge a11 v10 M8) fun v14 M15 =>
    fgI 11 1109 (some a0) M15 fun v16 =>
    fpI 11 1109 (some a0) (v16 + 1) M15 fun M17 =>
    rk 11 (some a0) M17 fun _ =>
    bdW (fHb_beginDay a0 M17) fun v19 M20 =>
    k9 x1 (x2 + 1) M20 n
theorem wHb_pass_b9 {X : MC} {G : GE} {n0 : Nat} (C : CX X G RX11 cX11_pass pHb_pass 3 (some .int) n0) (htab : ∀ z ∈ X.2.2.2.2.2.2.2.2.exceptionTable.toList, False) {σ : Sg} (a0 : Nat) (k9 : Int32 → Int32 → Mm → Nat → Option ((Int32 ⊕ Nat) × Mm × Nat)) (H9 : ∀ (x1 : Int32) (x2 : Int32) (M : Mm) (n : Nat), JS X G 3 300 0 n0 (EM X G n0 11 300 (eC rvI σ)) (k9 x1 x2 M n) (σ, M, n) 9 [(0, .inr (.inl (some a0))), (1, .inl x1), (2, .inl x2)] []) (x1 : Int32) (x2 : Int32) (M : Mm) (n : Nat) : JS X G 3 300 0 n0 (EM X G n0 11 300 (eC rvI σ)) (fHb_pass_b9 a0 k9 x1 x2 M n) (σ, M, n) 9 [(0, .inr (.inl (some a0))), (1, .inl x1), (2, .inl x2)] [] := by
  unfold fHb_pass_b9
  refine s_blk C 6 2 [0, 1, 2] (pc' := 11) (lv' := [(0, .inr (.inl (some a0))), (1, .inl x1), (2, .inl x2)]) (st' := [.inl x1, .inl x2]) rfl ?_
  refine s_icge C 8 rfl (fun _ => ?_) (fun _ => ?_)
  · refine s_blk C 29 1 [] (pc' := 57) (lv' := []) (st' := [.inr (.inl (some a0))]) rfl ?_
    refine s_gI C 30 rfl fl_X11_95 rfl rfl (fun v1 => ?_)
    exact s_iret C 31 rfl rfl
  refine s_blk C 9 1 [0, 1, 2] (pc' := 15) (lv' := [(0, .inr (.inl (some a0))), (1, .inl x1), (2, .inl x2)]) (st' := [.inr (.inl (some a0))]) rfl ?_
  refine s_gR C 10 rfl fl_X11_10 rfl rfl (fun v2 => ?_)
  refine s_blk C 11 1 [0, 1, 2] (pc' := 19) (lv' := [(0, .inr (.inl (some a0))), (1, .inl x1), (2, .inl x2)]) (st' := [.inr (.inl (some a0)), .inr (.inl v2)]) rfl ?_
  refine s_gR C 12 rfl fl_X11_42 rfl rfl (fun v3 => ?_)
  refine s_rk (fun a4 ha5 hk6 => ?_)
  subst ha5
  refine s_WU (CE_EM _ _ _ _ _ _) (st := []) (fun o ho => j_callV (As := [.inr (.inl v3)]) (st := []) (b := a4) C 13 rfl mf_Region_charge ml_X11_262 rfl (recv_K C (by decide) (by decide) rfl hk6) (by decide) (by decide) (Nat.le_refl _) rfl (cRegion_charge (CX_tr C) σ M n a4 v3 o ho)) (fun v7 M8 => ?_)
  refine s_blk C 14 1 [0, 1, 2] (pc' := 26) (lv' := [(0, .inr (.inl (some a0))), (1, .inl x1), (2, .inl x2)]) (st' := [.inr (.inl (some a0))]) rfl ?_
  refine s_gR C 15 rfl fl_X11_16 rfl rfl (fun v9 => ?_)
  refine s_blk C 16 1 [0, 1, 2] (pc' := 30) (lv' := [(0, .inr (.inl (some a0))), (1, .inl x1), (2, .inl x2)]) (st' := [.inr (.inl (some a0)), .inr (.inl v9)]) rfl ?_
  refine s_gR C 17 rfl fl_X11_42 rfl rfl (fun v10 => ?_)
  refine s_rk (fun a11 ha12 hk13 => ?_)
  subst ha12
  refine s_WU (CE_EM _ _ _ _ _ _) (st := []) (fun o ho => j_callV (As := [.inr (.inl v10)]) (st := []) (b := a11) C 18 rfl mf_Region_charge ml_X11_262 rfl (recv_K C (by decide) (by decide) rfl hk13) (by decide) (by decide) (Nat.le_refl _) rfl (cRegion_charge (CX_tr C) σ M8 n a11 v10 o ho)) (fun v14 M15 => ?_)
  refine s_blk C 19 2 [0, 1, 2] (pc' := 38) (lv' := [(0, .inr (.inl (some a0))), (1, .inl x1), (2, .inl x2)]) (st' := [.inr (.inl (some a0)), .inr (.inl (some a0))]) rfl ?_
  refine s_gI C 21 rfl fl_X11_95 rfl rfl (fun v16 => ?_)
  refine s_blk C 22 2 [0, 1, 2] (pc' := 43) (lv' := [(0, .inr (.inl (some a0))), (1, .inl x1), (2, .inl x2)]) (st' := [.inl (v16 + 1), .inr (.inl (some a0))]) rfl ?_
  refine s_pI C 24 rfl fl_X11_95 fp_X11_11_9 (fun h => Bool.noConfusion h) rfl rfl (fun M17 _ => ?_)
  refine s_blk C 25 1 [0, 1, 2] (pc' := 47) (lv' := [(0, .inr (.inl (some a0))), (1, .inl x1), (2, .inl x2)]) (st' := [.inr (.inl (some a0))]) rfl ?_
  refine s_rks (fun hk18 => ?_)
  refine s_WU (CE_EM _ _ _ _ _ _) (st := []) (fun o ho => j_callV (As := []) (st := []) (b := a0) C 26 rfl mf_Hb_beginDay ml_X11_266 rfl (recv_K C (by decide) (by decide) rfl hk18) (by decide) (by decide) (Nat.le_refl _) rfl (cHb_beginDay (CX_tr C) σ M17 n a0 o ho)) (fun v19 M20 => ?_)
  refine s_blk C 27 2 [0, 1, 2] (pc' := 9) (lv' := [(0, .inr (.inl (some a0))), (1, .inl x1), (2, .inl (x2 + 1))]) (st' := []) rfl ?_
  exact H9 _ _ _ _
def fHb_pass_l9 (a0 : Nat) (fu : Nat) : Int32 → Int32 → Mm → Nat → Option ((Int32 ⊕ Nat) × Mm × Nat) := Nat.rec (fun x1 x2 M n => none) (fun _ k => fHb_pass_b9 a0 k) fu
theorem wHb_pass_l9 {X : MC} {G : GE} {n0 : Nat} (C : CX X G RX11 cX11_pass pHb_pass 3 (some .int) n0) (htab : ∀ z ∈ X.2.2.2.2.2.2.2.2.exceptionTable.toList, False) {σ : Sg} (a0 : Nat) : ∀ (fu : Nat) (x1 : Int32) (x2 : Int32) (M : Mm) (n : Nat), JS X G 3 300 0 n0 (EM X G n0 11 300 (eC rvI σ)) (fHb_pass_l9 a0 fu x1 x2 M n) (σ, M, n) 9 [(0, .inr (.inl (some a0))), (1, .inl x1), (2, .inl x2)] [] := by
  intro fu
  induction fu with
  | zero => intro x1 x2 M n; exact s_none
  | succ fu ih => intro x1 x2 M n; exact wHb_pass_b9 C htab a0 (fHb_pass_l9 a0 fu) ih _ _ _ _
def fHb_pass (a0 : Nat) (x1 : Int32) (M : Mm) (n : Nat) : Option ((Int32 ⊕ Nat) × Mm × Nat) :=
  bdC (fHb_checkRange x1 1 30 M n) n fun v1 M2 n3 =>
  fHb_pass_l9 a0 FU x1 0 M2 n3
theorem wHb_pass {X : MC} {G : GE} {n0 : Nat} (C : CX X G RX11 cX11_pass pHb_pass 3 (some .int) n0) (htab : ∀ z ∈ X.2.2.2.2.2.2.2.2.exceptionTable.toList, False) {σ : Sg} (a0 : Nat) (x1 : Int32) (M : Mm) (n : Nat) : JS X G 3 300 0 n0 (EM X G n0 11 300 (eC rvI σ)) (fHb_pass a0 x1 M n) (σ, M, n) 0 [(0, .inr (.inl (some a0))), (1, .inl x1)] [] := by
  unfold fHb_pass
  refine s_blk C 0 3 [0, 1] (pc' := 4) (lv' := [(0, .inr (.inl (some a0))), (1, .inl x1)]) (st' := [.inl 30, .inl 1, .inl x1]) rfl ?_
  refine s_CU C htab (st := []) (fun o ho => j_callS (As := [.inl x1, .inl 1, .inl 30]) (st := []) C 3 rfl mf_Hb_checkRange ml_X11_46 rfl (by decide) (by decide) (Nat.le_refl _) rfl (cHb_checkRange (CX_tr C) σ M n x1 1 30 o ho)) (fun v1 M2 n3 _ => ?_)
  refine s_blk C 4 2 [0, 1, 2] (pc' := 9) (lv' := [(0, .inr (.inl (some a0))), (1, .inl x1), (2, .inl 0)]) (st' := []) rfl ?_
  exact wHb_pass_l9 C htab a0 FU _ _ _ _
theorem cHb_pass {l : Launch} {G : GE} (htr : l.stackTraces = false) (σ : Sg) (M : Mm) (n : Nat) (a0 : Nat) (x1 : Int32) : ∀ o, fHb_pass a0 x1 M n = some o → MetX l G yX11_pass cX11_pass 3 (some .int) 11 300 [.inr (.inl (some a0)), .inl x1] (σ, M, n) ((eC rvI σ) o) :=
  c_ofX (by decide) kHb_pass htr rfl rfl fun X _ _ C htab => wHb_pass C htab a0 x1 _ _
def pUpload_manyOf : List BR := [(0, .iload_n 1, 1, 0, 1), (1, .iconst 1, 1, 1, 2), (2, .if_icmp .lt (26), 3, 0, 28), (5, .iload_n 1, 1, 0, 6), (6, .aload_n 0, 1, 0, 7), (7, .getfield 11, 3, 0, 10), (10, .arraylength, 1, 0, 11), (11, .if_icmp .gt (17), 3, 0, 28), (14, .aload_n 0, 1, 0, 15), (15, .getfield 11, 3, 0, 18), (18, .iload_n 1, 1, 0, 19), (19, .iconst 1, 1, 1, 20), (20, .isub, 1, 0, 21), (21, .aaload, 1, 0, 22), (22, .getfield 26, 3, 0, 25), (25, .goto (4), 3, 0, 29), (28, .iconst 0, 1, 0, 29), (29, .ireturn, 1, 0, 30)]
theorem kUpload_manyOf : bOK cX9_manyOf 2 pUpload_manyOf = true := by decide +kernel
def fUpload_manyOf (a0 : Nat) (x1 : Int32) (M : Mm) : Option (Int32) :=
  if x1 < 1 then
    some 0
  else
    fgR 9 902 (some a0) M fun v1 =>
    aln v1 M fun v2 =>
    if v2 < x1 then
      some 0
    else
      fgR 9 902 (some a0) M fun v3 =>
      alP 24 v3 (x1 - 1) M fun v4 =>
      fgI 1 101 v4 M fun v5 =>
      some v5
theorem wUpload_manyOf {X : MC} {G : GE} {n0 : Nat} (C : CX X G RX9 cX9_manyOf pUpload_manyOf 2 (some .int) n0) (htab : ∀ z ∈ X.2.2.2.2.2.2.2.2.exceptionTable.toList, False) {σ : Sg} {M : Mm} {n : Nat} (a0 : Nat) (x1 : Int32) : JS X G 2 300 0 n0 (EM X G n0 2 300 (eR rvI σ M n)) (fUpload_manyOf a0 x1 M) (σ, M, n) 0 [(0, .inr (.inl (some a0))), (1, .inl x1)] [] := by
  unfold fUpload_manyOf
  refine s_blk C 0 2 [0, 1] (pc' := 2) (lv' := [(0, .inr (.inl (some a0))), (1, .inl x1)]) (st' := [.inl 1, .inl x1]) rfl ?_
  refine s_iclt C 2 rfl (fun _ => ?_) (fun _ => ?_)
  · refine s_blk C 16 1 [] (pc' := 29) (lv' := []) (st' := [.inl 0]) rfl ?_
    exact s_iret C 17 rfl rfl
  refine s_blk C 3 2 [0, 1] (pc' := 7) (lv' := [(0, .inr (.inl (some a0))), (1, .inl x1)]) (st' := [.inr (.inl (some a0)), .inl x1]) rfl ?_
  refine s_gR C 5 rfl fl_X9_11 rfl rfl (fun v1 => ?_)
  refine s_len C 6 rfl (fun v2 => ?_)
  refine s_icgt C 7 rfl (fun _ => ?_) (fun _ => ?_)
  · refine s_blk C 16 1 [] (pc' := 29) (lv' := []) (st' := [.inl 0]) rfl ?_
    exact s_iret C 17 rfl rfl
  refine s_blk C 8 1 [1] (pc' := 15) (lv' := [(1, .inl x1)]) (st' := [.inr (.inl (some a0))]) rfl ?_
  refine s_gR C 9 rfl fl_X9_11 rfl rfl (fun v3 => ?_)
  refine s_blk C 10 3 [] (pc' := 21) (lv' := []) (st' := [.inl (x1 - 1), .inr (.inl v3)]) rfl ?_
  refine s_ldY C 13 rfl (fun v4 => ?_)
  refine s_gI C 14 rfl fl_X9_26 rfl rfl (fun v5 => ?_)
  refine s_blk C 15 1 [] (pc' := 29) (lv' := []) (st' := [.inl v5]) rfl ?_
  exact s_iret C 17 rfl rfl
theorem cUpload_manyOf {l : Launch} {G : GE} (htr : l.stackTraces = false) (σ : Sg) (M : Mm) (n : Nat) (a0 : Nat) (x1 : Int32) : ∀ o, fUpload_manyOf a0 x1 M = some o → MetX l G yX9_manyOf cX9_manyOf 2 (some .int) 2 300 [.inr (.inl (some a0)), .inl x1] (σ, M, n) ((eR rvI σ M n) o) :=
  c_ofX (by decide) kUpload_manyOf htr rfl rfl fun X _ _ C htab => wUpload_manyOf C htab a0 x1
def pUpload_total : List BR := [(0, .iconst 0, 1, 0, 1), (1, .istore_n 1, 1, 0, 2), (2, .iconst 1, 1, 1, 3), (3, .istore_n 2, 1, 0, 4), (4, .iload_n 2, 1, 0, 5), (5, .aload_n 0, 1, 0, 6), (6, .getfield 11, 3, 0, 9), (9, .arraylength, 1, 0, 10), (10, .if_icmp .gt (17), 3, 0, 27), (13, .iload_n 1, 1, 0, 14), (14, .aload_n 0, 1, 0, 15), (15, .iload_n 2, 1, 0, 16), (16, .invokevirtual 29, 3, 0, 19), (19, .iadd, 1, 0, 20), (20, .istore_n 1, 1, 0, 21), (21, .iinc 2 (1), 3, 1, 24), (24, .goto (-20), 3, 0, 4), (27, .iload_n 1, 1, 0, 28), (28, .ireturn, 1, 0, 29)]
theorem kUpload_total : bOK cX9_total 3 pUpload_total = true := by decide +kernel
def fUpload_total_b4 (a0 : Nat) (k4 : Int32 → Int32 → Mm → Option (Int32)) (x1 : Int32) (x2 : Int32) (M : Mm) : Option (Int32) :=
  fgR 9 902 (some a0) M fun v1 =>
  aln v1 M fun v2 =>
  if v2 < x2 then
    some x1
  else
    rk 9 (some a0) M fun _ =>
    bdR (fUpload_manyOf a0 x2 M) fun v4 =>
    k4 (x1 + v4) (x2 + 1) M
theorem wUpload_total_b4 {X : MC} {G : GE} {n0 : Nat} (C : CX X G RX9 cX9_total pUpload_total 3 (some .int) n0) (htab : ∀ z ∈ X.2.2.2.2.2.2.2.2.exceptionTable.toList, False) {σ : Sg} {M : Mm} {n : Nat} (a0 : Nat) (k4 : Int32 → Int32 → Mm → Option (Int32)) (H4 : ∀ (x1 : Int32) (x2 : Int32), JS X G 3 300 0 n0 (EM X G n0 3 300 (eR rvI σ M n)) (k4 x1 x2 M) (σ, M, n) 4 [(0, .inr (.inl (some a0))), (1, .inl x1), (2, .inl x2)] []) (x1 : Int32) (x2 : Int32) : JS X G 3 300 0 n0 (EM X G n0 3 300 (eR rvI σ M n)) (fUpload_total_b4 a0 k4 x1 x2 M) (σ, M, n) 4 [(0, .inr (.inl (some a0))), (1, .inl x1), (2, .inl x2)] [] := by
  unfold fUpload_total_b4
  refine s_blk C 4 2 [0, 1, 2] (pc' := 6) (lv' := [(0, .inr (.inl (some a0))), (1, .inl x1), (2, .inl x2)]) (st' := [.inr (.inl (some a0)), .inl x2]) rfl ?_
  refine s_gR C 6 rfl fl_X9_11 rfl rfl (fun v1 => ?_)
  refine s_len C 7 rfl (fun v2 => ?_)
  refine s_icgt C 8 rfl (fun _ => ?_) (fun _ => ?_)
  · refine s_blk C 17 1 [] (pc' := 28) (lv' := []) (st' := [.inl x1]) rfl ?_
    exact s_iret C 18 rfl rfl
  refine s_blk C 9 3 [0, 2] (pc' := 16) (lv' := [(0, .inr (.inl (some a0))), (2, .inl x2)]) (st' := [.inl x2, .inr (.inl (some a0)), .inl x1]) rfl ?_
  refine s_rks (fun hk3 => ?_)
  refine s_RI (CE_EM _ _ _ _ _ _) (st := [.inl x1]) (fun o ho => j_callV (As := [.inl x2]) (st := [.inl x1]) (b := a0) C 12 rfl mf_Upload_manyOf ml_X9_29 rfl (recv_K C (by decide) (by decide) rfl hk3) (by decide) (by decide) (Nat.le_refl _) rfl (cUpload_manyOf (CX_tr C) σ M n a0 x2 o ho)) (fun v4 => ?_)
  refine s_blk C 13 4 [0, 1, 2] (pc' := 4) (lv' := [(0, .inr (.inl (some a0))), (1, .inl (x1 + v4)), (2, .inl (x2 + 1))]) (st' := []) rfl ?_
  exact H4 _ _
def fUpload_total_l4 (a0 : Nat) (fu : Nat) : Int32 → Int32 → Mm → Option (Int32) := Nat.rec (fun x1 x2 M => none) (fun _ k => fUpload_total_b4 a0 k) fu
theorem wUpload_total_l4 {X : MC} {G : GE} {n0 : Nat} (C : CX X G RX9 cX9_total pUpload_total 3 (some .int) n0) (htab : ∀ z ∈ X.2.2.2.2.2.2.2.2.exceptionTable.toList, False) {σ : Sg} {M : Mm} {n : Nat} (a0 : Nat) : ∀ (fu : Nat) (x1 : Int32) (x2 : Int32), JS X G 3 300 0 n0 (EM X G n0 3 300 (eR rvI σ M n)) (fUpload_total_l4 a0 fu x1 x2 M) (σ, M, n) 4 [(0, .inr (.inl (some a0))), (1, .inl x1), (2, .inl x2)] [] := by
  intro fu
  induction fu with
  | zero => intro x1 x2; exact s_none
  | succ fu ih => intro x1 x2; exact wUpload_total_b4 C htab a0 (fUpload_total_l4 a0 fu) ih _ _
def fUpload_total (a0 : Nat) (M : Mm) : Option (Int32) :=
  fUpload_total_l4 a0 FU 0 1 M
theorem wUpload_total {X : MC} {G : GE} {n0 : Nat} (C : CX X G RX9 cX9_total pUpload_total 3 (some .int) n0) (htab : ∀ z ∈ X.2.2.2.2.2.2.2.2.exceptionTable.toList, False) {σ : Sg} {M : Mm} {n : Nat} (a0 : Nat) : JS X G 3 300 0 n0 (EM X G n0 3 300 (eR rvI σ M n)) (fUpload_total a0 M) (σ, M, n) 0 [(0, .inr (.inl (some a0)))] [] := by
  unfold fUpload_total
  refine s_blk C 0 4 [0, 1, 2] (pc' := 4) (lv' := [(0, .inr (.inl (some a0))), (1, .inl 0), (2, .inl 1)]) (st' := []) rfl ?_
  exact wUpload_total_l4 C htab a0 FU _ _
theorem cUpload_total {l : Launch} {G : GE} (htr : l.stackTraces = false) (σ : Sg) (M : Mm) (n : Nat) (a0 : Nat) : ∀ o, fUpload_total a0 M = some o → MetX l G yX9_total cX9_total 3 (some .int) 3 300 [.inr (.inl (some a0))] (σ, M, n) ((eR rvI σ M n) o) :=
  c_ofX (by decide) kUpload_total htr rfl rfl fun X _ _ C htab => wUpload_total C htab a0
def pUpload_replace : List BR := [(0, .iload_n 1, 1, 0, 1), (1, .iconst 1, 1, 1, 2), (2, .if_icmp .lt (35), 3, 0, 37), (5, .iload_n 1, 1, 0, 6), (6, .aload_n 0, 1, 0, 7), (7, .getfield 11, 3, 0, 10), (10, .arraylength, 1, 0, 11), (11, .if_icmp .gt (26), 3, 0, 37), (14, .aload_n 0, 1, 0, 15), (15, .getfield 11, 3, 0, 18), (18, .iload_n 1, 1, 0, 19), (19, .iconst 1, 1, 1, 20), (20, .isub, 1, 0, 21), (21, .aaload, 1, 0, 22), (22, .invokevirtual 33, 3, 0, 25), (25, .aload_n 0, 1, 0, 26), (26, .getfield 11, 3, 0, 29), (29, .iload_n 1, 1, 0, 30), (30, .iconst 1, 1, 1, 31), (31, .isub, 1, 0, 32), (32, .aaload, 1, 0, 33), (33, .aload_n 2, 1, 0, 34), (34, .invokevirtual 36, 3, 0, 37), (37, .return_, 1, 0, 38)]
theorem kUpload_replace : bOK cX9_replace 3 pUpload_replace = true := by decide +kernel
def fUpload_replace (a0 : Nat) (x1 : Int32) (r2 : Option Nat) (M : Mm) : Option (Unit × Mm) :=
  if x1 < 1 then
    some ((), M)
  else
    fgR 9 902 (some a0) M fun v1 =>
    aln v1 M fun v2 =>
    if v2 < x1 then
      some ((), M)
    else
      fgR 9 902 (some a0) M fun v3 =>
      alP 24 v3 (x1 - 1) M fun v4 =>
      rk 1 v4 M fun a5 =>
      bdW (fBytes_makeEmpty a5 M) fun v8 M9 =>
      fgR 9 902 (some a0) M9 fun v10 =>
      alP 24 v10 (x1 - 1) M9 fun v11 =>
      rk 1 v11 M9 fun a12 =>
      bdW (fBytes_appendAll a12 r2 M9) fun v15 M16 =>
      some ((), M16)
theorem wUpload_replace {X : MC} {G : GE} {n0 : Nat} (C : CX X G RX9 cX9_replace pUpload_replace 3 none n0) (htab : ∀ z ∈ X.2.2.2.2.2.2.2.2.exceptionTable.toList, False) {σ : Sg} {n : Nat} (a0 : Nat) (x1 : Int32) (r2 : Option Nat) (M : Mm) : JS X G 3 300 0 n0 (EM X G n0 4 300 (eW rvU σ n)) (fUpload_replace a0 x1 r2 M) (σ, M, n) 0 [(0, .inr (.inl (some a0))), (1, .inl x1), (2, .inr (.inl r2))] [] := by
  unfold fUpload_replace
  refine s_blk C 0 2 [0, 1, 2] (pc' := 2) (lv' := [(0, .inr (.inl (some a0))), (1, .inl x1), (2, .inr (.inl r2))]) (st' := [.inl 1, .inl x1]) rfl ?_
  refine s_iclt C 2 rfl (fun _ => ?_) (fun _ => ?_)
  · exact s_vret C 23 rfl rfl
  refine s_blk C 3 2 [0, 1, 2] (pc' := 7) (lv' := [(0, .inr (.inl (some a0))), (1, .inl x1), (2, .inr (.inl r2))]) (st' := [.inr (.inl (some a0)), .inl x1]) rfl ?_
  refine s_gR C 5 rfl fl_X9_11 rfl rfl (fun v1 => ?_)
  refine s_len C 6 rfl (fun v2 => ?_)
  refine s_icgt C 7 rfl (fun _ => ?_) (fun _ => ?_)
  · exact s_vret C 23 rfl rfl
  refine s_blk C 8 1 [0, 1, 2] (pc' := 15) (lv' := [(0, .inr (.inl (some a0))), (1, .inl x1), (2, .inr (.inl r2))]) (st' := [.inr (.inl (some a0))]) rfl ?_
  refine s_gR C 9 rfl fl_X9_11 rfl rfl (fun v3 => ?_)
  refine s_blk C 10 3 [0, 1, 2] (pc' := 21) (lv' := [(0, .inr (.inl (some a0))), (1, .inl x1), (2, .inr (.inl r2))]) (st' := [.inl (x1 - 1), .inr (.inl v3)]) rfl ?_
  refine s_ldY C 13 rfl (fun v4 => ?_)
  refine s_rk (fun a5 ha6 hk7 => ?_)
  subst ha6
  refine s_WU (CE_EM _ _ _ _ _ _) (st := []) (fun o ho => j_callV (As := []) (st := []) (b := a5) C 14 rfl mf_Bytes_makeEmpty ml_X9_33 rfl (recv_K C (by decide) (by decide) rfl hk7) (by decide) (by decide) (Nat.le_refl _) rfl (cBytes_makeEmpty (CX_tr C) σ M n a5 o ho)) (fun v8 M9 => ?_)
  refine s_blk C 15 1 [1, 2] (pc' := 26) (lv' := [(1, .inl x1), (2, .inr (.inl r2))]) (st' := [.inr (.inl (some a0))]) rfl ?_
  refine s_gR C 16 rfl fl_X9_11 rfl rfl (fun v10 => ?_)
  refine s_blk C 17 3 [2] (pc' := 32) (lv' := [(2, .inr (.inl r2))]) (st' := [.inl (x1 - 1), .inr (.inl v10)]) rfl ?_
  refine s_ldY C 20 rfl (fun v11 => ?_)
  refine s_blk C 21 1 [] (pc' := 34) (lv' := []) (st' := [.inr (.inl r2), .inr (.inl v11)]) rfl ?_
  refine s_rk (fun a12 ha13 hk14 => ?_)
  subst ha13
  refine s_WU (CE_EM _ _ _ _ _ _) (st := []) (fun o ho => j_callV (As := [.inr (.inl r2)]) (st := []) (b := a12) C 22 rfl mf_Bytes_appendAll ml_X9_36 rfl (recv_K C (by decide) (by decide) rfl hk14) (by decide) (by decide) (Nat.le_refl _) rfl (cBytes_appendAll (CX_tr C) σ M9 n a12 r2 o ho)) (fun v15 M16 => ?_)
  exact s_vret C 23 rfl rfl
theorem cUpload_replace {l : Launch} {G : GE} (htr : l.stackTraces = false) (σ : Sg) (M : Mm) (n : Nat) (a0 : Nat) (x1 : Int32) (r2 : Option Nat) : ∀ o, fUpload_replace a0 x1 r2 M = some o → MetX l G yX9_replace cX9_replace 3 none 4 300 [.inr (.inl (some a0)), .inl x1, .inr (.inl r2)] (σ, M, n) ((eW rvU σ n) o) :=
  c_ofX (by decide) kUpload_replace htr rfl rfl fun X _ _ C htab => wUpload_replace C htab a0 x1 r2 _
def pHb_piece_0 : List BR := [(0, .aload_n 0, 1, 0, 1), (1, .iload_n 1, 1, 0, 2), (2, .invokevirtual 148, 3, 0, 5), (5, .astore_n 3, 1, 0, 6), (6, .iload_n 2, 1, 0, 7), (7, .iconst 1, 1, 1, 8), (8, .bipush 9, 2, 9, 10), (10, .invokestatic 46, 3, 0, 13), (13, .aload_n 0, 1, 0, 14), (14, .getfield 22, 3, 0, 17), (17, .getfield 50, 3, 0, 20), (20, .ifCond .le (7), 3, 0, 27), (23, .iconst 1, 1, 1, 24), (24, .goto (4), 3, 0, 28), (27, .iconst 0, 1, 0, 28), (28, .invokestatic 54, 3, 0, 31), (31, .aload_n 3, 1, 0, 32), (32, .invokevirtual 152, 3, 0, 35), (35, .aload_n 3, 1, 0, 36), (36, .iload_n 2, 1, 0, 37), (37, .invokevirtual 155, 3, 0, 40), (40, .isub, 1, 0, 41), (41, .aload_n 0, 1, 0, 42), (42, .getfield 22, 3, 0, 45), (45, .getfield 50, 3, 0, 48), (48, .iadd, 1, 0, 49), (49, .bipush 40, 2, 40, 51), (51, .if_icmp .gt (7), 3, 0, 58), (54, .iconst 1, 1, 1, 55), (55, .goto (4), 3, 0, 59), (58, .iconst 0, 1, 0, 59), (59, .invokestatic 54, 3, 0, 62), (62, .aload_n 3, 1, 0, 63), (63, .iload_n 2, 1, 0, 64), (64, .aload_n 0, 1, 0, 65), (65, .getfield 22, 3, 0, 68), (68, .invokevirtual 156, 3, 0, 71), (71, .aload_n 0, 1, 0, 72), (72, .getfield 22, 3, 0, 75), (75, .invokevirtual 62, 3, 0, 78)]
theorem kHb_piece_0 : bOK cX11_piece 4 pHb_piece_0 = true := by decide +kernel
def pHb_piece_1 : List BR := [(78, .aload_n 3, 1, 0, 79), (79, .invokevirtual 152, 3, 0, 82), (82, .ireturn, 1, 0, 83)]
theorem kHb_piece_1 : bOK cX11_piece 4 pHb_piece_1 = true := by decide +kernel
def pHb_piece : List BR := (pHb_piece_0 ++ pHb_piece_1)
theorem kHb_piece : bOK cX11_piece 4 pHb_piece = true := (bOK_app kHb_piece_0 kHb_piece_1)
def fHb_piece_j59 (a0 : Nat) (x2 : Int32) (r3 : Option Nat) (s0 : Int32) (M : Mm) (n : Nat) : Option ((Int32 ⊕ Nat) × Mm × Nat) :=
  bdC (fHb_checkState s0 M n) n fun v1 M2 n3 =>
  fgR 11 1102 (some a0) M2 fun v4 =>
  rk 9 r3 M2 fun a5 =>
  bdW (fUpload_replace a5 x2 v4 M2) fun v8 M9 =>
  fgR 11 1102 (some a0) M9 fun v10 =>
  rk 1 v10 M9 fun a11 =>
  bdW (fBytes_makeEmpty a11 M9) fun v14 M15 =>
  rk 9 r3 M15 fun a17 =>
  bdR (fUpload_total a17 M15) fun v18 =>
  some (.inl v18, M15, n3)
theorem wHb_piece_j59 {X : MC} {G : GE} {n0 : Nat} (C : CX X G RX11 cX11_piece pHb_piece 4 (some .int) n0) (htab : ∀ z ∈ X.2.2.2.2.2.2.2.2.exceptionTable.toList, False) {σ : Sg} (a0 : Nat) (x2 : Int32) (r3 : Option Nat) (s0 : Int32) (M : Mm) (n : Nat) : JS X G 4 300 0 n0 (EM X G n0 8 300 (eC rvI σ)) (fHb_piece_j59 a0 x2 r3 s0 M n) (σ, M, n) 59 [(0, .inr (.inl (some a0))), (2, .inl x2), (3, .inr (.inl r3))] [.inl s0] := by
  unfold fHb_piece_j59
  refine s_CU C htab (st := []) (fun o ho => j_callS (As := [.inl s0]) (st := []) C 31 rfl mf_Hb_checkState ml_X11_54 rfl (by decide) (by decide) (Nat.le_refl _) rfl (cHb_checkState (CX_tr C) σ M n s0 o ho)) (fun v1 M2 n3 _ => ?_)
  refine s_blk C 32 3 [0, 3] (pc' := 65) (lv' := [(0, .inr (.inl (some a0))), (3, .inr (.inl r3))]) (st' := [.inr (.inl (some a0)), .inl x2, .inr (.inl r3)]) rfl ?_
  refine s_gR C 35 rfl fl_X11_22 rfl rfl (fun v4 => ?_)
  refine s_rk (fun a5 ha6 hk7 => ?_)
  subst ha6
  refine s_WU (CE_EM _ _ _ _ _ _) (st := []) (fun o ho => j_callV (As := [.inl x2, .inr (.inl v4)]) (st := []) (b := a5) C 36 rfl mf_Upload_replace ml_X11_156 rfl (recv_K C (by decide) (by decide) rfl hk7) (by decide) (by decide) (Nat.le_refl _) rfl (cUpload_replace (CX_tr C) σ M2 n3 a5 x2 v4 o ho)) (fun v8 M9 => ?_)
  refine s_blk C 37 1 [3] (pc' := 72) (lv' := [(3, .inr (.inl (some a5)))]) (st' := [.inr (.inl (some a0))]) rfl ?_
  refine s_gR C 38 rfl fl_X11_22 rfl rfl (fun v10 => ?_)
  refine s_rk (fun a11 ha12 hk13 => ?_)
  subst ha12
  refine s_WU (CE_EM _ _ _ _ _ _) (st := []) (fun o ho => j_callV (As := []) (st := []) (b := a11) C 39 rfl mf_Bytes_makeEmpty ml_X11_62 rfl (recv_K C (by decide) (by decide) rfl hk13) (by decide) (by decide) (Nat.le_refl _) rfl (cBytes_makeEmpty (CX_tr C) σ M9 n3 a11 o ho)) (fun v14 M15 => ?_)
  refine s_blk C 40 1 [] (pc' := 79) (lv' := []) (st' := [.inr (.inl (some a5))]) rfl ?_
  refine s_rks (fun hk16 => ?_)
  refine s_RI (CE_EM _ _ _ _ _ _) (st := []) (fun o ho => j_callV (As := []) (st := []) (b := a5) C 41 rfl mf_Upload_total ml_X11_152 rfl (recv_K C (by decide) (by decide) rfl hk16) (by decide) (by decide) (Nat.le_refl _) rfl (cUpload_total (CX_tr C) σ M15 n3 a5 o ho)) (fun v18 => ?_)
  exact s_iret C 42 rfl rfl
def fHb_piece_j28 (a0 : Nat) (x2 : Int32) (r3 : Option Nat) (s0 : Int32) (M : Mm) (n : Nat) : Option ((Int32 ⊕ Nat) × Mm × Nat) :=
  bdC (fHb_checkState s0 M n) n fun v1 M2 n3 =>
  rk 9 r3 M2 fun a4 =>
  bdR (fUpload_total a4 M2) fun v7 =>
  rk 9 r3 M2 fun a9 =>
  bdR (fUpload_manyOf a9 x2 M2) fun v10 =>
  fgR 11 1102 (some a0) M2 fun v11 =>
  fgI 1 101 v11 M2 fun v12 =>
  if 40 < ((v7 - v10) + v12) then
    fHb_piece_j59 a0 x2 r3 0 M2 n3
  else
    fHb_piece_j59 a0 x2 r3 1 M2 n3
theorem wHb_piece_j28 {X : MC} {G : GE} {n0 : Nat} (C : CX X G RX11 cX11_piece pHb_piece 4 (some .int) n0) (htab : ∀ z ∈ X.2.2.2.2.2.2.2.2.exceptionTable.toList, False) {σ : Sg} (a0 : Nat) (x2 : Int32) (r3 : Option Nat) (s0 : Int32) (M : Mm) (n : Nat) : JS X G 4 300 0 n0 (EM X G n0 8 300 (eC rvI σ)) (fHb_piece_j28 a0 x2 r3 s0 M n) (σ, M, n) 28 [(0, .inr (.inl (some a0))), (2, .inl x2), (3, .inr (.inl r3))] [.inl s0] := by
  unfold fHb_piece_j28
  refine s_CU C htab (st := []) (fun o ho => j_callS (As := [.inl s0]) (st := []) C 15 rfl mf_Hb_checkState ml_X11_54 rfl (by decide) (by decide) (Nat.le_refl _) rfl (cHb_checkState (CX_tr C) σ M n s0 o ho)) (fun v1 M2 n3 _ => ?_)
  refine s_blk C 16 1 [0, 2, 3] (pc' := 32) (lv' := [(0, .inr (.inl (some a0))), (2, .inl x2), (3, .inr (.inl r3))]) (st' := [.inr (.inl r3)]) rfl ?_
  refine s_rk (fun a4 ha5 hk6 => ?_)
  subst ha5
  refine s_RI (CE_EM _ _ _ _ _ _) (st := []) (fun o ho => j_callV (As := []) (st := []) (b := a4) C 17 rfl mf_Upload_total ml_X11_152 rfl (recv_K C (by decide) (by decide) rfl hk6) (by decide) (by decide) (Nat.le_refl _) rfl (cUpload_total (CX_tr C) σ M2 n3 a4 o ho)) (fun v7 => ?_)
  refine s_blk C 18 2 [0, 2, 3] (pc' := 37) (lv' := [(0, .inr (.inl (some a0))), (2, .inl x2), (3, .inr (.inl (some a4)))]) (st' := [.inl x2, .inr (.inl (some a4)), .inl v7]) rfl ?_
  refine s_rks (fun hk8 => ?_)
  refine s_RI (CE_EM _ _ _ _ _ _) (st := [.inl v7]) (fun o ho => j_callV (As := [.inl x2]) (st := [.inl v7]) (b := a4) C 20 rfl mf_Upload_manyOf ml_X11_155 rfl (recv_K C (by decide) (by decide) rfl hk8) (by decide) (by decide) (Nat.le_refl _) rfl (cUpload_manyOf (CX_tr C) σ M2 n3 a4 x2 o ho)) (fun v10 => ?_)
  refine s_blk C 21 2 [0, 2, 3] (pc' := 42) (lv' := [(0, .inr (.inl (some a0))), (2, .inl x2), (3, .inr (.inl (some a4)))]) (st' := [.inr (.inl (some a0)), .inl (v7 - v10)]) rfl ?_
  refine s_gR C 23 rfl fl_X11_22 rfl rfl (fun v11 => ?_)
  refine s_gI C 24 rfl fl_X11_50 rfl rfl (fun v12 => ?_)
  refine s_blk C 25 2 [0, 2, 3] (pc' := 51) (lv' := [(0, .inr (.inl (some a0))), (2, .inl x2), (3, .inr (.inl (some a4)))]) (st' := [.inl 40, .inl ((v7 - v10) + v12)]) rfl ?_
  refine s_icgt C 27 rfl (fun _ => ?_) (fun _ => ?_)
  · refine s_blk C 30 1 [0, 2, 3] (pc' := 59) (lv' := [(0, .inr (.inl (some a0))), (2, .inl x2), (3, .inr (.inl (some a4)))]) (st' := [.inl 0]) rfl ?_
    exact wHb_piece_j59 C htab a0 _ _ _ _ _
  refine s_blk C 28 2 [0, 2, 3] (pc' := 59) (lv' := [(0, .inr (.inl (some a0))), (2, .inl x2), (3, .inr (.inl (some a4)))]) (st' := [.inl 1]) rfl ?_
  exact wHb_piece_j59 C htab a0 _ _ _ _ _
def fHb_piece (a0 : Nat) (x1 : Int32) (x2 : Int32) (M : Mm) (n : Nat) : Option ((Int32 ⊕ Nat) × Mm × Nat) :=
  rk 11 (some a0) M fun _ =>
  bdC (fHb_openUpload a0 x1 M n) n fun v2 M3 n4 =>
  bdC (fHb_checkRange x2 1 9 M3 n4) n4 fun v5 M6 n7 =>
  fgR 11 1102 (some a0) M6 fun v8 =>
  fgI 1 101 v8 M6 fun v9 =>
  if v9 ≤ 0 then
    fHb_piece_j28 a0 x2 v2 0 M6 n7
  else
    fHb_piece_j28 a0 x2 v2 1 M6 n7
theorem wHb_piece {X : MC} {G : GE} {n0 : Nat} (C : CX X G RX11 cX11_piece pHb_piece 4 (some .int) n0) (htab : ∀ z ∈ X.2.2.2.2.2.2.2.2.exceptionTable.toList, False) {σ : Sg} (a0 : Nat) (x1 : Int32) (x2 : Int32) (M : Mm) (n : Nat) : JS X G 4 300 0 n0 (EM X G n0 8 300 (eC rvI σ)) (fHb_piece a0 x1 x2 M n) (σ, M, n) 0 [(0, .inr (.inl (some a0))), (1, .inl x1), (2, .inl x2)] [] := by
  unfold fHb_piece
  refine s_blk C 0 2 [0, 2] (pc' := 2) (lv' := [(0, .inr (.inl (some a0))), (2, .inl x2)]) (st' := [.inl x1, .inr (.inl (some a0))]) rfl ?_
  refine s_rks (fun hk1 => ?_)
  refine s_CR C htab (st := []) (fun o ho => j_callV (As := [.inl x1]) (st := []) (b := a0) C 2 rfl mf_Hb_openUpload ml_X11_148 rfl (recv_K C (by decide) (by decide) rfl hk1) (by decide) (by decide) (Nat.le_refl _) rfl (cHb_openUpload (CX_tr C) σ M n a0 x1 o ho)) (fun v2 M3 n4 _ => ?_)
  refine s_blk C 3 4 [0, 2, 3] (pc' := 10) (lv' := [(0, .inr (.inl (some a0))), (2, .inl x2), (3, .inr (.inl v2))]) (st' := [.inl 9, .inl 1, .inl x2]) rfl ?_
  refine s_CU C htab (st := []) (fun o ho => j_callS (As := [.inl x2, .inl 1, .inl 9]) (st := []) C 7 rfl mf_Hb_checkRange ml_X11_46 rfl (by decide) (by decide) (Nat.le_refl _) rfl (cHb_checkRange (CX_tr C) σ M3 n4 x2 1 9 o ho)) (fun v5 M6 n7 _ => ?_)
  refine s_blk C 8 1 [0, 2, 3] (pc' := 14) (lv' := [(0, .inr (.inl (some a0))), (2, .inl x2), (3, .inr (.inl v2))]) (st' := [.inr (.inl (some a0))]) rfl ?_
  refine s_gR C 9 rfl fl_X11_22 rfl rfl (fun v8 => ?_)
  refine s_gI C 10 rfl fl_X11_50 rfl rfl (fun v9 => ?_)
  refine s_ile C 11 rfl (fun _ => ?_) (fun _ => ?_)
  · refine s_blk C 14 1 [0, 2, 3] (pc' := 28) (lv' := [(0, .inr (.inl (some a0))), (2, .inl x2), (3, .inr (.inl v2))]) (st' := [.inl 0]) rfl ?_
    exact wHb_piece_j28 C htab a0 _ _ _ _ _
  refine s_blk C 12 2 [0, 2, 3] (pc' := 28) (lv' := [(0, .inr (.inl (some a0))), (2, .inl x2), (3, .inr (.inl v2))]) (st' := [.inl 1]) rfl ?_
  exact wHb_piece_j28 C htab a0 _ _ _ _ _
theorem cHb_piece {l : Launch} {G : GE} (htr : l.stackTraces = false) (σ : Sg) (M : Mm) (n : Nat) (a0 : Nat) (x1 : Int32) (x2 : Int32) : ∀ o, fHb_piece a0 x1 x2 M n = some o → MetX l G yX11_piece cX11_piece 4 (some .int) 8 300 [.inr (.inl (some a0)), .inl x1, .inl x2] (σ, M, n) ((eC rvI σ) o) :=
  c_ofX (by decide) kHb_piece htr rfl rfl fun X _ _ C htab => wHb_piece C htab a0 x1 x2 _ _

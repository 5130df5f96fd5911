def pStore_sweepUnused : List BR := [(0, .iconst 0, 1, 0, 1), (1, .istore_n 2, 1, 0, 2), (2, .iconst 0, 1, 0, 3), (3, .istore_n 3, 1, 0, 4), (4, .iload_n 3, 1, 0, 5), (5, .aload_n 0, 1, 0, 6), (6, .getfield 18, 3, 0, 9), (9, .invokevirtual 40, 3, 0, 12), (12, .if_icmp .ge (57), 3, 0, 69), (15, .iload_n 2, 1, 0, 16), (16, .iload_n 1, 1, 0, 17), (17, .if_icmp .ge (52), 3, 0, 69), (20, .aload_n 0, 1, 0, 21), (21, .getfield 18, 3, 0, 24), (24, .iload_n 3, 1, 0, 25), (25, .invokevirtual 44, 3, 0, 28), (28, .checkcast 48, 3, 0, 31), (31, .astore 4, 2, 0, 33), (33, .aload 4, 2, 0, 35), (35, .getfield 54, 3, 0, 38), (38, .ifCond .ne (25), 3, 0, 63), (41, .aload 4, 2, 0, 43), (43, .getfield 112, 3, 0, 46), (46, .ifCond .ne (17), 3, 0, 63), (49, .aload 4, 2, 0, 51), (51, .invokevirtual 125, 3, 0, 54), (54, .aload 4, 2, 0, 56), (56, .iconst 1, 1, 1, 57), (57, .putfield 54, 3, 0, 60), (60, .iinc 2 (1), 3, 1, 63), (63, .iinc 3 (1), 3, 1, 66), (66, .goto (-62), 3, 0, 4), (69, .iload_n 2, 1, 0, 70), (70, .ireturn, 1, 0, 71)]
theorem kStore_sweepUnused : bOK cX8_sweepUnused 5 pStore_sweepUnused = true := by decide +kernel
def fStore_sweepUnused_j63 (a0 : Nat) (k4 : Int32 → Int32 → Int32 → Mm → Option (Int32 × Mm)) (x1 : Int32) (x2 : Int32) (x3 : Int32) (M : Mm) : Option (Int32 × Mm) :=
  k4 x1 x2 (x3 + 1) M
theorem wStore_sweepUnused_j63 {X : MC} {G : GE} {n0 : Nat} (C : CX X G RX8 cX8_sweepUnused pStore_sweepUnused 5 (some .int) n0) (htab : ∀ z ∈ X.2.2.2.2.2.2.2.2.exceptionTable.toList, False) {σ : Sg} {n : Nat} (a0 : Nat) (k4 : Int32 → Int32 → Int32 → Mm → Option (Int32 × Mm)) (H4 : ∀ (x1 : Int32) (x2 : Int32) (x3 : Int32) (M : Mm), JS X G 5 300 0 n0 (EM X G n0 5 300 (eW rvI σ n)) (k4 x1 x2 x3 M) (σ, M, n) 4 [(0, .inr (.inl (some a0))), (1, .inl x1), (2, .inl x2), (3, .inl x3)] []) (x1 : Int32) (x2 : Int32) (x3 : Int32) (M : Mm) : JS X G 5 300 0 n0 (EM X G n0 5 300 (eW rvI σ n)) (fStore_sweepUnused_j63 a0 k4 x1 x2 x3 M) (σ, M, n) 63 [(0, .inr (.inl (some a0))), (1, .inl x1), (2, .inl x2), (3, .inl x3)] [] := by
  unfold fStore_sweepUnused_j63
  refine s_blk C 30 2 [0, 1, 2, 3] (pc' := 4) (lv' := [(0, .inr (.inl (some a0))), (1, .inl x1), (2, .inl x2), (3, .inl (x3 + 1))]) (st' := []) rfl ?_
  exact H4 _ _ _ _
def fStore_sweepUnused_b4 (a0 : Nat) (k4 : Int32 → Int32 → Int32 → Mm → Option (Int32 × Mm)) (x1 : Int32) (x2 : Int32) (x3 : Int32) (M : Mm) : Option (Int32 × Mm) :=
  fgR 8 801 (some a0) M fun v1 =>
  rk 12 v1 M fun a2 =>
  bdR (fAl_size a2 M) fun v5 =>
  if v5 ≤ x3 then
    some (x2, M)
  else
    if x1 ≤ x2 then
      some (x2, M)
    else
      fgR 8 801 (some a0) M fun v6 =>
      rk 12 v6 M fun a7 =>
      bdR (fAl_get a7 x3 M) fun v10 =>
      fca 5 v10 M fun v11 =>
      fgI 5 507 v11 M fun v12 =>
      if v12 = 0 then
        fgI 5 506 v11 M fun v13 =>
        if v13 = 0 then
          rk 5 v11 M fun a14 =>
          bdW (fPart_loseAll a14 M) fun v17 M18 =>
          fpZ 5 507 v11 1 M18 fun M19 =>
          fStore_sweepUnused_j63 a0 k4 x1 (x2 + 1) x3 M19
        else
          fStore_sweepUnused_j63 a0 k4 x1 x2 x3 M
      else
        fStore_sweepUnused_j63 a0 k4 x1 x2 x3 M
theorem wStore_sweepUnused_b4 {X : MC} {G : GE} {n0 : Nat} (C : CX X G RX8 cX8_sweepUnused pStore_sweepUnused 5 (some .int) n0) (htab : ∀ z ∈ X.2.2.2.2.2.2.2.2.exceptionTable.toList, False) {σ : Sg} {n : Nat} (a0 : Nat) (k4 : Int32 → Int32 → Int32 → Mm → Option (Int32 × Mm)) (H4 : ∀ (x1 : Int32) (x2 : Int32) (x3 : Int32) (M : Mm), JS X G 5 300 0 n0 (EM X G n0 5 300 (eW rvI σ n)) (k4 x1 x2 x3 M) (σ, M, n) 4 [(0, .inr (.inl (some a0))), (1, .inl x1), (2, .inl x2), (3, .inl x3)] []) (x1 : Int32) (x2 : Int32) (x3 : Int32) (M : Mm) : JS X G 5 300 0 n0 (EM X G n0 5 300 (eW rvI σ n)) (fStore_sweepUnused_b4 a0 k4 x1 x2 x3 M) (σ, M, n) 4 [(0, .inr (.inl (some a0))), (1, .inl x1), (2, .inl x2), (3, .inl x3)] [] := by
  unfold fStore_sweepUnused_b4
  refine s_blk C 4 2 [0, 1, 2, 3] (pc' := 6) (lv' := [(0, .inr (.inl (some a0))), (1, .inl x1), (2, .inl x2), (3, .inl x3)]) (st' := [.inr (.inl (some a0)), .inl x3]) rfl ?_
  refine s_gR C 6 rfl fl_X8_18 rfl rfl (fun v1 => ?_)
  refine s_rk (fun a2 ha3 hk4 => ?_)
  subst ha3
  refine s_RI (CE_EM _ _ _ _ _ _) (st := [.inl x3]) (fun o ho => j_callV (As := []) (st := [.inl x3]) (b := a2) C 7 rfl mf_Al_size ml_X8_40 rfl (recv_K C (by decide) (by decide) rfl hk4) (by decide) (by decide) (Nat.le_refl _) rfl (cAl_size (CX_tr C) σ M n a2 o ho)) (fun v5 => ?_)
  refine s_icge C 8 rfl (fun _ => ?_) (fun _ => ?_)
  · refine s_blk C 32 1 [] (pc' := 70) (lv' := []) (st' := [.inl x2]) rfl ?_
    exact s_iret C 33 rfl rfl
  refine s_blk C 9 2 [0, 1, 2, 3] (pc' := 17) (lv' := [(0, .inr (.inl (some a0))), (1, .inl x1), (2, .inl x2), (3, .inl x3)]) (st' := [.inl x1, .inl x2]) rfl ?_
  refine s_icge C 11 rfl (fun _ => ?_) (fun _ => ?_)
  · refine s_blk C 32 1 [] (pc' := 70) (lv' := []) (st' := [.inl x2]) rfl ?_
    exact s_iret C 33 rfl rfl
  refine s_blk C 12 1 [0, 1, 2, 3] (pc' := 21) (lv' := [(0, .inr (.inl (some a0))), (1, .inl x1), (2, .inl x2), (3, .inl x3)]) (st' := [.inr (.inl (some a0))]) rfl ?_
  refine s_gR C 13 rfl fl_X8_18 rfl rfl (fun v6 => ?_)
  refine s_blk C 14 1 [0, 1, 2, 3] (pc' := 25) (lv' := [(0, .inr (.inl (some a0))), (1, .inl x1), (2, .inl x2), (3, .inl x3)]) (st' := [.inl x3, .inr (.inl v6)]) rfl ?_
  refine s_rk (fun a7 ha8 hk9 => ?_)
  subst ha8
  refine s_RR (CE_EM _ _ _ _ _ _) (st := []) (fun o ho => j_callV (As := [.inl x3]) (st := []) (b := a7) C 15 rfl mf_Al_get ml_X8_44 rfl (recv_K C (by decide) (by decide) rfl hk9) (by decide) (by decide) (Nat.le_refl _) rfl (cAl_get (CX_tr C) σ M n a7 x3 o ho)) (fun v10 => ?_)
  refine s_cast C 16 rfl rfl (by decide) (by decide) cw_X8_48 (fun v11 => ?_)
  refine s_blk C 17 2 [0, 1, 2, 3, 4] (pc' := 35) (lv' := [(0, .inr (.inl (some a0))), (1, .inl x1), (2, .inl x2), (3, .inl x3), (4, .inr (.inl v11))]) (st' := [.inr (.inl v11)]) rfl ?_
  refine s_gI C 19 rfl fl_X8_54 rfl rfl (fun v12 => ?_)
  refine s_ine C 20 rfl (fun _ => ?_) (fun _ => ?_)
  · refine s_blk C 21 1 [0, 1, 2, 3, 4] (pc' := 43) (lv' := [(0, .inr (.inl (some a0))), (1, .inl x1), (2, .inl x2), (3, .inl x3), (4, .inr (.inl v11))]) (st' := [.inr (.inl v11)]) rfl ?_
    refine s_gI C 22 rfl fl_X8_112 rfl rfl (fun v13 => ?_)
    refine s_ine C 23 rfl (fun _ => ?_) (fun _ => ?_)
    · refine s_blk C 24 1 [0, 1, 2, 3, 4] (pc' := 51) (lv' := [(0, .inr (.inl (some a0))), (1, .inl x1), (2, .inl x2), (3, .inl x3), (4, .inr (.inl v11))]) (st' := [.inr (.inl v11)]) rfl ?_
      refine s_rk (fun a14 ha15 hk16 => ?_)
      subst ha15
      refine s_WU (CE_EM _ _ _ _ _ _) (st := []) (fun o ho => j_callV (As := []) (st := []) (b := a14) C 25 rfl mf_Part_loseAll ml_X8_125 rfl (recv_K C (by decide) (by decide) rfl hk16) (by decide) (by decide) (Nat.le_refl _) rfl (cPart_loseAll (CX_tr C) σ M n a14 o ho)) (fun v17 M18 => ?_)
      refine s_blk C 26 2 [0, 1, 2, 3] (pc' := 57) (lv' := [(0, .inr (.inl (some a0))), (1, .inl x1), (2, .inl x2), (3, .inl x3)]) (st' := [.inl 1, .inr (.inl (some a14))]) rfl ?_
      refine s_pZ C 28 rfl fl_X8_54 fp_X8_5_7 (fun h => Bool.noConfusion h) rfl rfl (fun M19 _ => ?_)
      refine s_blk C 29 1 [0, 1, 2, 3] (pc' := 63) (lv' := [(0, .inr (.inl (some a0))), (1, .inl x1), (2, .inl (x2 + 1)), (3, .inl x3)]) (st' := []) rfl ?_
      exact wStore_sweepUnused_j63 C htab a0 k4 H4 _ _ _ _
    refine s_blk C 0 0 [0, 1, 2, 3] (pc' := 63) (lv' := [(0, .inr (.inl (some a0))), (1, .inl x1), (2, .inl x2), (3, .inl x3)]) (st' := []) rfl ?_
    exact wStore_sweepUnused_j63 C htab a0 k4 H4 _ _ _ _
  refine s_blk C 0 0 [0, 1, 2, 3] (pc' := 63) (lv' := [(0, .inr (.inl (some a0))), (1, .inl x1), (2, .inl x2), (3, .inl x3)]) (st' := []) rfl ?_
  exact wStore_sweepUnused_j63 C htab a0 k4 H4 _ _ _ _
def fStore_sweepUnused_l4 (a0 : Nat) (fu : Nat) : Int32 → Int32 → Int32 → Mm → Option (Int32 × Mm) := Nat.rec (fun x1 x2 x3 M => none) (fun _ k => fStore_sweepUnused_b4 a0 k) fu
theorem wStore_sweepUnused_l4 {X : MC} {G : GE} {n0 : Nat} (C : CX X G RX8 cX8_sweepUnused pStore_sweepUnused 5 (some .int) n0) (htab : ∀ z ∈ X.2.2.2.2.2.2.2.2.exceptionTable.toList, False) {σ : Sg} {n : Nat} (a0 : Nat) : ∀ (fu : Nat) (x1 : Int32) (x2 : Int32) (x3 : Int32) (M : Mm), JS X G 5 300 0 n0 (EM X G n0 5 300 (eW rvI σ n)) (fStore_sweepUnused_l4 a0 fu x1 x2 x3 M) (σ, M, n) 4 [(0, .inr (.inl (some a0))), (1, .inl x1), (2, .inl x2), (3, .inl x3)] [] := by
  intro fu
  induction fu with
  | zero => intro x1 x2 x3 M; exact s_none
  | succ fu ih => intro x1 x2 x3 M; exact wStore_sweepUnused_b4 C htab a0 (fStore_sweepUnused_l4 a0 fu) ih _ _ _ _
def fStore_sweepUnused (a0 : Nat) (x1 : Int32) (M : Mm) : Option (Int32 × Mm) :=
  fStore_sweepUnused_l4 a0 FU x1 0 0 M
theorem wStore_sweepUnused {X : MC} {G : GE} {n0 : Nat} (C : CX X G RX8 cX8_sweepUnused pStore_sweepUnused 5 (some .int) n0) (htab : ∀ z ∈ X.2.2.2.2.2.2.2.2.exceptionTable.toList, False) {σ : Sg} {n : Nat} (a0 : Nat) (x1 : Int32) (M : Mm) : JS X G 5 300 0 n0 (EM X G n0 5 300 (eW rvI σ n)) (fStore_sweepUnused a0 x1 M) (σ, M, n) 0 [(0, .inr (.inl (some a0))), (1, .inl x1)] [] := by
  unfold fStore_sweepUnused
  refine s_blk C 0 4 [0, 1, 2, 3] (pc' := 4) (lv' := [(0, .inr (.inl (some a0))), (1, .inl x1), (2, .inl 0), (3, .inl 0)]) (st' := []) rfl ?_
  exact wStore_sweepUnused_l4 C htab a0 FU _ _ _ _
theorem cStore_sweepUnused {l : Launch} {G : GE} (htr : l.stackTraces = false) (σ : Sg) (M : Mm) (n : Nat) (a0 : Nat) (x1 : Int32) : ∀ o, fStore_sweepUnused a0 x1 M = some o → MetX l G yX8_sweepUnused cX8_sweepUnused 5 (some .int) 5 300 [.inr (.inl (some a0)), .inl x1] (σ, M, n) ((eW rvI σ n) o) :=
  c_ofX (by decide) kStore_sweepUnused htr rfl rfl fun X _ _ C htab => wStore_sweepUnused C htab a0 x1 _
def pHb_sweep : List BR := [(0, .aload_n 0, 1, 0, 1), (1, .iload_n 1, 1, 0, 2), (2, .invokevirtual 65, 3, 0, 5), (5, .getfield 215, 3, 0, 8), (8, .astore_n 3, 1, 0, 9), (9, .iload_n 2, 1, 0, 10), (10, .iconst 1, 1, 1, 11), (11, .bipush 99, 2, 99, 13), (13, .invokestatic 46, 3, 0, 16), (16, .aload_n 3, 1, 0, 17), (17, .iload_n 2, 1, 0, 18), (18, .invokevirtual 255, 3, 0, 21), (21, .ireturn, 1, 0, 22)]
theorem kHb_sweep : bOK cX11_sweep 4 pHb_sweep = true := by decide +kernel
def fHb_sweep (a0 : Nat) (x1 : Int32) (x2 : Int32) (M : Mm) (n : Nat) : Option ((Int32 ⊕ Nat) × Mm × Nat) :=
  rk 11 (some a0) M fun _ =>
  bdC (fHb_regionOf a0 x1 M n) n fun v2 M3 n4 =>
  fgR 6 600 v2 M3 fun v5 =>
  bdC (fHb_checkRange x2 1 99 M3 n4) n4 fun v6 M7 n8 =>
  rk 8 v5 M7 fun a9 =>
  bdW (fStore_sweepUnused a9 x2 M7) fun v12 M13 =>
  some (.inl v12, M13, n8)
theorem wHb_sweep {X : MC} {G : GE} {n0 : Nat} (C : CX X G RX11 cX11_sweep pHb_sweep 4 (some .int) n0) (htab : ∀ z ∈ X.2.2.2.2.2.2.2.2.exceptionTable.toList, False) {σ : Sg} (a0 : Nat) (x1 : Int32) (x2 : Int32) (M : Mm) (n : Nat) : JS X G 4 300 0 n0 (EM X G n0 8 300 (eC rvI σ)) (fHb_sweep a0 x1 x2 M n) (σ, M, n) 0 [(0, .inr (.inl (some a0))), (1, .inl x1), (2, .inl x2)] [] := by
  unfold fHb_sweep
  refine s_blk C 0 2 [2] (pc' := 2) (lv' := [(2, .inl x2)]) (st' := [.inl x1, .inr (.inl (some a0))]) rfl ?_
  refine s_rks (fun hk1 => ?_)
  refine s_CR C htab (st := []) (fun o ho => j_callV (As := [.inl x1]) (st := []) (b := a0) C 2 rfl mf_Hb_regionOf ml_X11_65 rfl (recv_K C (by decide) (by decide) rfl hk1) (by decide) (by decide) (Nat.le_refl _) rfl (cHb_regionOf (CX_tr C) σ M n a0 x1 o ho)) (fun v2 M3 n4 _ => ?_)
  refine s_gR C 3 rfl fl_X11_215 rfl rfl (fun v5 => ?_)
  refine s_blk C 4 4 [2, 3] (pc' := 13) (lv' := [(2, .inl x2), (3, .inr (.inl v5))]) (st' := [.inl 99, .inl 1, .inl x2]) rfl ?_
  refine s_CU C htab (st := []) (fun o ho => j_callS (As := [.inl x2, .inl 1, .inl 99]) (st := []) C 8 rfl mf_Hb_checkRange ml_X11_46 rfl (by decide) (by decide) (Nat.le_refl _) rfl (cHb_checkRange (CX_tr C) σ M3 n4 x2 1 99 o ho)) (fun v6 M7 n8 _ => ?_)
  refine s_blk C 9 2 [] (pc' := 18) (lv' := []) (st' := [.inl x2, .inr (.inl v5)]) rfl ?_
  refine s_rk (fun a9 ha10 hk11 => ?_)
  subst ha10
  refine s_WI (CE_EM _ _ _ _ _ _) (st := []) (fun o ho => j_callV (As := [.inl x2]) (st := []) (b := a9) C 11 rfl mf_Store_sweepUnused ml_X11_255 rfl (recv_K C (by decide) (by decide) rfl hk11) (by decide) (by decide) (Nat.le_refl _) rfl (cStore_sweepUnused (CX_tr C) σ M7 n8 a9 x2 o ho)) (fun v12 M13 => ?_)
  exact s_iret C 12 rfl rfl
theorem cHb_sweep {l : Launch} {G : GE} (htr : l.stackTraces = false) (σ : Sg) (M : Mm) (n : Nat) (a0 : Nat) (x1 : Int32) (x2 : Int32) : ∀ o, fHb_sweep a0 x1 x2 M n = some o → MetX l G yX11_sweep cX11_sweep 4 (some .int) 8 300 [.inr (.inl (some a0)), .inl x1, .inl x2] (σ, M, n) ((eC rvI σ) o) :=
  c_ofX (by decide) kHb_sweep htr rfl rfl fun X _ _ C htab => wHb_sweep C htab a0 x1 x2 _ _
def pUpload_init : List BR := [(0, .aload_n 0, 1, 0, 1), (1, .invokespecial 3, 3, 0, 4), (4, .aload_n 0, 1, 0, 5), (5, .bipush 9, 2, 9, 7), (7, .anewarray 9, 3, 0, 10), (10, .putfield 11, 3, 0, 13), (13, .aload_n 0, 1, 0, 14), (14, .aload_n 1, 1, 0, 15), (15, .putfield 17, 3, 0, 18), (18, .aload_n 0, 1, 0, 19), (19, .iload_n 2, 1, 0, 20), (20, .putfield 21, 3, 0, 23), (23, .iconst 0, 1, 0, 24), (24, .istore_n 3, 1, 0, 25), (25, .iload_n 3, 1, 0, 26), (26, .aload_n 0, 1, 0, 27), (27, .getfield 11, 3, 0, 30), (30, .arraylength, 1, 0, 31), (31, .if_icmp .ge (22), 3, 0, 53), (34, .aload_n 0, 1, 0, 35), (35, .getfield 11, 3, 0, 38), (38, .iload_n 3, 1, 0, 39), (39, .new 9, 3, 0, 42), (42, .dup, 1, 0, 43), (43, .invokespecial 25, 3, 0, 46), (46, .aastore, 1, 0, 47), (47, .iinc 3 (1), 3, 1, 50), (50, .goto (-25), 3, 0, 25), (53, .return_, 1, 0, 54)]
theorem kUpload_init : bOK cX9_init 4 pUpload_init = true := by decide +kernel
def fUpload_init_b25 (a0 : Nat) (k25 : Int32 → Mm → Nat → Option ((Unit ⊕ Nat) × Mm × Nat)) (x3 : Int32) (M : Mm) (n : Nat) : Option ((Unit ⊕ Nat) × Mm × Nat) :=
  fgR 9 902 (some a0) M fun v1 =>
  aln v1 M fun v2 =>
  if v2 ≤ x3 then
    some (.inl (), M, n)
  else
    fgR 9 902 (some a0) M fun v3 =>
    nwO 1 M n fun y4 M5 n6 =>
    rk 1 y4 M5 fun a7 =>
    bdN (fBytes_init a7 M5 n6) n6 fun v10 M11 n12 =>
    asP 24 v3 x3 y4 M11 fun M13 =>
    k25 (x3 + 1) M13 n12
theorem wUpload_init_b25 {X : MC} {G : GE} {n0 : Nat} (C : CX X G RX9 cX9_init pUpload_init 4 none n0) (htab : ∀ z ∈ X.2.2.2.2.2.2.2.2.exceptionTable.toList, False) (hin : X.2.2.2.2.2.2.2.1.name = "<init>") {σ : Sg} (a0 : Nat) (k25 : Int32 → Mm → Nat → Option ((Unit ⊕ Nat) × Mm × Nat)) (H25 : ∀ (x3 : Int32) (M : Mm) (n : Nat), JS X G 4 300 0 n0 (EM X G n0 3 300 (eC rvU σ)) (k25 x3 M n) (σ, M, n) 25 [(0, .inr (.inl (some a0))), (3, .inl x3)] []) (x3 : Int32) (M : Mm) (n : Nat) : JS X G 4 300 0 n0 (EM X G n0 3 300 (eC rvU σ)) (fUpload_init_b25 a0 k25 x3 M n) (σ, M, n) 25 [(0, .inr (.inl (some a0))), (3, .inl x3)] [] := by
  unfold fUpload_init_b25
  refine s_blk C 14 2 [0, 3] (pc' := 27) (lv' := [(0, .inr (.inl (some a0))), (3, .inl x3)]) (st' := [.inr (.inl (some a0)), .inl x3]) rfl ?_
  refine s_gR C 16 rfl fl_X9_11 rfl rfl (fun v1 => ?_)
  refine s_len C 17 rfl (fun v2 => ?_)
  refine s_icge C 18 rfl (fun _ => ?_) (fun _ => ?_)
  · exact s_vret C 28 rfl rfl
  refine s_blk C 19 1 [0, 3] (pc' := 35) (lv' := [(0, .inr (.inl (some a0))), (3, .inl x3)]) (st' := [.inr (.inl (some a0))]) rfl ?_
  refine s_gR C 20 rfl fl_X9_11 rfl rfl (fun v3 => ?_)
  refine s_blk C 21 1 [0, 3] (pc' := 39) (lv' := [(0, .inr (.inl (some a0))), (3, .inl x3)]) (st' := [.inl x3, .inr (.inl v3)]) rfl ?_
  refine s_new C (CE_EM _ _ _ _ _ _) 22 rfl cl_X9_9 (by decide) (fun y4 M5 n6 _ _ => ?_)
  refine s_blk C 23 1 [0, 3] (pc' := 43) (lv' := [(0, .inr (.inl (some a0))), (3, .inl x3)]) (st' := [.inr (.inl y4), .inr (.inl y4), .inl x3, .inr (.inl v3)]) rfl ?_
  refine s_rk (fun a7 ha8 hk9 => ?_)
  subst ha8
  refine s_NU C htab (st := [.inr (.inl (some a7)), .inl x3, .inr (.inl v3)]) (fun v M1 n1 ho => j_callI (As := []) (st := [.inr (.inl (some a7)), .inl x3, .inr (.inl v3)]) (b := a7) C 24 rfl mf_Bytes_init (Or.inr ml_X9_25) rfl (by decide) (by decide) (Nat.le_refl _) rfl (cBytes_init (CX_tr C) σ M5 n6 a7 _ ho) rfl) (fun v10 M11 n12 _ => ?_)
  refine s_stP C 25 rfl (Or.inr rfl) (fun M13 _ => ?_)
  refine s_blk C 26 2 [0, 3] (pc' := 25) (lv' := [(0, .inr (.inl (some a0))), (3, .inl (x3 + 1))]) (st' := []) rfl ?_
  exact H25 _ _ _
def fUpload_init_l25 (a0 : Nat) (fu : Nat) : Int32 → Mm → Nat → Option ((Unit ⊕ Nat) × Mm × Nat) := Nat.rec (fun x3 M n => none) (fun _ k => fUpload_init_b25 a0 k) fu
theorem wUpload_init_l25 {X : MC} {G : GE} {n0 : Nat} (C : CX X G RX9 cX9_init pUpload_init 4 none n0) (htab : ∀ z ∈ X.2.2.2.2.2.2.2.2.exceptionTable.toList, False) (hin : X.2.2.2.2.2.2.2.1.name = "<init>") {σ : Sg} (a0 : Nat) : ∀ (fu : Nat) (x3 : Int32) (M : Mm) (n : Nat), JS X G 4 300 0 n0 (EM X G n0 3 300 (eC rvU σ)) (fUpload_init_l25 a0 fu x3 M n) (σ, M, n) 25 [(0, .inr (.inl (some a0))), (3, .inl x3)] [] := by
  intro fu
  induction fu with
  | zero => intro x3 M n; exact s_none
  | succ fu ih => intro x3 M n; exact wUpload_init_b25 C htab hin a0 (fUpload_init_l25 a0 fu) ih _ _ _
def fUpload_init (a0 : Nat) (r1 : Option Nat) (x2 : Int32) (M : Mm) (n : Nat) : Option ((Unit ⊕ Nat) × Mm × Nat) :=
  nwA 24 300 9 M n fun y1 M2 n3 =>
  fpR 9 902 (some a0) y1 M2 fun M4 =>
  fpR 9 900 (some a0) r1 M4 fun M5 =>
  fpI 9 901 (some a0) x2 M5 fun M6 =>
  fUpload_init_l25 a0 FU 0 M6 n3
theorem wUpload_init {X : MC} {G : GE} {n0 : Nat} (C : CX X G RX9 cX9_init pUpload_init 4 none n0) (htab : ∀ z ∈ X.2.2.2.2.2.2.2.2.exceptionTable.toList, False) (hin : X.2.2.2.2.2.2.2.1.name = "<init>") {σ : Sg} (a0 : Nat) (r1 : Option Nat) (x2 : Int32) (M : Mm) (n : Nat) : JS X G 4 300 0 n0 (EM X G n0 3 300 (eC rvU σ)) (fUpload_init a0 r1 x2 M n) (σ, M, n) 0 [(0, .inr (.inl (some a0))), (1, .inr (.inl r1)), (2, .inl x2)] [] := by
  unfold fUpload_init
  refine s_blk C 0 1 [0, 1, 2] (pc' := 1) (lv' := [(0, .inr (.inl (some a0))), (1, .inr (.inl r1)), (2, .inl x2)]) (st' := [.inr (.inl (some a0))]) rfl ?_
  refine s_sup C (CE_EM _ _ _ _ _ _) 1 rfl ml_X9_3 (by decide) rfl ?_
  refine s_blk C 2 2 [0, 1, 2] (pc' := 7) (lv' := [(0, .inr (.inl (some a0))), (1, .inr (.inl r1)), (2, .inl x2)]) (st' := [.inl 9, .inr (.inl (some a0))]) rfl ?_
  refine s_newP C (CE_EM _ _ _ _ _ _) 4 rfl (Or.inr ⟨rfl, rfl⟩) cw_X9_9 (by decide) (by decide) (fun y1 M2 n3 _ _ => ?_)
  refine s_pR C 5 rfl fl_X9_11 fp_X9_9_2 (fun _ => hin) rfl rfl rfl (fun M4 _ => ?_)
  refine s_blk C 6 2 [0, 2] (pc' := 15) (lv' := [(0, .inr (.inl (some a0))), (2, .inl x2)]) (st' := [.inr (.inl r1), .inr (.inl (some a0))]) rfl ?_
  refine s_pR C 8 rfl fl_X9_17 fp_X9_9_0 (fun _ => hin) rfl rfl rfl (fun M5 _ => ?_)
  refine s_blk C 9 2 [0] (pc' := 20) (lv' := [(0, .inr (.inl (some a0)))]) (st' := [.inl x2, .inr (.inl (some a0))]) rfl ?_
  refine s_pI C 11 rfl fl_X9_21 fp_X9_9_1 (fun _ => hin) rfl rfl (fun M6 _ => ?_)
  refine s_blk C 12 2 [0, 3] (pc' := 25) (lv' := [(0, .inr (.inl (some a0))), (3, .inl 0)]) (st' := []) rfl ?_
  exact wUpload_init_l25 C htab hin a0 FU _ _ _
theorem cUpload_init {l : Launch} {G : GE} (htr : l.stackTraces = false) (σ : Sg) (M : Mm) (n : Nat) (a0 : Nat) (r1 : Option Nat) (x2 : Int32) : ∀ o, fUpload_init a0 r1 x2 M n = some o → MetX l G yX9_init cX9_init 4 none 3 300 [.inr (.inl (some a0)), .inr (.inl r1), .inl x2] (σ, M, n) ((eC rvU σ) o) :=
  c_ofX (by decide) kUpload_init htr rfl rfl fun X _ hin C htab => wUpload_init C htab hin a0 r1 x2 _ _
def pHb_upload : List BR := [(0, .aload_n 0, 1, 0, 1), (1, .iload_n 1, 1, 0, 2), (2, .invokevirtual 65, 3, 0, 5), (5, .astore_n 3, 1, 0, 6), (6, .iload_n 2, 1, 0, 7), (7, .invokestatic 69, 3, 0, 10), (10, .aload_n 0, 1, 0, 11), (11, .getfield 35, 3, 0, 14), (14, .invokevirtual 136, 3, 0, 17), (17, .bipush 12, 2, 12, 19), (19, .if_icmp .ge (7), 3, 0, 26), (22, .iconst 1, 1, 1, 23), (23, .goto (4), 3, 0, 27), (26, .iconst 0, 1, 0, 27), (27, .invokestatic 54, 3, 0, 30), (30, .aload_n 0, 1, 0, 31), (31, .getfield 35, 3, 0, 34), (34, .new 139, 3, 0, 37), (37, .dup, 1, 0, 38), (38, .aload_n 3, 1, 0, 39), (39, .iload_n 2, 1, 0, 40), (40, .invokespecial 141, 3, 0, 43), (43, .invokevirtual 144, 3, 0, 46), (46, .pop, 1, 0, 47), (47, .aload_n 0, 1, 0, 48), (48, .getfield 35, 3, 0, 51), (51, .invokevirtual 136, 3, 0, 54), (54, .iconst 1, 1, 1, 55), (55, .isub, 1, 0, 56), (56, .ireturn, 1, 0, 57)]
theorem kHb_upload : bOK cX11_upload 4 pHb_upload = true := by decide +kernel
def fHb_upload_j27 (a0 : Nat) (x2 : Int32) (r3 : Option Nat) (s0 : Int32) (M : Mm) (n : Nat) : Option ((Int32 ⊕ Nat) × Mm × Nat) :=
  bdC (fHb_checkState s0 M n) n fun v1 M2 n3 =>
  fgR 11 1105 (some a0) M2 fun v4 =>
  nwO 9 M2 n3 fun y5 M6 n7 =>
  rk 9 y5 M6 fun a8 =>
  bdN (fUpload_init a8 r3 x2 M6 n7) n7 fun v11 M12 n13 =>
  rk 12 v4 M12 fun a14 =>
  bdC (fAl_add1 a14 y5 M12 n13) n13 fun v17 M18 n19 =>
  fgR 11 1105 (some a0) M18 fun v20 =>
  rk 12 v20 M18 fun a21 =>
  bdR (fAl_size a21 M18) fun v24 =>
  some (.inl (v24 - 1), M18, n19)
theorem wHb_upload_j27 {X : MC} {G : GE} {n0 : Nat} (C : CX X G RX11 cX11_upload pHb_upload 4 (some .int) n0) (htab : ∀ z ∈ X.2.2.2.2.2.2.2.2.exceptionTable.toList, False) {σ : Sg} (a0 : Nat) (x2 : Int32) (r3 : Option Nat) (s0 : Int32) (M : Mm) (n : Nat) : JS X G 4 300 0 n0 (EM X G n0 8 300 (eC rvI σ)) (fHb_upload_j27 a0 x2 r3 s0 M n) (σ, M, n) 27 [(0, .inr (.inl (some a0))), (2, .inl x2), (3, .inr (.inl r3))] [.inl s0] := by
  unfold fHb_upload_j27
  refine s_CU C htab (st := []) (fun o ho => j_callS (As := [.inl s0]) (st := []) C 14 rfl mf_Hb_checkState ml_X11_54 rfl (by decide) (by decide) (Nat.le_refl _) rfl (cHb_checkState (CX_tr C) σ M n s0 o ho)) (fun v1 M2 n3 _ => ?_)
  refine s_blk C 15 1 [0, 2, 3] (pc' := 31) (lv' := [(0, .inr (.inl (some a0))), (2, .inl x2), (3, .inr (.inl r3))]) (st' := [.inr (.inl (some a0))]) rfl ?_
  refine s_gR C 16 rfl fl_X11_35 rfl rfl (fun v4 => ?_)
  refine s_new C (CE_EM _ _ _ _ _ _) 17 rfl cl_X11_139 (by decide) (fun y5 M6 n7 _ _ => ?_)
  refine s_blk C 18 3 [0] (pc' := 40) (lv' := [(0, .inr (.inl (some a0)))]) (st' := [.inl x2, .inr (.inl r3), .inr (.inl y5), .inr (.inl y5), .inr (.inl v4)]) rfl ?_
  refine s_rk (fun a8 ha9 hk10 => ?_)
  subst ha9
  refine s_NU C htab (st := [.inr (.inl (some a8)), .inr (.inl v4)]) (fun v M1 n1 ho => j_callI (As := [.inr (.inl r3), .inl x2]) (st := [.inr (.inl (some a8)), .inr (.inl v4)]) (b := a8) C 21 rfl mf_Upload_init (Or.inl ml_X11_141) rfl (by decide) (by decide) (Nat.le_refl _) rfl (cUpload_init (CX_tr C) σ M6 n7 a8 r3 x2 _ ho) rfl) (fun v11 M12 n13 _ => ?_)
  refine s_rk (fun a14 ha15 hk16 => ?_)
  subst ha15
  refine s_CI C htab (st := []) (fun o ho => j_callV (As := [.inr (.inl (some a8))]) (st := []) (b := a14) C 22 rfl mf_Al_add1 ml_X11_144 rfl (recv_K C (by decide) (by decide) rfl hk16) (by decide) (by decide) (Nat.le_refl _) rfl (cAl_add1 (CX_tr C) σ M12 n13 a14 (some a8) o ho)) (fun v17 M18 n19 _ => ?_)
  refine s_blk C 23 2 [] (pc' := 48) (lv' := []) (st' := [.inr (.inl (some a0))]) rfl ?_
  refine s_gR C 25 rfl fl_X11_35 rfl rfl (fun v20 => ?_)
  refine s_rk (fun a21 ha22 hk23 => ?_)
  subst ha22
  refine s_RI (CE_EM _ _ _ _ _ _) (st := []) (fun o ho => j_callV (As := []) (st := []) (b := a21) C 26 rfl mf_Al_size ml_X11_136 rfl (recv_K C (by decide) (by decide) rfl hk23) (by decide) (by decide) (Nat.le_refl _) rfl (cAl_size (CX_tr C) σ M18 n19 a21 o ho)) (fun v24 => ?_)
  refine s_blk C 27 2 [] (pc' := 56) (lv' := []) (st' := [.inl (v24 - 1)]) rfl ?_
  exact s_iret C 29 rfl rfl
def fHb_upload (a0 : Nat) (x1 : Int32) (x2 : Int32) (M : Mm) (n : Nat) : Option ((Int32 ⊕ Nat) × Mm × Nat) :=
  rk 11 (some a0) M fun _ =>
  bdC (fHb_regionOf a0 x1 M n) n fun v2 M3 n4 =>
  bdC (fHb_checkKey x2 M3 n4) n4 fun v5 M6 n7 =>
  fgR 11 1105 (some a0) M6 fun v8 =>
  rk 12 v8 M6 fun a9 =>
  bdR (fAl_size a9 M6) fun v12 =>
  if 12 ≤ v12 then
    fHb_upload_j27 a0 x2 v2 0 M6 n7
  else
    fHb_upload_j27 a0 x2 v2 1 M6 n7
theorem wHb_upload {X : MC} {G : GE} {n0 : Nat} (C : CX X G RX11 cX11_upload pHb_upload 4 (some .int) n0) (htab : ∀ z ∈ X.2.2.2.2.2.2.2.2.exceptionTable.toList, False) {σ : Sg} (a0 : Nat) (x1 : Int32) (x2 : Int32) (M : Mm) (n : Nat) : JS X G 4 300 0 n0 (EM X G n0 8 300 (eC rvI σ)) (fHb_upload a0 x1 x2 M n) (σ, M, n) 0 [(0, .inr (.inl (some a0))), (1, .inl x1), (2, .inl x2)] [] := by
  unfold fHb_upload
  refine s_blk C 0 2 [0, 2] (pc' := 2) (lv' := [(0, .inr (.inl (some a0))), (2, .inl x2)]) (st' := [.inl x1, .inr (.inl (some a0))]) rfl ?_
  refine s_rks (fun hk1 => ?_)
  refine s_CR C htab (st := []) (fun o ho => j_callV (As := [.inl x1]) (st := []) (b := a0) C 2 rfl mf_Hb_regionOf ml_X11_65 rfl (recv_K C (by decide) (by decide) rfl hk1) (by decide) (by decide) (Nat.le_refl _) rfl (cHb_regionOf (CX_tr C) σ M n a0 x1 o ho)) (fun v2 M3 n4 _ => ?_)
  refine s_blk C 3 2 [0, 2, 3] (pc' := 7) (lv' := [(0, .inr (.inl (some a0))), (2, .inl x2), (3, .inr (.inl v2))]) (st' := [.inl x2]) rfl ?_
  refine s_CU C htab (st := []) (fun o ho => j_callS (As := [.inl x2]) (st := []) C 5 rfl mf_Hb_checkKey ml_X11_69 rfl (by decide) (by decide) (Nat.le_refl _) rfl (cHb_checkKey (CX_tr C) σ M3 n4 x2 o ho)) (fun v5 M6 n7 _ => ?_)
  refine s_blk C 6 1 [0, 2, 3] (pc' := 11) (lv' := [(0, .inr (.inl (some a0))), (2, .inl x2), (3, .inr (.inl v2))]) (st' := [.inr (.inl (some a0))]) rfl ?_
  refine s_gR C 7 rfl fl_X11_35 rfl rfl (fun v8 => ?_)
  refine s_rk (fun a9 ha10 hk11 => ?_)
  subst ha10
  refine s_RI (CE_EM _ _ _ _ _ _) (st := []) (fun o ho => j_callV (As := []) (st := []) (b := a9) C 8 rfl mf_Al_size ml_X11_136 rfl (recv_K C (by decide) (by decide) rfl hk11) (by decide) (by decide) (Nat.le_refl _) rfl (cAl_size (CX_tr C) σ M6 n7 a9 o ho)) (fun v12 => ?_)
  refine s_blk C 9 1 [0, 2, 3] (pc' := 19) (lv' := [(0, .inr (.inl (some a0))), (2, .inl x2), (3, .inr (.inl v2))]) (st' := [.inl 12, .inl v12]) rfl ?_
  refine s_icge C 10 rfl (fun _ => ?_) (fun _ => ?_)
  · refine s_blk C 13 1 [0, 2, 3] (pc' := 27) (lv' := [(0, .inr (.inl (some a0))), (2, .inl x2), (3, .inr (.inl v2))]) (st' := [.inl 0]) rfl ?_
    exact wHb_upload_j27 C htab a0 _ _ _ _ _
  refine s_blk C 11 2 [0, 2, 3] (pc' := 27) (lv' := [(0, .inr (.inl (some a0))), (2, .inl x2), (3, .inr (.inl v2))]) (st' := [.inl 1]) rfl ?_
  exact wHb_upload_j27 C htab a0 _ _ _ _ _
theorem cHb_upload {l : Launch} {G : GE} (htr : l.stackTraces = false) (σ : Sg) (M : Mm) (n : Nat) (a0 : Nat) (x1 : Int32) (x2 : Int32) : ∀ o, fHb_upload a0 x1 x2 M n = some o → MetX l G yX11_upload cX11_upload 4 (some .int) 8 300 [.inr (.inl (some a0)), .inl x1, .inl x2] (σ, M, n) ((eC rvI σ) o) :=
  c_ofX (by decide) kHb_upload htr rfl rfl fun X _ _ C htab => wHb_upload C htab a0 x1 x2 _ _
def pRegion_numberAt : List BR := [(0, .iload_n 2, 1, 0, 1), (1, .istore_n 3, 1, 0, 2), (2, .iconst 0, 1, 0, 3), (3, .istore 4, 2, 0, 5), (5, .iload 4, 2, 0, 7), (7, .aload_n 0, 1, 0, 8), (8, .getfield 21, 3, 0, 11), (11, .invokevirtual 32, 3, 0, 14), (14, .if_icmp .ge (48), 3, 0, 62), (17, .aload_n 0, 1, 0, 18), (18, .getfield 21, 3, 0, 21), (21, .iload 4, 2, 0, 23), (23, .invokevirtual 36, 3, 0, 26), (26, .checkcast 40, 3, 0, 29), (29, .getfield 42, 3, 0, 32), (32, .astore 5, 2, 0, 34), (34, .aload 5, 2, 0, 36), (36, .getfield 46, 3, 0, 39), (39, .iload_n 1, 1, 0, 40), (40, .if_icmp .ne (16), 3, 0, 56), (43, .iload_n 3, 1, 0, 44), (44, .ifCond .ne (9), 3, 0, 53), (47, .aload 5, 2, 0, 49), (49, .getfield 52, 3, 0, 52), (52, .ireturn, 1, 0, 53), (53, .iinc 3 (-1), 3, -1, 56), (56, .iinc 4 (1), 3, 1, 59), (59, .goto (-54), 3, 0, 5), (62, .iconst 0, 1, 0, 63), (63, .ireturn, 1, 0, 64)]
theorem kRegion_numberAt : bOK cX6_numberAt 6 pRegion_numberAt = true := by decide +kernel
def fRegion_numberAt_j56 (a0 : Nat) (k5 : Int32 → Int32 → Int32 → Mm → Option (Int32)) (x1 : Int32) (x3 : Int32) (x4 : Int32) (M : Mm) : Option (Int32) :=
  k5 x1 x3 (x4 + 1) M
theorem wRegion_numberAt_j56 {X : MC} {G : GE} {n0 : Nat} (C : CX X G RX6 cX6_numberAt pRegion_numberAt 6 (some .int) n0) (htab : ∀ z ∈ X.2.2.2.2.2.2.2.2.exceptionTable.toList, False) {σ : Sg} {M : Mm} {n : Nat} (a0 : Nat) (k5 : Int32 → Int32 → Int32 → Mm → Option (Int32)) (H5 : ∀ (x1 : Int32) (x3 : Int32) (x4 : Int32), JS X G 6 300 0 n0 (EM X G n0 5 300 (eR rvI σ M n)) (k5 x1 x3 x4 M) (σ, M, n) 5 [(0, .inr (.inl (some a0))), (1, .inl x1), (3, .inl x3), (4, .inl x4)] []) (x1 : Int32) (x3 : Int32) (x4 : Int32) : JS X G 6 300 0 n0 (EM X G n0 5 300 (eR rvI σ M n)) (fRegion_numberAt_j56 a0 k5 x1 x3 x4 M) (σ, M, n) 56 [(0, .inr (.inl (some a0))), (1, .inl x1), (3, .inl x3), (4, .inl x4)] [] := by
  unfold fRegion_numberAt_j56
  refine s_blk C 26 2 [0, 1, 3, 4] (pc' := 5) (lv' := [(0, .inr (.inl (some a0))), (1, .inl x1), (3, .inl x3), (4, .inl (x4 + 1))]) (st' := []) rfl ?_
  exact H5 _ _ _
def fRegion_numberAt_b5 (a0 : Nat) (k5 : Int32 → Int32 → Int32 → Mm → Option (Int32)) (x1 : Int32) (x3 : Int32) (x4 : Int32) (M : Mm) : Option (Int32) :=
  fgR 6 601 (some a0) M fun v1 =>
  rk 12 v1 M fun a2 =>
  bdR (fAl_size a2 M) fun v5 =>
  if v5 ≤ x4 then
    some 0
  else
    fgR 6 601 (some a0) M fun v6 =>
    rk 12 v6 M fun a7 =>
    bdR (fAl_get a7 x4 M) fun v10 =>
    fca 10 v10 M fun v11 =>
    fgR 10 1000 v11 M fun v12 =>
    fgI 4 400 v12 M fun v13 =>
    if v13 = x1 then
      if x3 = 0 then
        fgI 4 401 v12 M fun v14 =>
        some v14
      else
        fRegion_numberAt_j56 a0 k5 x1 (x3 + (-1)) x4 M
    else
      fRegion_numberAt_j56 a0 k5 x1 x3 x4 M
theorem wRegion_numberAt_b5 {X : MC} {G : GE} {n0 : Nat} (C : CX X G RX6 cX6_numberAt pRegion_numberAt 6 (some .int) n0) (htab : ∀ z ∈ X.2.2.2.2.2.2.2.2.exceptionTable.toList, False) {σ : Sg} {M : Mm} {n : Nat} (a0 : Nat) (k5 : Int32 → Int32 → Int32 → Mm → Option (Int32)) (H5 : ∀ (x1 : Int32) (x3 : Int32) (x4 : Int32), JS X G 6 300 0 n0 (EM X G n0 5 300 (eR rvI σ M n)) (k5 x1 x3 x4 M) (σ, M, n) 5 [(0, .inr (.inl (some a0))), (1, .inl x1), (3, .inl x3), (4, .inl x4)] []) (x1 : Int32) (x3 : Int32) (x4 : Int32) : JS X G 6 300 0 n0 (EM X G n0 5 300 (eR rvI σ M n)) (fRegion_numberAt_b5 a0 k5 x1 x3 x4 M) (σ, M, n) 5 [(0, .inr (.inl (some a0))), (1, .inl x1), (3, .inl x3), (4, .inl x4)] [] := by
  unfold fRegion_numberAt_b5
  refine s_blk C 4 2 [0, 1, 3, 4] (pc' := 8) (lv' := [(0, .inr (.inl (some a0))), (1, .inl x1), (3, .inl x3), (4, .inl x4)]) (st' := [.inr (.inl (some a0)), .inl x4]) rfl ?_
  refine s_gR C 6 rfl fl_X6_21 rfl rfl (fun v1 => ?_)
  refine s_rk (fun a2 ha3 hk4 => ?_)
  subst ha3
  refine s_RI (CE_EM _ _ _ _ _ _) (st := [.inl x4]) (fun o ho => j_callV (As := []) (st := [.inl x4]) (b := a2) C 7 rfl mf_Al_size ml_X6_32 rfl (recv_K C (by decide) (by decide) rfl hk4) (by decide) (by decide) (Nat.le_refl _) rfl (cAl_size (CX_tr C) σ M n a2 o ho)) (fun v5 => ?_)
  refine s_icge C 8 rfl (fun _ => ?_) (fun _ => ?_)
  · refine s_blk C 28 1 [] (pc' := 63) (lv' := []) (st' := [.inl 0]) rfl ?_
    exact s_iret C 29 rfl rfl
  refine s_blk C 9 1 [0, 1, 3, 4] (pc' := 18) (lv' := [(0, .inr (.inl (some a0))), (1, .inl x1), (3, .inl x3), (4, .inl x4)]) (st' := [.inr (.inl (some a0))]) rfl ?_
  refine s_gR C 10 rfl fl_X6_21 rfl rfl (fun v6 => ?_)
  refine s_blk C 11 1 [0, 1, 3, 4] (pc' := 23) (lv' := [(0, .inr (.inl (some a0))), (1, .inl x1), (3, .inl x3), (4, .inl x4)]) (st' := [.inl x4, .inr (.inl v6)]) rfl ?_
  refine s_rk (fun a7 ha8 hk9 => ?_)
  subst ha8
  refine s_RR (CE_EM _ _ _ _ _ _) (st := []) (fun o ho => j_callV (As := [.inl x4]) (st := []) (b := a7) C 12 rfl mf_Al_get ml_X6_36 rfl (recv_K C (by decide) (by decide) rfl hk9) (by decide) (by decide) (Nat.le_refl _) rfl (cAl_get (CX_tr C) σ M n a7 x4 o ho)) (fun v10 => ?_)
  refine s_cast C 13 rfl rfl (by decide) (by decide) cw_X6_40 (fun v11 => ?_)
  refine s_gR C 14 rfl fl_X6_42 rfl rfl (fun v12 => ?_)
  refine s_blk C 15 2 [0, 1, 3, 4, 5] (pc' := 36) (lv' := [(0, .inr (.inl (some a0))), (1, .inl x1), (3, .inl x3), (4, .inl x4), (5, .inr (.inl v12))]) (st' := [.inr (.inl v12)]) rfl ?_
  refine s_gI C 17 rfl fl_X6_46 rfl rfl (fun v13 => ?_)
  refine s_blk C 18 1 [0, 1, 3, 4, 5] (pc' := 40) (lv' := [(0, .inr (.inl (some a0))), (1, .inl x1), (3, .inl x3), (4, .inl x4), (5, .inr (.inl v12))]) (st' := [.inl x1, .inl v13]) rfl ?_
  refine s_icne C 19 rfl (fun _ => ?_) (fun _ => ?_)
  · refine s_blk C 20 1 [0, 1, 3, 4, 5] (pc' := 44) (lv' := [(0, .inr (.inl (some a0))), (1, .inl x1), (3, .inl x3), (4, .inl x4), (5, .inr (.inl v12))]) (st' := [.inl x3]) rfl ?_
    refine s_ine C 21 rfl (fun _ => ?_) (fun _ => ?_)
    · refine s_blk C 22 1 [] (pc' := 49) (lv' := []) (st' := [.inr (.inl v12)]) rfl ?_
      refine s_gI C 23 rfl fl_X6_52 rfl rfl (fun v14 => ?_)
      exact s_iret C 24 rfl rfl
    refine s_blk C 25 1 [0, 1, 3, 4] (pc' := 56) (lv' := [(0, .inr (.inl (some a0))), (1, .inl x1), (3, .inl (x3 + (-1))), (4, .inl x4)]) (st' := []) rfl ?_
    exact wRegion_numberAt_j56 C htab a0 k5 H5 _ _ _
  refine s_blk C 0 0 [0, 1, 3, 4] (pc' := 56) (lv' := [(0, .inr (.inl (some a0))), (1, .inl x1), (3, .inl x3), (4, .inl x4)]) (st' := []) rfl ?_
  exact wRegion_numberAt_j56 C htab a0 k5 H5 _ _ _
def fRegion_numberAt_l5 (a0 : Nat) (fu : Nat) : Int32 → Int32 → Int32 → Mm → Option (Int32) := Nat.rec (fun x1 x3 x4 M => none) (fun _ k => fRegion_numberAt_b5 a0 k) fu
theorem wRegion_numberAt_l5 {X : MC} {G : GE} {n0 : Nat} (C : CX X G RX6 cX6_numberAt pRegion_numberAt 6 (some .int) n0) (htab : ∀ z ∈ X.2.2.2.2.2.2.2.2.exceptionTable.toList, False) {σ : Sg} {M : Mm} {n : Nat} (a0 : Nat) : ∀ (fu : Nat) (x1 : Int32) (x3 : Int32) (x4 : Int32), JS X G 6 300 0 n0 (EM X G n0 5 300 (eR rvI σ M n)) (fRegion_numberAt_l5 a0 fu x1 x3 x4 M) (σ, M, n) 5 [(0, .inr (.inl (some a0))), (1, .inl x1), (3, .inl x3), (4, .inl x4)] [] := by
  intro fu
  induction fu with
  | zero => intro x1 x3 x4; exact s_none
  | succ fu ih => intro x1 x3 x4; exact wRegion_numberAt_b5 C htab a0 (fRegion_numberAt_l5 a0 fu) ih _ _ _
def fRegion_numberAt (a0 : Nat) (x1 : Int32) (x2 : Int32) (M : Mm) : Option (Int32) :=
  fRegion_numberAt_l5 a0 FU x1 x2 0 M
theorem wRegion_numberAt {X : MC} {G : GE} {n0 : Nat} (C : CX X G RX6 cX6_numberAt pRegion_numberAt 6 (some .int) n0) (htab : ∀ z ∈ X.2.2.2.2.2.2.2.2.exceptionTable.toList, False) {σ : Sg} {M : Mm} {n : Nat} (a0 : Nat) (x1 : Int32) (x2 : Int32) : JS X G 6 300 0 n0 (EM X G n0 5 300 (eR rvI σ M n)) (fRegion_numberAt a0 x1 x2 M) (σ, M, n) 0 [(0, .inr (.inl (some a0))), (1, .inl x1), (2, .inl x2)] [] := by
  unfold fRegion_numberAt
  refine s_blk C 0 4 [0, 1, 3, 4] (pc' := 5) (lv' := [(0, .inr (.inl (some a0))), (1, .inl x1), (3, .inl x2), (4, .inl 0)]) (st' := []) rfl ?_
  exact wRegion_numberAt_l5 C htab a0 FU _ _ _
theorem cRegion_numberAt {l : Launch} {G : GE} (htr : l.stackTraces = false) (σ : Sg) (M : Mm) (n : Nat) (a0 : Nat) (x1 : Int32) (x2 : Int32) : ∀ o, fRegion_numberAt a0 x1 x2 M = some o → MetX l G yX6_numberAt cX6_numberAt 6 (some .int) 5 300 [.inr (.inl (some a0)), .inl x1, .inl x2] (σ, M, n) ((eR rvI σ M n) o) :=
  c_ofX (by decide) kRegion_numberAt htr rfl rfl fun X _ _ C htab => wRegion_numberAt C htab a0 x1 x2
def pHb_version : List BR := [(0, .aload_n 0, 1, 0, 1), (1, .iload_n 1, 1, 0, 2), (2, .invokevirtual 65, 3, 0, 5), (5, .astore 4, 2, 0, 7), (7, .iload_n 3, 1, 0, 8), (8, .ifCond .lt (7), 3, 0, 15), (11, .iconst 1, 1, 1, 12), (12, .goto (4), 3, 0, 16), (15, .iconst 0, 1, 0, 16), (16, .invokestatic 115, 3, 0, 19), (19, .iload_n 2, 1, 0, 20), (20, .invokestatic 69, 3, 0, 23), (23, .aload 4, 2, 0, 25), (25, .iload_n 2, 1, 0, 26), (26, .iload_n 3, 1, 0, 27), (27, .invokevirtual 192, 3, 0, 30), (30, .ireturn, 1, 0, 31)]
theorem kHb_version : bOK cX11_version 5 pHb_version = true := by decide +kernel
def fHb_version_j16 (a0 : Nat) (x2 : Int32) (x3 : Int32) (r4 : Option Nat) (s0 : Int32) (M : Mm) (n : Nat) : Option ((Int32 ⊕ Nat) × Mm × Nat) :=
  bdC (fHb_checkIndex s0 M n) n fun v1 M2 n3 =>
  bdC (fHb_checkKey x2 M2 n3) n3 fun v4 M5 n6 =>
  rk 6 r4 M5 fun a7 =>
  bdR (fRegion_numberAt a7 x2 x3 M5) fun v10 =>
  some (.inl v10, M5, n6)
theorem wHb_version_j16 {X : MC} {G : GE} {n0 : Nat} (C : CX X G RX11 cX11_version pHb_version 5 (some .int) n0) (htab : ∀ z ∈ X.2.2.2.2.2.2.2.2.exceptionTable.toList, False) {σ : Sg} (a0 : Nat) (x2 : Int32) (x3 : Int32) (r4 : Option Nat) (s0 : Int32) (M : Mm) (n : Nat) : JS X G 5 300 0 n0 (EM X G n0 8 300 (eC rvI σ)) (fHb_version_j16 a0 x2 x3 r4 s0 M n) (σ, M, n) 16 [(2, .inl x2), (3, .inl x3), (4, .inr (.inl r4))] [.inl s0] := by
  unfold fHb_version_j16
  refine s_CU C htab (st := []) (fun o ho => j_callS (As := [.inl s0]) (st := []) C 9 rfl mf_Hb_checkIndex ml_X11_115 rfl (by decide) (by decide) (Nat.le_refl _) rfl (cHb_checkIndex (CX_tr C) σ M n s0 o ho)) (fun v1 M2 n3 _ => ?_)
  refine s_blk C 10 1 [2, 3, 4] (pc' := 20) (lv' := [(2, .inl x2), (3, .inl x3), (4, .inr (.inl r4))]) (st' := [.inl x2]) rfl ?_
  refine s_CU C htab (st := []) (fun o ho => j_callS (As := [.inl x2]) (st := []) C 11 rfl mf_Hb_checkKey ml_X11_69 rfl (by decide) (by decide) (Nat.le_refl _) rfl (cHb_checkKey (CX_tr C) σ M2 n3 x2 o ho)) (fun v4 M5 n6 _ => ?_)
  refine s_blk C 12 3 [] (pc' := 27) (lv' := []) (st' := [.inl x3, .inl x2, .inr (.inl r4)]) rfl ?_
  refine s_rk (fun a7 ha8 hk9 => ?_)
  subst ha8
  refine s_RI (CE_EM _ _ _ _ _ _) (st := []) (fun o ho => j_callV (As := [.inl x2, .inl x3]) (st := []) (b := a7) C 15 rfl mf_Region_numberAt ml_X11_192 rfl (recv_K C (by decide) (by decide) rfl hk9) (by decide) (by decide) (Nat.le_refl _) rfl (cRegion_numberAt (CX_tr C) σ M5 n6 a7 x2 x3 o ho)) (fun v10 => ?_)
  exact s_iret C 16 rfl rfl
def fHb_version (a0 : Nat) (x1 : Int32) (x2 : Int32) (x3 : Int32) (M : Mm) (n : Nat) : Option ((Int32 ⊕ Nat) × Mm × Nat) :=
  rk 11 (some a0) M fun _ =>
  bdC (fHb_regionOf a0 x1 M n) n fun v2 M3 n4 =>
  if x3 < 0 then
    fHb_version_j16 a0 x2 x3 v2 0 M3 n4
  else
    fHb_version_j16 a0 x2 x3 v2 1 M3 n4
theorem wHb_version {X : MC} {G : GE} {n0 : Nat} (C : CX X G RX11 cX11_version pHb_version 5 (some .int) n0) (htab : ∀ z ∈ X.2.2.2.2.2.2.2.2.exceptionTable.toList, False) {σ : Sg} (a0 : Nat) (x1 : Int32) (x2 : Int32) (x3 : Int32) (M : Mm) (n : Nat) : JS X G 5 300 0 n0 (EM X G n0 8 300 (eC rvI σ)) (fHb_version a0 x1 x2 x3 M n) (σ, M, n) 0 [(0, .inr (.inl (some a0))), (1, .inl x1), (2, .inl x2), (3, .inl x3)] [] := by
  unfold fHb_version
  refine s_blk C 0 2 [2, 3] (pc' := 2) (lv' := [(2, .inl x2), (3, .inl x3)]) (st' := [.inl x1, .inr (.inl (some a0))]) rfl ?_
  refine s_rks (fun hk1 => ?_)
  refine s_CR C htab (st := []) (fun o ho => j_callV (As := [.inl x1]) (st := []) (b := a0) C 2 rfl mf_Hb_regionOf ml_X11_65 rfl (recv_K C (by decide) (by decide) rfl hk1) (by decide) (by decide) (Nat.le_refl _) rfl (cHb_regionOf (CX_tr C) σ M n a0 x1 o ho)) (fun v2 M3 n4 _ => ?_)
  refine s_blk C 3 2 [2, 3, 4] (pc' := 8) (lv' := [(2, .inl x2), (3, .inl x3), (4, .inr (.inl v2))]) (st' := [.inl x3]) rfl ?_
  refine s_ilt C 5 rfl (fun _ => ?_) (fun _ => ?_)
  · refine s_blk C 8 1 [2, 3, 4] (pc' := 16) (lv' := [(2, .inl x2), (3, .inl x3), (4, .inr (.inl v2))]) (st' := [.inl 0]) rfl ?_
    exact wHb_version_j16 C htab a0 _ _ _ _ _ _
  refine s_blk C 6 2 [2, 3, 4] (pc' := 16) (lv' := [(2, .inl x2), (3, .inl x3), (4, .inr (.inl v2))]) (st' := [.inl 1]) rfl ?_
  exact wHb_version_j16 C htab a0 _ _ _ _ _ _
theorem cHb_version {l : Launch} {G : GE} (htr : l.stackTraces = false) (σ : Sg) (M : Mm) (n : Nat) (a0 : Nat) (x1 : Int32) (x2 : Int32) (x3 : Int32) : ∀ o, fHb_version a0 x1 x2 x3 M n = some o → MetX l G yX11_version cX11_version 5 (some .int) 8 300 [.inr (.inl (some a0)), .inl x1, .inl x2, .inl x3] (σ, M, n) ((eC rvI σ) o) :=
  c_ofX (by decide) kHb_version htr rfl rfl fun X _ _ C htab => wHb_version C htab a0 x1 x2 x3 _ _

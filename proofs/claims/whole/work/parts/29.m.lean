def pStore_areSame_0 : List BR := [(0, .aload_n 0, 1, 0, 1), (1, .getfield 25, 3, 0, 4), (4, .iload_n 2, 1, 0, 5), (5, .invokevirtual 72, 3, 0, 8), (8, .aload_n 0, 1, 0, 9), (9, .getfield 25, 3, 0, 12), (12, .iload_n 2, 1, 0, 13), (13, .invokevirtual 69, 3, 0, 16), (16, .isub, 1, 0, 17), (17, .istore 4, 2, 0, 19), (19, .iload 4, 2, 0, 21), (21, .aload_n 0, 1, 0, 22), (22, .getfield 25, 3, 0, 25), (25, .iload_n 3, 1, 0, 26), (26, .invokevirtual 72, 3, 0, 29), (29, .aload_n 0, 1, 0, 30), (30, .getfield 25, 3, 0, 33), (33, .iload_n 3, 1, 0, 34), (34, .invokevirtual 69, 3, 0, 37), (37, .isub, 1, 0, 38), (38, .if_icmp .eq (5), 3, 0, 43), (41, .iconst 0, 1, 0, 42), (42, .ireturn, 1, 0, 43), (43, .iconst 0, 1, 0, 44), (44, .istore 5, 2, 0, 46), (46, .iload 5, 2, 0, 48), (48, .iload 4, 2, 0, 50), (50, .if_icmp .ge (44), 3, 0, 94), (53, .aload_n 1, 1, 0, 54), (54, .aload_n 0, 1, 0, 55), (55, .getfield 25, 3, 0, 58), (58, .iload_n 2, 1, 0, 59), (59, .invokevirtual 69, 3, 0, 62), (62, .iload 5, 2, 0, 64), (64, .iadd, 1, 0, 65), (65, .invokevirtual 87, 3, 0, 68), (68, .aload_n 1, 1, 0, 69), (69, .aload_n 0, 1, 0, 70), (70, .getfield 25, 3, 0, 73), (73, .iload_n 3, 1, 0, 74)]
theorem kStore_areSame_0 : bOK cX8_areSame 6 pStore_areSame_0 = true := by decide +kernel
def pStore_areSame_1 : List BR := [(74, .invokevirtual 69, 3, 0, 77), (77, .iload 5, 2, 0, 79), (79, .iadd, 1, 0, 80), (80, .invokevirtual 87, 3, 0, 83), (83, .if_icmp .eq (5), 3, 0, 88), (86, .iconst 0, 1, 0, 87), (87, .ireturn, 1, 0, 88), (88, .iinc 5 (1), 3, 1, 91), (91, .goto (-45), 3, 0, 46), (94, .iconst 1, 1, 1, 95), (95, .ireturn, 1, 0, 96)]
theorem kStore_areSame_1 : bOK cX8_areSame 6 pStore_areSame_1 = true := by decide +kernel
def pStore_areSame : List BR := (pStore_areSame_0 ++ pStore_areSame_1)
theorem kStore_areSame : bOK cX8_areSame 6 pStore_areSame = true := (bOK_app kStore_areSame_0 kStore_areSame_1)
def fStore_areSame_b46 (a0 : Nat) (k46 : Option Nat → Int32 → Int32 → Int32 → Int32 → Mm → Option (Int32)) (r1 : Option Nat) (x2 : Int32) (x3 : Int32) (x4 : Int32) (x5 : Int32) (M : Mm) : Option (Int32) :=
  if x4 ≤ x5 then
    rZ 1 (some 1)
  else
    fgR 8 802 (some a0) M fun v1 =>
    rk 3 v1 M fun a2 =>
    bdR (fCut_startOf a2 x2 M) fun v5 =>
    rk 1 r1 M fun a6 =>
    bdR (fBytes_at a6 (v5 + x5) M) fun v9 =>
    fgR 8 802 (some a0) M fun v10 =>
    rk 3 v10 M fun a11 =>
    bdR (fCut_startOf a11 x3 M) fun v14 =>
    rk 1 r1 M fun a16 =>
    bdR (fBytes_at a16 (v14 + x5) M) fun v17 =>
    if v9 = v17 then
      k46 r1 x2 x3 x4 (x5 + 1) M
    else
      rZ 0 (some 0)
theorem wStore_areSame_b46 {X : MC} {G : GE} {n0 : Nat} (C : CX X G RX8 cX8_areSame pStore_areSame 6 (some .boolean) n0) (htab : ∀ z ∈ X.2.2.2.2.2.2.2.2.exceptionTable.toList, False) {σ : Sg} {M : Mm} {n : Nat} (a0 : Nat) (k46 : Option Nat → Int32 → Int32 → Int32 → Int32 → Mm → Option (Int32)) (H46 : ∀ (r1 : Option Nat) (x2 : Int32) (x3 : Int32) (x4 : Int32) (x5 : Int32), JS X G 6 300 0 n0 (EM X G n0 3 300 (eR rvI σ M n)) (k46 r1 x2 x3 x4 x5 M) (σ, M, n) 46 [(0, .inr (.inl (some a0))), (1, .inr (.inl r1)), (2, .inl x2), (3, .inl x3), (4, .inl x4), (5, .inl x5)] []) (r1 : Option Nat) (x2 : Int32) (x3 : Int32) (x4 : Int32) (x5 : Int32) : JS X G 6 300 0 n0 (EM X G n0 3 300 (eR rvI σ M n)) (fStore_areSame_b46 a0 k46 r1 x2 x3 x4 x5 M) (σ, M, n) 46 [(0, .inr (.inl (some a0))), (1, .inr (.inl r1)), (2, .inl x2), (3, .inl x3), (4, .inl x4), (5, .inl x5)] [] := by
  unfold fStore_areSame_b46
  refine s_blk C 25 2 [0, 1, 2, 3, 4, 5] (pc' := 50) (lv' := [(0, .inr (.inl (some a0))), (1, .inr (.inl r1)), (2, .inl x2), (3, .inl x3), (4, .inl x4), (5, .inl x5)]) (st' := [.inl x4, .inl x5]) rfl ?_
  refine s_icge C 27 rfl (fun _ => ?_) (fun _ => ?_)
  · refine s_blk C 49 1 [] (pc' := 95) (lv' := []) (st' := [.inl 1]) rfl ?_
    exact s_zret C 50 rfl rfl
  refine s_blk C 28 2 [0, 1, 2, 3, 4, 5] (pc' := 55) (lv' := [(0, .inr (.inl (some a0))), (1, .inr (.inl r1)), (2, .inl x2), (3, .inl x3), (4, .inl x4), (5, .inl x5)]) (st' := [.inr (.inl (some a0)), .inr (.inl r1)]) rfl ?_
  refine s_gR C 30 rfl fl_X8_25 rfl rfl (fun v1 => ?_)
  refine s_blk C 31 1 [0, 1, 2, 3, 4, 5] (pc' := 59) (lv' := [(0, .inr (.inl (some a0))), (1, .inr (.inl r1)), (2, .inl x2), (3, .inl x3), (4, .inl x4), (5, .inl x5)]) (st' := [.inl x2, .inr (.inl v1), .inr (.inl r1)]) rfl ?_
  refine s_rk (fun a2 ha3 hk4 => ?_)
  subst ha3
  refine s_RI (CE_EM _ _ _ _ _ _) (st := [.inr (.inl r1)]) (fun o ho => j_callV (As := [.inl x2]) (st := [.inr (.inl r1)]) (b := a2) C 32 rfl mf_Cut_startOf ml_X8_69 rfl (recv_K C (by decide) (by decide) rfl hk4) (by decide) (by decide) (Nat.le_refl _) rfl (cCut_startOf (CX_tr C) σ M n a2 x2 o ho)) (fun v5 => ?_)
  refine s_blk C 33 2 [0, 1, 2, 3, 4, 5] (pc' := 65) (lv' := [(0, .inr (.inl (some a0))), (1, .inr (.inl r1)), (2, .inl x2), (3, .inl x3), (4, .inl x4), (5, .inl x5)]) (st' := [.inl (v5 + x5), .inr (.inl r1)]) rfl ?_
  refine s_rk (fun a6 ha7 hk8 => ?_)
  subst ha7
  refine s_RI (CE_EM _ _ _ _ _ _) (st := []) (fun o ho => j_callV (As := [.inl (v5 + x5)]) (st := []) (b := a6) C 35 rfl mf_Bytes_at ml_X8_87 rfl (recv_K C (by decide) (by decide) rfl hk8) (by decide) (by decide) (Nat.le_refl _) rfl (cBytes_at (CX_tr C) σ M n a6 (v5 + x5) o ho)) (fun v9 => ?_)
  refine s_blk C 36 2 [0, 1, 2, 3, 4, 5] (pc' := 70) (lv' := [(0, .inr (.inl (some a0))), (1, .inr (.inl (some a6))), (2, .inl x2), (3, .inl x3), (4, .inl x4), (5, .inl x5)]) (st' := [.inr (.inl (some a0)), .inr (.inl (some a6)), .inl v9]) rfl ?_
  refine s_gR C 38 rfl fl_X8_25 rfl rfl (fun v10 => ?_)
  refine s_blk C 39 1 [0, 1, 2, 3, 4, 5] (pc' := 74) (lv' := [(0, .inr (.inl (some a0))), (1, .inr (.inl (some a6))), (2, .inl x2), (3, .inl x3), (4, .inl x4), (5, .inl x5)]) (st' := [.inl x3, .inr (.inl v10), .inr (.inl (some a6)), .inl v9]) rfl ?_
  refine s_rk (fun a11 ha12 hk13 => ?_)
  subst ha12
  refine s_RI (CE_EM _ _ _ _ _ _) (st := [.inr (.inl (some a6)), .inl v9]) (fun o ho => j_callV (As := [.inl x3]) (st := [.inr (.inl (some a6)), .inl v9]) (b := a11) C 40 rfl mf_Cut_startOf ml_X8_69 rfl (recv_K C (by decide) (by decide) rfl hk13) (by decide) (by decide) (Nat.le_refl _) rfl (cCut_startOf (CX_tr C) σ M n a11 x3 o ho)) (fun v14 => ?_)
  refine s_blk C 41 2 [0, 1, 2, 3, 4, 5] (pc' := 80) (lv' := [(0, .inr (.inl (some a0))), (1, .inr (.inl (some a6))), (2, .inl x2), (3, .inl x3), (4, .inl x4), (5, .inl x5)]) (st' := [.inl (v14 + x5), .inr (.inl (some a6)), .inl v9]) rfl ?_
  refine s_rks (fun hk15 => ?_)
  refine s_RI (CE_EM _ _ _ _ _ _) (st := [.inl v9]) (fun o ho => j_callV (As := [.inl (v14 + x5)]) (st := [.inl v9]) (b := a6) C 43 rfl mf_Bytes_at ml_X8_87 rfl (recv_K C (by decide) (by decide) rfl hk15) (by decide) (by decide) (Nat.le_refl _) rfl (cBytes_at (CX_tr C) σ M n a6 (v14 + x5) o ho)) (fun v17 => ?_)
  refine s_iceq C 44 rfl (fun _ => ?_) (fun _ => ?_)
  · refine s_blk C 47 2 [0, 1, 2, 3, 4, 5] (pc' := 46) (lv' := [(0, .inr (.inl (some a0))), (1, .inr (.inl (some a6))), (2, .inl x2), (3, .inl x3), (4, .inl x4), (5, .inl (x5 + 1))]) (st' := []) rfl ?_
    exact H46 _ _ _ _ _
  refine s_blk C 45 1 [] (pc' := 87) (lv' := []) (st' := [.inl 0]) rfl ?_
  exact s_zret C 46 rfl rfl
def fStore_areSame_l46 (a0 : Nat) (fu : Nat) : Option Nat → Int32 → Int32 → Int32 → Int32 → Mm → Option (Int32) := Nat.rec (fun r1 x2 x3 x4 x5 M => none) (fun _ k => fStore_areSame_b46 a0 k) fu
theorem wStore_areSame_l46 {X : MC} {G : GE} {n0 : Nat} (C : CX X G RX8 cX8_areSame pStore_areSame 6 (some .boolean) n0) (htab : ∀ z ∈ X.2.2.2.2.2.2.2.2.exceptionTable.toList, False) {σ : Sg} {M : Mm} {n : Nat} (a0 : Nat) : ∀ (fu : Nat) (r1 : Option Nat) (x2 : Int32) (x3 : Int32) (x4 : Int32) (x5 : Int32), JS X G 6 300 0 n0 (EM X G n0 3 300 (eR rvI σ M n)) (fStore_areSame_l46 a0 fu r1 x2 x3 x4 x5 M) (σ, M, n) 46 [(0, .inr (.inl (some a0))), (1, .inr (.inl r1)), (2, .inl x2), (3, .inl x3), (4, .inl x4), (5, .inl x5)] [] := by
  intro fu
  induction fu with
  | zero => intro r1 x2 x3 x4 x5; exact s_none
  | succ fu ih => intro r1 x2 x3 x4 x5; exact wStore_areSame_b46 C htab a0 (fStore_areSame_l46 a0 fu) ih _ _ _ _ _
def fStore_areSame (a0 : Nat) (r1 : Option Nat) (x2 : Int32) (x3 : Int32) (M : Mm) : Option (Int32) :=
  fgR 8 802 (some a0) M fun v1 =>
  rk 3 v1 M fun a2 =>
  bdR (fCut_endOf a2 x2 M) fun v5 =>
  fgR 8 802 (some a0) M fun v6 =>
  rk 3 v6 M fun a7 =>
  bdR (fCut_startOf a7 x2 M) fun v10 =>
  fgR 8 802 (some a0) M fun v11 =>
  rk 3 v11 M fun a12 =>
  bdR (fCut_endOf a12 x3 M) fun v15 =>
  fgR 8 802 (some a0) M fun v16 =>
  rk 3 v16 M fun a17 =>
  bdR (fCut_startOf a17 x3 M) fun v20 =>
  if (v5 - v10) = (v15 - v20) then
    fStore_areSame_l46 a0 FU r1 x2 x3 (v5 - v10) 0 M
  else
    rZ 0 (some 0)
theorem wStore_areSame {X : MC} {G : GE} {n0 : Nat} (C : CX X G RX8 cX8_areSame pStore_areSame 6 (some .boolean) n0) (htab : ∀ z ∈ X.2.2.2.2.2.2.2.2.exceptionTable.toList, False) {σ : Sg} {M : Mm} {n : Nat} (a0 : Nat) (r1 : Option Nat) (x2 : Int32) (x3 : Int32) : JS X G 6 300 0 n0 (EM X G n0 3 300 (eR rvI σ M n)) (fStore_areSame a0 r1 x2 x3 M) (σ, M, n) 0 [(0, .inr (.inl (some a0))), (1, .inr (.inl r1)), (2, .inl x2), (3, .inl x3)] [] := by
  unfold fStore_areSame
  refine s_blk C 0 1 [0, 1, 2, 3] (pc' := 1) (lv' := [(0, .inr (.inl (some a0))), (1, .inr (.inl r1)), (2, .inl x2), (3, .inl x3)]) (st' := [.inr (.inl (some a0))]) rfl ?_
  refine s_gR C 1 rfl fl_X8_25 rfl rfl (fun v1 => ?_)
  refine s_blk C 2 1 [0, 1, 2, 3] (pc' := 5) (lv' := [(0, .inr (.inl (some a0))), (1, .inr (.inl r1)), (2, .inl x2), (3, .inl x3)]) (st' := [.inl x2, .inr (.inl v1)]) rfl ?_
  refine s_rk (fun a2 ha3 hk4 => ?_)
  subst ha3
  refine s_RI (CE_EM _ _ _ _ _ _) (st := []) (fun o ho => j_callV (As := [.inl x2]) (st := []) (b := a2) C 3 rfl mf_Cut_endOf ml_X8_72 rfl (recv_K C (by decide) (by decide) rfl hk4) (by decide) (by decide) (Nat.le_refl _) rfl (cCut_endOf (CX_tr C) σ M n a2 x2 o ho)) (fun v5 => ?_)
  refine s_blk C 4 1 [0, 1, 2, 3] (pc' := 9) (lv' := [(0, .inr (.inl (some a0))), (1, .inr (.inl r1)), (2, .inl x2), (3, .inl x3)]) (st' := [.inr (.inl (some a0)), .inl v5]) rfl ?_
  refine s_gR C 5 rfl fl_X8_25 rfl rfl (fun v6 => ?_)
  refine s_blk C 6 1 [0, 1, 2, 3] (pc' := 13) (lv' := [(0, .inr (.inl (some a0))), (1, .inr (.inl r1)), (2, .inl x2), (3, .inl x3)]) (st' := [.inl x2, .inr (.inl v6), .inl v5]) rfl ?_
  refine s_rk (fun a7 ha8 hk9 => ?_)
  subst ha8
  refine s_RI (CE_EM _ _ _ _ _ _) (st := [.inl v5]) (fun o ho => j_callV (As := [.inl x2]) (st := [.inl v5]) (b := a7) C 7 rfl mf_Cut_startOf ml_X8_69 rfl (recv_K C (by decide) (by decide) rfl hk9) (by decide) (by decide) (Nat.le_refl _) rfl (cCut_startOf (CX_tr C) σ M n a7 x2 o ho)) (fun v10 => ?_)
  refine s_blk C 8 4 [0, 1, 2, 3, 4] (pc' := 22) (lv' := [(0, .inr (.inl (some a0))), (1, .inr (.inl r1)), (2, .inl x2), (3, .inl x3), (4, .inl (v5 - v10))]) (st' := [.inr (.inl (some a0)), .inl (v5 - v10)]) rfl ?_
  refine s_gR C 12 rfl fl_X8_25 rfl rfl (fun v11 => ?_)
  refine s_blk C 13 1 [0, 1, 2, 3, 4] (pc' := 26) (lv' := [(0, .inr (.inl (some a0))), (1, .inr (.inl r1)), (2, .inl x2), (3, .inl x3), (4, .inl (v5 - v10))]) (st' := [.inl x3, .inr (.inl v11), .inl (v5 - v10)]) rfl ?_
  refine s_rk (fun a12 ha13 hk14 => ?_)
  subst ha13
  refine s_RI (CE_EM _ _ _ _ _ _) (st := [.inl (v5 - v10)]) (fun o ho => j_callV (As := [.inl x3]) (st := [.inl (v5 - v10)]) (b := a12) C 14 rfl mf_Cut_endOf ml_X8_72 rfl (recv_K C (by decide) (by decide) rfl hk14) (by decide) (by decide) (Nat.le_refl _) rfl (cCut_endOf (CX_tr C) σ M n a12 x3 o ho)) (fun v15 => ?_)
  refine s_blk C 15 1 [0, 1, 2, 3, 4] (pc' := 30) (lv' := [(0, .inr (.inl (some a0))), (1, .inr (.inl r1)), (2, .inl x2), (3, .inl x3), (4, .inl (v5 - v10))]) (st' := [.inr (.inl (some a0)), .inl v15, .inl (v5 - v10)]) rfl ?_
  refine s_gR C 16 rfl fl_X8_25 rfl rfl (fun v16 => ?_)
  refine s_blk C 17 1 [0, 1, 2, 3, 4] (pc' := 34) (lv' := [(0, .inr (.inl (some a0))), (1, .inr (.inl r1)), (2, .inl x2), (3, .inl x3), (4, .inl (v5 - v10))]) (st' := [.inl x3, .inr (.inl v16), .inl v15, .inl (v5 - v10)]) rfl ?_
  refine s_rk (fun a17 ha18 hk19 => ?_)
  subst ha18
  refine s_RI (CE_EM _ _ _ _ _ _) (st := [.inl v15, .inl (v5 - v10)]) (fun o ho => j_callV (As := [.inl x3]) (st := [.inl v15, .inl (v5 - v10)]) (b := a17) C 18 rfl mf_Cut_startOf ml_X8_69 rfl (recv_K C (by decide) (by decide) rfl hk19) (by decide) (by decide) (Nat.le_refl _) rfl (cCut_startOf (CX_tr C) σ M n a17 x3 o ho)) (fun v20 => ?_)
  refine s_blk C 19 1 [0, 1, 2, 3, 4] (pc' := 38) (lv' := [(0, .inr (.inl (some a0))), (1, .inr (.inl r1)), (2, .inl x2), (3, .inl x3), (4, .inl (v5 - v10))]) (st' := [.inl (v15 - v20), .inl (v5 - v10)]) rfl ?_
  refine s_iceq C 20 rfl (fun _ => ?_) (fun _ => ?_)
  · refine s_blk C 23 2 [0, 1, 2, 3, 4, 5] (pc' := 46) (lv' := [(0, .inr (.inl (some a0))), (1, .inr (.inl r1)), (2, .inl x2), (3, .inl x3), (4, .inl (v5 - v10)), (5, .inl 0)]) (st' := []) rfl ?_
    exact wStore_areSame_l46 C htab a0 FU _ _ _ _ _
  refine s_blk C 21 1 [] (pc' := 42) (lv' := []) (st' := [.inl 0]) rfl ?_
  exact s_zret C 22 rfl rfl
theorem cStore_areSame {l : Launch} {G : GE} (htr : l.stackTraces = false) (σ : Sg) (M : Mm) (n : Nat) (a0 : Nat) (r1 : Option Nat) (x2 : Int32) (x3 : Int32) : ∀ o, fStore_areSame a0 r1 x2 x3 M = some o → MetX l G yX8_areSame cX8_areSame 6 (some .boolean) 3 300 [.inr (.inl (some a0)), .inr (.inl r1), .inl x2, .inl x3] (σ, M, n) ((eR rvI σ M n) o) :=
  c_ofX (by decide) kStore_areSame htr rfl rfl fun X _ _ C htab => wStore_areSame C htab a0 r1 x2 x3
def pStore_isFirstInCut : List BR := [(0, .iconst 0, 1, 0, 1), (1, .istore_n 3, 1, 0, 2), (2, .iload_n 3, 1, 0, 3), (3, .iload_n 2, 1, 0, 4), (4, .if_icmp .ge (21), 3, 0, 25), (7, .aload_n 0, 1, 0, 8), (8, .aload_n 1, 1, 0, 9), (9, .iload_n 3, 1, 0, 10), (10, .iload_n 2, 1, 0, 11), (11, .invokevirtual 83, 3, 0, 14), (14, .ifCond .eq (5), 3, 0, 19), (17, .iconst 0, 1, 0, 18), (18, .ireturn, 1, 0, 19), (19, .iinc 3 (1), 3, 1, 22), (22, .goto (-20), 3, 0, 2), (25, .iconst 1, 1, 1, 26), (26, .ireturn, 1, 0, 27)]
theorem kStore_isFirstInCut : bOK cX8_isFirstInCut 4 pStore_isFirstInCut = true := by decide +kernel
def fStore_isFirstInCut_b2 (a0 : Nat) (k2 : Option Nat → Int32 → Int32 → Mm → Option (Int32)) (r1 : Option Nat) (x2 : Int32) (x3 : Int32) (M : Mm) : Option (Int32) :=
  if x2 ≤ x3 then
    rZ 1 (some 1)
  else
    rk 8 (some a0) M fun _ =>
    bdR (fStore_areSame a0 r1 x3 x2 M) fun v2 =>
    if v2 = 0 then
      k2 r1 x2 (x3 + 1) M
    else
      rZ 0 (some 0)
theorem wStore_isFirstInCut_b2 {X : MC} {G : GE} {n0 : Nat} (C : CX X G RX8 cX8_isFirstInCut pStore_isFirstInCut 4 (some .boolean) n0) (htab : ∀ z ∈ X.2.2.2.2.2.2.2.2.exceptionTable.toList, False) {σ : Sg} {M : Mm} {n : Nat} (a0 : Nat) (k2 : Option Nat → Int32 → Int32 → Mm → Option (Int32)) (H2 : ∀ (r1 : Option Nat) (x2 : Int32) (x3 : Int32), JS X G 4 300 0 n0 (EM X G n0 4 300 (eR rvI σ M n)) (k2 r1 x2 x3 M) (σ, M, n) 2 [(0, .inr (.inl (some a0))), (1, .inr (.inl r1)), (2, .inl x2), (3, .inl x3)] []) (r1 : Option Nat) (x2 : Int32) (x3 : Int32) : JS X G 4 300 0 n0 (EM X G n0 4 300 (eR rvI σ M n)) (fStore_isFirstInCut_b2 a0 k2 r1 x2 x3 M) (σ, M, n) 2 [(0, .inr (.inl (some a0))), (1, .inr (.inl r1)), (2, .inl x2), (3, .inl x3)] [] := by
  unfold fStore_isFirstInCut_b2
  refine s_blk C 2 2 [0, 1, 2, 3] (pc' := 4) (lv' := [(0, .inr (.inl (some a0))), (1, .inr (.inl r1)), (2, .inl x2), (3, .inl x3)]) (st' := [.inl x2, .inl x3]) rfl ?_
  refine s_icge C 4 rfl (fun _ => ?_) (fun _ => ?_)
  · refine s_blk C 15 1 [] (pc' := 26) (lv' := []) (st' := [.inl 1]) rfl ?_
    exact s_zret C 16 rfl rfl
  refine s_blk C 5 4 [0, 1, 2, 3] (pc' := 11) (lv' := [(0, .inr (.inl (some a0))), (1, .inr (.inl r1)), (2, .inl x2), (3, .inl x3)]) (st' := [.inl x2, .inl x3, .inr (.inl r1), .inr (.inl (some a0))]) rfl ?_
  refine s_rks (fun hk1 => ?_)
  refine s_RI (CE_EM _ _ _ _ _ _) (st := []) (fun o ho => j_callV (As := [.inr (.inl r1), .inl x3, .inl x2]) (st := []) (b := a0) C 9 rfl mf_Store_areSame ml_X8_83 rfl (recv_K C (by decide) (by decide) rfl hk1) (by decide) (by decide) (Nat.le_refl _) rfl (cStore_areSame (CX_tr C) σ M n a0 r1 x3 x2 o ho)) (fun v2 => ?_)
  refine s_ieq C 10 rfl (fun _ => ?_) (fun _ => ?_)
  · refine s_blk C 13 2 [0, 1, 2, 3] (pc' := 2) (lv' := [(0, .inr (.inl (some a0))), (1, .inr (.inl r1)), (2, .inl x2), (3, .inl (x3 + 1))]) (st' := []) rfl ?_
    exact H2 _ _ _
  refine s_blk C 11 1 [] (pc' := 18) (lv' := []) (st' := [.inl 0]) rfl ?_
  exact s_zret C 12 rfl rfl
def fStore_isFirstInCut_l2 (a0 : Nat) (fu : Nat) : Option Nat → Int32 → Int32 → Mm → Option (Int32) := Nat.rec (fun r1 x2 x3 M => none) (fun _ k => fStore_isFirstInCut_b2 a0 k) fu
theorem wStore_isFirstInCut_l2 {X : MC} {G : GE} {n0 : Nat} (C : CX X G RX8 cX8_isFirstInCut pStore_isFirstInCut 4 (some .boolean) n0) (htab : ∀ z ∈ X.2.2.2.2.2.2.2.2.exceptionTable.toList, False) {σ : Sg} {M : Mm} {n : Nat} (a0 : Nat) : ∀ (fu : Nat) (r1 : Option Nat) (x2 : Int32) (x3 : Int32), JS X G 4 300 0 n0 (EM X G n0 4 300 (eR rvI σ M n)) (fStore_isFirstInCut_l2 a0 fu r1 x2 x3 M) (σ, M, n) 2 [(0, .inr (.inl (some a0))), (1, .inr (.inl r1)), (2, .inl x2), (3, .inl x3)] [] := by
  intro fu
  induction fu with
  | zero => intro r1 x2 x3; exact s_none
  | succ fu ih => intro r1 x2 x3; exact wStore_isFirstInCut_b2 C htab a0 (fStore_isFirstInCut_l2 a0 fu) ih _ _ _
def fStore_isFirstInCut (a0 : Nat) (r1 : Option Nat) (x2 : Int32) (M : Mm) : Option (Int32) :=
  fStore_isFirstInCut_l2 a0 FU r1 x2 0 M
theorem wStore_isFirstInCut {X : MC} {G : GE} {n0 : Nat} (C : CX X G RX8 cX8_isFirstInCut pStore_isFirstInCut 4 (some .boolean) n0) (htab : ∀ z ∈ X.2.2.2.2.2.2.2.2.exceptionTable.toList, False) {σ : Sg} {M : Mm} {n : Nat} (a0 : Nat) (r1 : Option Nat) (x2 : Int32) : JS X G 4 300 0 n0 (EM X G n0 4 300 (eR rvI σ M n)) (fStore_isFirstInCut a0 r1 x2 M) (σ, M, n) 0 [(0, .inr (.inl (some a0))), (1, .inr (.inl r1)), (2, .inl x2)] [] := by
  unfold fStore_isFirstInCut
  refine s_blk C 0 2 [0, 1, 2, 3] (pc' := 2) (lv' := [(0, .inr (.inl (some a0))), (1, .inr (.inl r1)), (2, .inl x2), (3, .inl 0)]) (st' := []) rfl ?_
  exact wStore_isFirstInCut_l2 C htab a0 FU _ _ _
theorem cStore_isFirstInCut {l : Launch} {G : GE} (htr : l.stackTraces = false) (σ : Sg) (M : Mm) (n : Nat) (a0 : Nat) (r1 : Option Nat) (x2 : Int32) : ∀ o, fStore_isFirstInCut a0 r1 x2 M = some o → MetX l G yX8_isFirstInCut cX8_isFirstInCut 4 (some .boolean) 4 300 [.inr (.inl (some a0)), .inr (.inl r1), .inl x2] (σ, M, n) ((eR rvI σ M n) o) :=
  c_ofX (by decide) kStore_isFirstInCut htr rfl rfl fun X _ _ C htab => wStore_isFirstInCut C htab a0 r1 x2
def pStore_manyEverWith : List BR := [(0, .aload_n 0, 1, 0, 1), (1, .getfield 25, 3, 0, 4), (4, .aload_n 1, 1, 0, 5), (5, .invokevirtual 62, 3, 0, 8), (8, .aload_n 0, 1, 0, 9), (9, .getfield 18, 3, 0, 12), (12, .invokevirtual 40, 3, 0, 15), (15, .istore_n 2, 1, 0, 16), (16, .iconst 0, 1, 0, 17), (17, .istore_n 3, 1, 0, 18), (18, .iload_n 3, 1, 0, 19), (19, .aload_n 0, 1, 0, 20), (20, .getfield 25, 3, 0, 23), (23, .getfield 65, 3, 0, 26), (26, .if_icmp .ge (45), 3, 0, 71), (29, .aload_n 0, 1, 0, 30), (30, .aload_n 1, 1, 0, 31), (31, .aload_n 0, 1, 0, 32), (32, .getfield 25, 3, 0, 35), (35, .iload_n 3, 1, 0, 36), (36, .invokevirtual 69, 3, 0, 39), (39, .aload_n 0, 1, 0, 40), (40, .getfield 25, 3, 0, 43), (43, .iload_n 3, 1, 0, 44), (44, .invokevirtual 72, 3, 0, 47), (47, .invokevirtual 75, 3, 0, 50), (50, .ifnonnull (15), 3, 0, 65), (53, .aload_n 0, 1, 0, 54), (54, .aload_n 1, 1, 0, 55), (55, .iload_n 3, 1, 0, 56), (56, .invokevirtual 79, 3, 0, 59), (59, .ifCond .eq (6), 3, 0, 65), (62, .iinc 2 (1), 3, 1, 65), (65, .iinc 3 (1), 3, 1, 68), (68, .goto (-50), 3, 0, 18), (71, .iload_n 2, 1, 0, 72), (72, .ireturn, 1, 0, 73)]
theorem kStore_manyEverWith : bOK cX8_manyEverWith 4 pStore_manyEverWith = true := by decide +kernel
def fStore_manyEverWith_j65 (a0 : Nat) (k18 : Option Nat → Int32 → Int32 → Mm → Option (Int32 × Mm)) (r1 : Option Nat) (x2 : Int32) (x3 : Int32) (M : Mm) : Option (Int32 × Mm) :=
  k18 r1 x2 (x3 + 1) M
theorem wStore_manyEverWith_j65 {X : MC} {G : GE} {n0 : Nat} (C : CX X G RX8 cX8_manyEverWith pStore_manyEverWith 4 (some .int) n0) (htab : ∀ z ∈ X.2.2.2.2.2.2.2.2.exceptionTable.toList, False) {σ : Sg} {n : Nat} (a0 : Nat) (k18 : Option Nat → Int32 → Int32 → Mm → Option (Int32 × Mm)) (H18 : ∀ (r1 : Option Nat) (x2 : Int32) (x3 : Int32) (M : Mm), JS X G 4 300 0 n0 (EM X G n0 6 300 (eW rvI σ n)) (k18 r1 x2 x3 M) (σ, M, n) 18 [(0, .inr (.inl (some a0))), (1, .inr (.inl r1)), (2, .inl x2), (3, .inl x3)] []) (r1 : Option Nat) (x2 : Int32) (x3 : Int32) (M : Mm) : JS X G 4 300 0 n0 (EM X G n0 6 300 (eW rvI σ n)) (fStore_manyEverWith_j65 a0 k18 r1 x2 x3 M) (σ, M, n) 65 [(0, .inr (.inl (some a0))), (1, .inr (.inl r1)), (2, .inl x2), (3, .inl x3)] [] := by
  unfold fStore_manyEverWith_j65
  refine s_blk C 33 2 [0, 1, 2, 3] (pc' := 18) (lv' := [(0, .inr (.inl (some a0))), (1, .inr (.inl r1)), (2, .inl x2), (3, .inl (x3 + 1))]) (st' := []) rfl ?_
  exact H18 _ _ _ _
def fStore_manyEverWith_b18 (a0 : Nat) (k18 : Option Nat → Int32 → Int32 → Mm → Option (Int32 × Mm)) (r1 : Option Nat) (x2 : Int32) (x3 : Int32) (M : Mm) : Option (Int32 × Mm) :=
  fgR 8 802 (some a0) M fun v1 =>
  fgI 3 302 v1 M fun v2 =>
  if v2 ≤ x3 then
    some (x2, M)
  else
    fgR 8 802 (some a0) M fun v3 =>
    rk 3 v3 M fun a4 =>
    bdR (fCut_startOf a4 x3 M) fun v7 =>
    fgR 8 802 (some a0) M fun v8 =>
    rk 3 v8 M fun a9 =>
    bdR (fCut_endOf a9 x3 M) fun v12 =>
    rk 8 (some a0) M fun _ =>
    bdR (fStore_find a0 r1 v7 v12 M) fun v14 =>
    ifN v14
      (rk 8 (some a0) M fun _ =>
      bdR (fStore_isFirstInCut a0 r1 x3 M) fun v16 =>
      if v16 = 0 then
        fStore_manyEverWith_j65 a0 k18 r1 x2 x3 M
      else
        fStore_manyEverWith_j65 a0 k18 r1 (x2 + 1) x3 M)
      (fStore_manyEverWith_j65 a0 k18 r1 x2 x3 M)
theorem wStore_manyEverWith_b18 {X : MC} {G : GE} {n0 : Nat} (C : CX X G RX8 cX8_manyEverWith pStore_manyEverWith 4 (some .int) n0) (htab : ∀ z ∈ X.2.2.2.2.2.2.2.2.exceptionTable.toList, False) {σ : Sg} {n : Nat} (a0 : Nat) (k18 : Option Nat → Int32 → Int32 → Mm → Option (Int32 × Mm)) (H18 : ∀ (r1 : Option Nat) (x2 : Int32) (x3 : Int32) (M : Mm), JS X G 4 300 0 n0 (EM X G n0 6 300 (eW rvI σ n)) (k18 r1 x2 x3 M) (σ, M, n) 18 [(0, .inr (.inl (some a0))), (1, .inr (.inl r1)), (2, .inl x2), (3, .inl x3)] []) (r1 : Option Nat) (x2 : Int32) (x3 : Int32) (M : Mm) : JS X G 4 300 0 n0 (EM X G n0 6 300 (eW rvI σ n)) (fStore_manyEverWith_b18 a0 k18 r1 x2 x3 M) (σ, M, n) 18 [(0, .inr (.inl (some a0))), (1, .inr (.inl r1)), (2, .inl x2), (3, .inl x3)] [] := by
  unfold fStore_manyEverWith_b18
  refine s_blk C 10 2 [0, 1, 2, 3] (pc' := 20) (lv' := [(0, .inr (.inl (some a0))), (1, .inr (.inl r1)), (2, .inl x2), (3, .inl x3)]) (st' := [.inr (.inl (some a0)), .inl x3]) rfl ?_
  refine s_gR C 12 rfl fl_X8_25 rfl rfl (fun v1 => ?_)
  refine s_gI C 13 rfl fl_X8_65 rfl rfl (fun v2 => ?_)
  refine s_icge C 14 rfl (fun _ => ?_) (fun _ => ?_)
  · refine s_blk C 35 1 [] (pc' := 72) (lv' := []) (st' := [.inl x2]) rfl ?_
    exact s_iret C 36 rfl rfl
  refine s_blk C 15 3 [0, 1, 2, 3] (pc' := 32) (lv' := [(0, .inr (.inl (some a0))), (1, .inr (.inl r1)), (2, .inl x2), (3, .inl x3)]) (st' := [.inr (.inl (some a0)), .inr (.inl r1), .inr (.inl (some a0))]) rfl ?_
  refine s_gR C 18 rfl fl_X8_25 rfl rfl (fun v3 => ?_)
  refine s_blk C 19 1 [0, 1, 2, 3] (pc' := 36) (lv' := [(0, .inr (.inl (some a0))), (1, .inr (.inl r1)), (2, .inl x2), (3, .inl x3)]) (st' := [.inl x3, .inr (.inl v3), .inr (.inl r1), .inr (.inl (some a0))]) rfl ?_
  refine s_rk (fun a4 ha5 hk6 => ?_)
  subst ha5
  refine s_RI (CE_EM _ _ _ _ _ _) (st := [.inr (.inl r1), .inr (.inl (some a0))]) (fun o ho => j_callV (As := [.inl x3]) (st := [.inr (.inl r1), .inr (.inl (some a0))]) (b := a4) C 20 rfl mf_Cut_startOf ml_X8_69 rfl (recv_K C (by decide) (by decide) rfl hk6) (by decide) (by decide) (Nat.le_refl _) rfl (cCut_startOf (CX_tr C) σ M n a4 x3 o ho)) (fun v7 => ?_)
  refine s_blk C 21 1 [0, 1, 2, 3] (pc' := 40) (lv' := [(0, .inr (.inl (some a0))), (1, .inr (.inl r1)), (2, .inl x2), (3, .inl x3)]) (st' := [.inr (.inl (some a0)), .inl v7, .inr (.inl r1), .inr (.inl (some a0))]) rfl ?_
  refine s_gR C 22 rfl fl_X8_25 rfl rfl (fun v8 => ?_)
  refine s_blk C 23 1 [0, 1, 2, 3] (pc' := 44) (lv' := [(0, .inr (.inl (some a0))), (1, .inr (.inl r1)), (2, .inl x2), (3, .inl x3)]) (st' := [.inl x3, .inr (.inl v8), .inl v7, .inr (.inl r1), .inr (.inl (some a0))]) rfl ?_
  refine s_rk (fun a9 ha10 hk11 => ?_)
  subst ha10
  refine s_RI (CE_EM _ _ _ _ _ _) (st := [.inl v7, .inr (.inl r1), .inr (.inl (some a0))]) (fun o ho => j_callV (As := [.inl x3]) (st := [.inl v7, .inr (.inl r1), .inr (.inl (some a0))]) (b := a9) C 24 rfl mf_Cut_endOf ml_X8_72 rfl (recv_K C (by decide) (by decide) rfl hk11) (by decide) (by decide) (Nat.le_refl _) rfl (cCut_endOf (CX_tr C) σ M n a9 x3 o ho)) (fun v12 => ?_)
  refine s_rks (fun hk13 => ?_)
  refine s_RR (CE_EM _ _ _ _ _ _) (st := []) (fun o ho => j_callV (As := [.inr (.inl r1), .inl v7, .inl v12]) (st := []) (b := a0) C 25 rfl mf_Store_find ml_X8_75 rfl (recv_K C (by decide) (by decide) rfl hk13) (by decide) (by decide) (Nat.le_refl _) rfl (cStore_find (CX_tr C) σ M n a0 r1 v7 v12 o ho)) (fun v14 => ?_)
  refine s_nonnull C 26 rfl ?_ ?_
  · refine s_blk C 27 3 [0, 1, 2, 3] (pc' := 56) (lv' := [(0, .inr (.inl (some a0))), (1, .inr (.inl r1)), (2, .inl x2), (3, .inl x3)]) (st' := [.inl x3, .inr (.inl r1), .inr (.inl (some a0))]) rfl ?_
    refine s_rks (fun hk15 => ?_)
    refine s_RI (CE_EM _ _ _ _ _ _) (st := []) (fun o ho => j_callV (As := [.inr (.inl r1), .inl x3]) (st := []) (b := a0) C 30 rfl mf_Store_isFirstInCut ml_X8_79 rfl (recv_K C (by decide) (by decide) rfl hk15) (by decide) (by decide) (Nat.le_refl _) rfl (cStore_isFirstInCut (CX_tr C) σ M n a0 r1 x3 o ho)) (fun v16 => ?_)
    refine s_ieq C 31 rfl (fun _ => ?_) (fun _ => ?_)
    · exact wStore_manyEverWith_j65 C htab a0 k18 H18 _ _ _ _
    refine s_blk C 32 1 [0, 1, 2, 3] (pc' := 65) (lv' := [(0, .inr (.inl (some a0))), (1, .inr (.inl r1)), (2, .inl (x2 + 1)), (3, .inl x3)]) (st' := []) rfl ?_
    exact wStore_manyEverWith_j65 C htab a0 k18 H18 _ _ _ _
  exact wStore_manyEverWith_j65 C htab a0 k18 H18 _ _ _ _
def fStore_manyEverWith_l18 (a0 : Nat) (fu : Nat) : Option Nat → Int32 → Int32 → Mm → Option (Int32 × Mm) := Nat.rec (fun r1 x2 x3 M => none) (fun _ k => fStore_manyEverWith_b18 a0 k) fu
theorem wStore_manyEverWith_l18 {X : MC} {G : GE} {n0 : Nat} (C : CX X G RX8 cX8_manyEverWith pStore_manyEverWith 4 (some .int) n0) (htab : ∀ z ∈ X.2.2.2.2.2.2.2.2.exceptionTable.toList, False) {σ : Sg} {n : Nat} (a0 : Nat) : ∀ (fu : Nat) (r1 : Option Nat) (x2 : Int32) (x3 : Int32) (M : Mm), JS X G 4 300 0 n0 (EM X G n0 6 300 (eW rvI σ n)) (fStore_manyEverWith_l18 a0 fu r1 x2 x3 M) (σ, M, n) 18 [(0, .inr (.inl (some a0))), (1, .inr (.inl r1)), (2, .inl x2), (3, .inl x3)] [] := by
  intro fu
  induction fu with
  | zero => intro r1 x2 x3 M; exact s_none
  | succ fu ih => intro r1 x2 x3 M; exact wStore_manyEverWith_b18 C htab a0 (fStore_manyEverWith_l18 a0 fu) ih _ _ _ _
def fStore_manyEverWith (a0 : Nat) (r1 : Option Nat) (M : Mm) : Option (Int32 × Mm) :=
  fgR 8 802 (some a0) M fun v1 =>
  rk 3 v1 M fun a2 =>
  bdW (fCut_cut a2 r1 M) fun v5 M6 =>
  fgR 8 801 (some a0) M6 fun v7 =>
  rk 12 v7 M6 fun a8 =>
  bdR (fAl_size a8 M6) fun v11 =>
  fStore_manyEverWith_l18 a0 FU r1 v11 0 M6
theorem wStore_manyEverWith {X : MC} {G : GE} {n0 : Nat} (C : CX X G RX8 cX8_manyEverWith pStore_manyEverWith 4 (some .int) n0) (htab : ∀ z ∈ X.2.2.2.2.2.2.2.2.exceptionTable.toList, False) {σ : Sg} {n : Nat} (a0 : Nat) (r1 : Option Nat) (M : Mm) : JS X G 4 300 0 n0 (EM X G n0 6 300 (eW rvI σ n)) (fStore_manyEverWith a0 r1 M) (σ, M, n) 0 [(0, .inr (.inl (some a0))), (1, .inr (.inl r1))] [] := by
  unfold fStore_manyEverWith
  refine s_blk C 0 1 [0, 1] (pc' := 1) (lv' := [(0, .inr (.inl (some a0))), (1, .inr (.inl r1))]) (st' := [.inr (.inl (some a0))]) rfl ?_
  refine s_gR C 1 rfl fl_X8_25 rfl rfl (fun v1 => ?_)
  refine s_blk C 2 1 [0, 1] (pc' := 5) (lv' := [(0, .inr (.inl (some a0))), (1, .inr (.inl r1))]) (st' := [.inr (.inl r1), .inr (.inl v1)]) rfl ?_
  refine s_rk (fun a2 ha3 hk4 => ?_)
  subst ha3
  refine s_WU (CE_EM _ _ _ _ _ _) (st := []) (fun o ho => j_callV (As := [.inr (.inl r1)]) (st := []) (b := a2) C 3 rfl mf_Cut_cut ml_X8_62 rfl (recv_K C (by decide) (by decide) rfl hk4) (by decide) (by decide) (Nat.le_refl _) rfl (cCut_cut (CX_tr C) σ M n a2 r1 o ho)) (fun v5 M6 => ?_)
  refine s_blk C 4 1 [0, 1] (pc' := 9) (lv' := [(0, .inr (.inl (some a0))), (1, .inr (.inl r1))]) (st' := [.inr (.inl (some a0))]) rfl ?_
  refine s_gR C 5 rfl fl_X8_18 rfl rfl (fun v7 => ?_)
  refine s_rk (fun a8 ha9 hk10 => ?_)
  subst ha9
  refine s_RI (CE_EM _ _ _ _ _ _) (st := []) (fun o ho => j_callV (As := []) (st := []) (b := a8) C 6 rfl mf_Al_size ml_X8_40 rfl (recv_K C (by decide) (by decide) rfl hk10) (by decide) (by decide) (Nat.le_refl _) rfl (cAl_size (CX_tr C) σ M6 n a8 o ho)) (fun v11 => ?_)
  refine s_blk C 7 3 [0, 1, 2, 3] (pc' := 18) (lv' := [(0, .inr (.inl (some a0))), (1, .inr (.inl r1)), (2, .inl v11), (3, .inl 0)]) (st' := []) rfl ?_
  exact wStore_manyEverWith_l18 C htab a0 FU _ _ _ _
theorem cStore_manyEverWith {l : Launch} {G : GE} (htr : l.stackTraces = false) (σ : Sg) (M : Mm) (n : Nat) (a0 : Nat) (r1 : Option Nat) : ∀ o, fStore_manyEverWith a0 r1 M = some o → MetX l G yX8_manyEverWith cX8_manyEverWith 4 (some .int) 6 300 [.inr (.inl (some a0)), .inr (.inl r1)] (σ, M, n) ((eW rvI σ n) o) :=
  c_ofX (by decide) kStore_manyEverWith htr rfl rfl fun X _ _ C htab => wStore_manyEverWith C htab a0 r1 _
def pRegion_hasRoom : List BR := [(0, .aload_n 0, 1, 0, 1), (1, .getfield 21, 3, 0, 4), (4, .invokevirtual 32, 3, 0, 7), (7, .bipush 40, 2, 40, 9), (9, .if_icmp .ge (10), 3, 0, 19), (12, .aload_n 1, 1, 0, 13), (13, .getfield 55, 3, 0, 16), (16, .ifCond .ne (21), 3, 0, 37), (19, .aload_n 0, 1, 0, 20), (20, .getfield 21, 3, 0, 23), (23, .invokevirtual 32, 3, 0, 26), (26, .bipush 40, 2, 40, 28), (28, .if_icmp .ge (7), 3, 0, 35), (31, .iconst 1, 1, 1, 32), (32, .goto (4), 3, 0, 36), (35, .iconst 0, 1, 0, 36), (36, .ireturn, 1, 0, 37), (37, .aload_n 0, 1, 0, 38), (38, .getfield 12, 3, 0, 41), (41, .invokevirtual 60, 3, 0, 44), (44, .iconst 3, 1, 3, 45), (45, .if_icmp .lt (20), 3, 0, 65), (48, .aload_n 0, 1, 0, 49), (49, .getfield 12, 3, 0, 52), (52, .aload_n 1, 1, 0, 53), (53, .invokevirtual 63, 3, 0, 56), (56, .bipush 90, 2, 90, 58), (58, .if_icmp .gt (7), 3, 0, 65), (61, .iconst 1, 1, 1, 62), (62, .goto (4), 3, 0, 66), (65, .iconst 0, 1, 0, 66), (66, .ireturn, 1, 0, 67)]
theorem kRegion_hasRoom : bOK cX6_hasRoom 2 pRegion_hasRoom = true := by decide +kernel
def fRegion_hasRoom_j19 (a0 : Nat) (M : Mm) : Option (Int32 × Mm) :=
  fgR 6 601 (some a0) M fun v1 =>
  rk 12 v1 M fun a2 =>
  bdR (fAl_size a2 M) fun v5 =>
  if 40 ≤ v5 then
    rZ 0 (some (0, M))
  else
    rZ 1 (some (1, M))
theorem wRegion_hasRoom_j19 {X : MC} {G : GE} {n0 : Nat} (C : CX X G RX6 cX6_hasRoom pRegion_hasRoom 2 (some .boolean) n0) (htab : ∀ z ∈ X.2.2.2.2.2.2.2.2.exceptionTable.toList, False) {σ : Sg} {n : Nat} (a0 : Nat) (M : Mm) : JS X G 2 300 0 n0 (EM X G n0 7 300 (eW rvI σ n)) (fRegion_hasRoom_j19 a0 M) (σ, M, n) 19 [(0, .inr (.inl (some a0)))] [] := by
  unfold fRegion_hasRoom_j19
  refine s_blk C 8 1 [] (pc' := 20) (lv' := []) (st' := [.inr (.inl (some a0))]) rfl ?_
  refine s_gR C 9 rfl fl_X6_21 rfl rfl (fun v1 => ?_)
  refine s_rk (fun a2 ha3 hk4 => ?_)
  subst ha3
  refine s_RI (CE_EM _ _ _ _ _ _) (st := []) (fun o ho => j_callV (As := []) (st := []) (b := a2) C 10 rfl mf_Al_size ml_X6_32 rfl (recv_K C (by decide) (by decide) rfl hk4) (by decide) (by decide) (Nat.le_refl _) rfl (cAl_size (CX_tr C) σ M n a2 o ho)) (fun v5 => ?_)
  refine s_blk C 11 1 [] (pc' := 28) (lv' := []) (st' := [.inl 40, .inl v5]) rfl ?_
  refine s_icge C 12 rfl (fun _ => ?_) (fun _ => ?_)
  · refine s_blk C 15 1 [] (pc' := 36) (lv' := []) (st' := [.inl 0]) rfl ?_
    exact s_zret C 16 rfl rfl
  refine s_blk C 13 2 [] (pc' := 36) (lv' := []) (st' := [.inl 1]) rfl ?_
  exact s_zret C 16 rfl rfl
def fRegion_hasRoom (a0 : Nat) (r1 : Option Nat) (M : Mm) : Option (Int32 × Mm) :=
  fgR 6 601 (some a0) M fun v1 =>
  rk 12 v1 M fun a2 =>
  bdR (fAl_size a2 M) fun v5 =>
  if 40 ≤ v5 then
    fRegion_hasRoom_j19 a0 M
  else
    fgI 1 101 r1 M fun v6 =>
    if v6 = 0 then
      fRegion_hasRoom_j19 a0 M
    else
      fgR 6 600 (some a0) M fun v7 =>
      rk 8 v7 M fun a8 =>
      bdR (fStore_manyUp a8 M) fun v11 =>
      if v11 < 3 then
        rZ 0 (some (0, M))
      else
        fgR 6 600 (some a0) M fun v12 =>
        rk 8 v12 M fun a13 =>
        bdW (fStore_manyEverWith a13 r1 M) fun v16 M17 =>
        if 90 < v16 then
          rZ 0 (some (0, M17))
        else
          rZ 1 (some (1, M17))
theorem wRegion_hasRoom {X : MC} {G : GE} {n0 : Nat} (C : CX X G RX6 cX6_hasRoom pRegion_hasRoom 2 (some .boolean) n0) (htab : ∀ z ∈ X.2.2.2.2.2.2.2.2.exceptionTable.toList, False) {σ : Sg} {n : Nat} (a0 : Nat) (r1 : Option Nat) (M : Mm) : JS X G 2 300 0 n0 (EM X G n0 7 300 (eW rvI σ n)) (fRegion_hasRoom a0 r1 M) (σ, M, n) 0 [(0, .inr (.inl (some a0))), (1, .inr (.inl r1))] [] := by
  unfold fRegion_hasRoom
  refine s_blk C 0 1 [0, 1] (pc' := 1) (lv' := [(0, .inr (.inl (some a0))), (1, .inr (.inl r1))]) (st' := [.inr (.inl (some a0))]) rfl ?_
  refine s_gR C 1 rfl fl_X6_21 rfl rfl (fun v1 => ?_)
  refine s_rk (fun a2 ha3 hk4 => ?_)
  subst ha3
  refine s_RI (CE_EM _ _ _ _ _ _) (st := []) (fun o ho => j_callV (As := []) (st := []) (b := a2) C 2 rfl mf_Al_size ml_X6_32 rfl (recv_K C (by decide) (by decide) rfl hk4) (by decide) (by decide) (Nat.le_refl _) rfl (cAl_size (CX_tr C) σ M n a2 o ho)) (fun v5 => ?_)
  refine s_blk C 3 1 [0, 1] (pc' := 9) (lv' := [(0, .inr (.inl (some a0))), (1, .inr (.inl r1))]) (st' := [.inl 40, .inl v5]) rfl ?_
  refine s_icge C 4 rfl (fun _ => ?_) (fun _ => ?_)
  · refine s_blk C 0 0 [0] (pc' := 19) (lv' := [(0, .inr (.inl (some a0)))]) (st' := []) rfl ?_
    exact wRegion_hasRoom_j19 C htab a0 _
  refine s_blk C 5 1 [0, 1] (pc' := 13) (lv' := [(0, .inr (.inl (some a0))), (1, .inr (.inl r1))]) (st' := [.inr (.inl r1)]) rfl ?_
  refine s_gI C 6 rfl fl_X6_55 rfl rfl (fun v6 => ?_)
  refine s_ine C 7 rfl (fun _ => ?_) (fun _ => ?_)
  · refine s_blk C 0 0 [0] (pc' := 19) (lv' := [(0, .inr (.inl (some a0)))]) (st' := []) rfl ?_
    exact wRegion_hasRoom_j19 C htab a0 _
  refine s_blk C 17 1 [0, 1] (pc' := 38) (lv' := [(0, .inr (.inl (some a0))), (1, .inr (.inl r1))]) (st' := [.inr (.inl (some a0))]) rfl ?_
  refine s_gR C 18 rfl fl_X6_12 rfl rfl (fun v7 => ?_)
  refine s_rk (fun a8 ha9 hk10 => ?_)
  subst ha9
  refine s_RI (CE_EM _ _ _ _ _ _) (st := []) (fun o ho => j_callV (As := []) (st := []) (b := a8) C 19 rfl mf_Store_manyUp ml_X6_60 rfl (recv_K C (by decide) (by decide) rfl hk10) (by decide) (by decide) (Nat.le_refl _) rfl (cStore_manyUp (CX_tr C) σ M n a8 o ho)) (fun v11 => ?_)
  refine s_blk C 20 1 [0, 1] (pc' := 45) (lv' := [(0, .inr (.inl (some a0))), (1, .inr (.inl r1))]) (st' := [.inl 3, .inl v11]) rfl ?_
  refine s_iclt C 21 rfl (fun _ => ?_) (fun _ => ?_)
  · refine s_blk C 30 1 [] (pc' := 66) (lv' := []) (st' := [.inl 0]) rfl ?_
    exact s_zret C 31 rfl rfl
  refine s_blk C 22 1 [1] (pc' := 49) (lv' := [(1, .inr (.inl r1))]) (st' := [.inr (.inl (some a0))]) rfl ?_
  refine s_gR C 23 rfl fl_X6_12 rfl rfl (fun v12 => ?_)
  refine s_blk C 24 1 [] (pc' := 53) (lv' := []) (st' := [.inr (.inl r1), .inr (.inl v12)]) rfl ?_
  refine s_rk (fun a13 ha14 hk15 => ?_)
  subst ha14
  refine s_WI (CE_EM _ _ _ _ _ _) (st := []) (fun o ho => j_callV (As := [.inr (.inl r1)]) (st := []) (b := a13) C 25 rfl mf_Store_manyEverWith ml_X6_63 rfl (recv_K C (by decide) (by decide) rfl hk15) (by decide) (by decide) (Nat.le_refl _) rfl (cStore_manyEverWith (CX_tr C) σ M n a13 r1 o ho)) (fun v16 M17 => ?_)
  refine s_blk C 26 1 [] (pc' := 58) (lv' := []) (st' := [.inl 90, .inl v16]) rfl ?_
  refine s_icgt C 27 rfl (fun _ => ?_) (fun _ => ?_)
  · refine s_blk C 30 1 [] (pc' := 66) (lv' := []) (st' := [.inl 0]) rfl ?_
    exact s_zret C 31 rfl rfl
  refine s_blk C 28 2 [] (pc' := 66) (lv' := []) (st' := [.inl 1]) rfl ?_
  exact s_zret C 31 rfl rfl
theorem cRegion_hasRoom {l : Launch} {G : GE} (htr : l.stackTraces = false) (σ : Sg) (M : Mm) (n : Nat) (a0 : Nat) (r1 : Option Nat) : ∀ o, fRegion_hasRoom a0 r1 M = some o → MetX l G yX6_hasRoom cX6_hasRoom 2 (some .boolean) 7 300 [.inr (.inl (some a0)), .inr (.inl r1)] (σ, M, n) ((eW rvI σ n) o) :=
  c_ofX (by decide) kRegion_hasRoom htr rfl rfl fun X _ _ C htab => wRegion_hasRoom C htab a0 r1 _
def pEntry_init : List BR := [(0, .aload_n 0, 1, 0, 1), (1, .invokespecial 1, 3, 0, 4), (4, .aload_n 0, 1, 0, 5), (5, .new 7, 3, 0, 8), (8, .dup, 1, 0, 9), (9, .invokespecial 9, 3, 0, 12), (12, .putfield 10, 3, 0, 15), (15, .aload_n 0, 1, 0, 16), (16, .iload_n 1, 1, 0, 17), (17, .putfield 16, 3, 0, 20), (20, .aload_n 0, 1, 0, 21), (21, .iload_n 2, 1, 0, 22), (22, .putfield 20, 3, 0, 25), (25, .aload_n 0, 1, 0, 26), (26, .iload_n 3, 1, 0, 27), (27, .putfield 23, 3, 0, 30), (30, .return_, 1, 0, 31)]
theorem kEntry_init : bOK cX3_init 4 pEntry_init = true := by decide +kernel
def fEntry_init (a0 : Nat) (x1 : Int32) (x2 : Int32) (x3 : Int32) (M : Mm) (n : Nat) : Option ((Unit ⊕ Nat) × Mm × Nat) :=
  nwO 1 M n fun y1 M2 n3 =>
  rk 1 y1 M2 fun a4 =>
  bdN (fBytes_init a4 M2 n3) n3 fun v7 M8 n9 =>
  fpR 4 403 (some a0) y1 M8 fun M10 =>
  fpI 4 400 (some a0) x1 M10 fun M11 =>
  fpI 4 401 (some a0) x2 M11 fun M12 =>
  fpI 4 402 (some a0) x3 M12 fun M13 =>
  some (.inl (), M13, n9)
theorem wEntry_init {X : MC} {G : GE} {n0 : Nat} (C : CX X G RX3 cX3_init pEntry_init 4 none n0) (htab : ∀ z ∈ X.2.2.2.2.2.2.2.2.exceptionTable.toList, False) (hin : X.2.2.2.2.2.2.2.1.name = "<init>") {σ : Sg} (a0 : Nat) (x1 : Int32) (x2 : Int32) (x3 : Int32) (M : Mm) (n : Nat) : JS X G 4 300 0 n0 (EM X G n0 3 300 (eC rvU σ)) (fEntry_init a0 x1 x2 x3 M n) (σ, M, n) 0 [(0, .inr (.inl (some a0))), (1, .inl x1), (2, .inl x2), (3, .inl x3)] [] := by
  unfold fEntry_init
  refine s_blk C 0 1 [0, 1, 2, 3] (pc' := 1) (lv' := [(0, .inr (.inl (some a0))), (1, .inl x1), (2, .inl x2), (3, .inl x3)]) (st' := [.inr (.inl (some a0))]) rfl ?_
  refine s_sup C (CE_EM _ _ _ _ _ _) 1 rfl ml_X3_1 (by decide) rfl ?_
  refine s_blk C 2 1 [0, 1, 2, 3] (pc' := 5) (lv' := [(0, .inr (.inl (some a0))), (1, .inl x1), (2, .inl x2), (3, .inl x3)]) (st' := [.inr (.inl (some a0))]) rfl ?_
  refine s_new C (CE_EM _ _ _ _ _ _) 3 rfl cl_X3_7 (by decide) (fun y1 M2 n3 _ _ => ?_)
  refine s_blk C 4 1 [0, 1, 2, 3] (pc' := 9) (lv' := [(0, .inr (.inl (some a0))), (1, .inl x1), (2, .inl x2), (3, .inl x3)]) (st' := [.inr (.inl y1), .inr (.inl y1), .inr (.inl (some a0))]) rfl ?_
  refine s_rk (fun a4 ha5 hk6 => ?_)
  subst ha5
  refine s_NU C htab (st := [.inr (.inl (some a4)), .inr (.inl (some a0))]) (fun v M1 n1 ho => j_callI (As := []) (st := [.inr (.inl (some a4)), .inr (.inl (some a0))]) (b := a4) C 5 rfl mf_Bytes_init (Or.inr ml_X3_9) rfl (by decide) (by decide) (Nat.le_refl _) rfl (cBytes_init (CX_tr C) σ M2 n3 a4 _ ho) rfl) (fun v7 M8 n9 _ => ?_)
  refine s_pR C 6 rfl fl_X3_10 fp_X3_4_3 (fun _ => hin) rfl rfl rfl (fun M10 _ => ?_)
  refine s_blk C 7 2 [0, 2, 3] (pc' := 17) (lv' := [(0, .inr (.inl (some a0))), (2, .inl x2), (3, .inl x3)]) (st' := [.inl x1, .inr (.inl (some a0))]) rfl ?_
  refine s_pI C 9 rfl fl_X3_16 fp_X3_4_0 (fun _ => hin) rfl rfl (fun M11 _ => ?_)
  refine s_blk C 10 2 [0, 3] (pc' := 22) (lv' := [(0, .inr (.inl (some a0))), (3, .inl x3)]) (st' := [.inl x2, .inr (.inl (some a0))]) rfl ?_
  refine s_pI C 12 rfl fl_X3_20 fp_X3_4_1 (fun _ => hin) rfl rfl (fun M12 _ => ?_)
  refine s_blk C 13 2 [] (pc' := 27) (lv' := []) (st' := [.inl x3, .inr (.inl (some a0))]) rfl ?_
  refine s_pI C 15 rfl fl_X3_23 fp_X3_4_2 (fun _ => hin) rfl rfl (fun M13 _ => ?_)
  exact s_vret C 16 rfl rfl
theorem cEntry_init {l : Launch} {G : GE} (htr : l.stackTraces = false) (σ : Sg) (M : Mm) (n : Nat) (a0 : Nat) (x1 : Int32) (x2 : Int32) (x3 : Int32) : ∀ o, fEntry_init a0 x1 x2 x3 M n = some o → MetX l G yX3_init cX3_init 4 none 3 300 [.inr (.inl (some a0)), .inl x1, .inl x2, .inl x3] (σ, M, n) ((eC rvU σ) o) :=
  c_ofX (by decide) kEntry_init htr rfl rfl fun X _ hin C htab => wEntry_init C htab hin a0 x1 x2 x3 _ _
def pBytes_append : List BR := [(0, .aload_n 0, 1, 0, 1), (1, .getfield 15, 3, 0, 4), (4, .ifCond .lt (36), 3, 0, 40), (7, .aload_n 0, 1, 0, 8), (8, .getfield 15, 3, 0, 11), (11, .aload_n 0, 1, 0, 12), (12, .getfield 9, 3, 0, 15), (15, .arraylength, 1, 0, 16), (16, .if_icmp .ge (24), 3, 0, 40), (19, .aload_n 0, 1, 0, 20), (20, .getfield 9, 3, 0, 23), (23, .aload_n 0, 1, 0, 24), (24, .getfield 15, 3, 0, 27), (27, .iload_n 1, 1, 0, 28), (28, .i2b, 1, 0, 29), (29, .bastore, 1, 0, 30), (30, .aload_n 0, 1, 0, 31), (31, .dup, 1, 0, 32), (32, .getfield 15, 3, 0, 35), (35, .iconst 1, 1, 1, 36), (36, .iadd, 1, 0, 37), (37, .putfield 15, 3, 0, 40), (40, .return_, 1, 0, 41)]
theorem kBytes_append : bOK cX0_append 2 pBytes_append = true := by decide +kernel
def fBytes_append (a0 : Nat) (x1 : Int32) (M : Mm) : Option (Unit × Mm) :=
  fgI 1 101 (some a0) M fun v1 =>
  if v1 < 0 then
    some ((), M)
  else
    fgI 1 101 (some a0) M fun v2 =>
    fgR 1 100 (some a0) M fun v3 =>
    aln v3 M fun v4 =>
    if v4 ≤ v2 then
      some ((), M)
    else
      fgR 1 100 (some a0) M fun v5 =>
      fgI 1 101 (some a0) M fun v6 =>
      asB v5 v6 ((x1).toInt8.toInt32) M fun M7 =>
      fgI 1 101 (some a0) M7 fun v8 =>
      fpI 1 101 (some a0) (v8 + 1) M7 fun M9 =>
      some ((), M9)
theorem wBytes_append {X : MC} {G : GE} {n0 : Nat} (C : CX X G RX0 cX0_append pBytes_append 2 none n0) (htab : ∀ z ∈ X.2.2.2.2.2.2.2.2.exceptionTable.toList, False) {σ : Sg} {n : Nat} (a0 : Nat) (x1 : Int32) (M : Mm) : JS X G 2 300 0 n0 (EM X G n0 2 300 (eW rvU σ n)) (fBytes_append a0 x1 M) (σ, M, n) 0 [(0, .inr (.inl (some a0))), (1, .inl x1)] [] := by
  unfold fBytes_append
  refine s_blk C 0 1 [0, 1] (pc' := 1) (lv' := [(0, .inr (.inl (some a0))), (1, .inl x1)]) (st' := [.inr (.inl (some a0))]) rfl ?_
  refine s_gI C 1 rfl fl_X0_15 rfl rfl (fun v1 => ?_)
  refine s_ilt C 2 rfl (fun _ => ?_) (fun _ => ?_)
  · exact s_vret C 22 rfl rfl
  refine s_blk C 3 1 [0, 1] (pc' := 8) (lv' := [(0, .inr (.inl (some a0))), (1, .inl x1)]) (st' := [.inr (.inl (some a0))]) rfl ?_
  refine s_gI C 4 rfl fl_X0_15 rfl rfl (fun v2 => ?_)
  refine s_blk C 5 1 [0, 1] (pc' := 12) (lv' := [(0, .inr (.inl (some a0))), (1, .inl x1)]) (st' := [.inr (.inl (some a0)), .inl v2]) rfl ?_
  refine s_gR C 6 rfl fl_X0_9 rfl rfl (fun v3 => ?_)
  refine s_len C 7 rfl (fun v4 => ?_)
  refine s_icge C 8 rfl (fun _ => ?_) (fun _ => ?_)
  · exact s_vret C 22 rfl rfl
  refine s_blk C 9 1 [0, 1] (pc' := 20) (lv' := [(0, .inr (.inl (some a0))), (1, .inl x1)]) (st' := [.inr (.inl (some a0))]) rfl ?_
  refine s_gR C 10 rfl fl_X0_9 rfl rfl (fun v5 => ?_)
  refine s_blk C 11 1 [0, 1] (pc' := 24) (lv' := [(0, .inr (.inl (some a0))), (1, .inl x1)]) (st' := [.inr (.inl (some a0)), .inr (.inl v5)]) rfl ?_
  refine s_gI C 12 rfl fl_X0_15 rfl rfl (fun v6 => ?_)
  refine s_blk C 13 2 [0] (pc' := 29) (lv' := [(0, .inr (.inl (some a0)))]) (st' := [.inl ((x1).toInt8.toInt32), .inl v6, .inr (.inl v5)]) rfl ?_
  refine s_stB C 15 rfl (fun M7 _ => ?_)
  refine s_blk C 16 2 [] (pc' := 32) (lv' := []) (st' := [.inr (.inl (some a0)), .inr (.inl (some a0))]) rfl ?_
  refine s_gI C 18 rfl fl_X0_15 rfl rfl (fun v8 => ?_)
  refine s_blk C 19 2 [] (pc' := 37) (lv' := []) (st' := [.inl (v8 + 1), .inr (.inl (some a0))]) rfl ?_
  refine s_pI C 21 rfl fl_X0_15 fp_X0_1_1 (fun h => Bool.noConfusion h) rfl rfl (fun M9 _ => ?_)
  exact s_vret C 22 rfl rfl
theorem cBytes_append {l : Launch} {G : GE} (htr : l.stackTraces = false) (σ : Sg) (M : Mm) (n : Nat) (a0 : Nat) (x1 : Int32) : ∀ o, fBytes_append a0 x1 M = some o → MetX l G yX0_append cX0_append 2 none 2 300 [.inr (.inl (some a0)), .inl x1] (σ, M, n) ((eW rvU σ n) o) :=
  c_ofX (by decide) kBytes_append htr rfl rfl fun X _ _ C htab => wBytes_append C htab a0 x1 _

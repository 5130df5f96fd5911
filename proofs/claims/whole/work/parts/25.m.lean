def pHb_areAlike_0 : List BR := [(0, .iconst 1, 1, 1, 1), (1, .istore_n 1, 1, 0, 2), (2, .iload_n 1, 1, 0, 3), (3, .bipush 124, 2, 124, 5), (5, .if_icmp .gt (76), 3, 0, 81), (8, .aload_n 0, 1, 0, 9), (9, .getfield 10, 3, 0, 12), (12, .iload_n 1, 1, 0, 13), (13, .invokevirtual 75, 3, 0, 16), (16, .astore_n 2, 1, 0, 17), (17, .aload_n 0, 1, 0, 18), (18, .getfield 16, 3, 0, 21), (21, .iload_n 1, 1, 0, 22), (22, .invokevirtual 75, 3, 0, 25), (25, .astore_n 3, 1, 0, 26), (26, .aload_n 2, 1, 0, 27), (27, .invokestatic 87, 3, 0, 30), (30, .aload_n 3, 1, 0, 31), (31, .invokestatic 87, 3, 0, 34), (34, .if_icmp .eq (5), 3, 0, 39), (37, .iconst 0, 1, 0, 38), (38, .ireturn, 1, 0, 39), (39, .aload_n 2, 1, 0, 40), (40, .invokestatic 87, 3, 0, 43), (43, .ifCond .eq (32), 3, 0, 75), (46, .aload_n 3, 1, 0, 47), (47, .invokestatic 87, 3, 0, 50), (50, .ifCond .eq (25), 3, 0, 75), (53, .aload_n 2, 1, 0, 54), (54, .getfield 196, 3, 0, 57), (57, .getfield 200, 3, 0, 60), (60, .aload_n 3, 1, 0, 61), (61, .getfield 196, 3, 0, 64), (64, .getfield 200, 3, 0, 67), (67, .invokevirtual 276, 3, 0, 70), (70, .ifCond .ne (5), 3, 0, 75), (73, .iconst 0, 1, 0, 74), (74, .ireturn, 1, 0, 75), (75, .iinc 1 (1), 3, 1, 78), (78, .goto (-76), 3, 0, 2)]
theorem kHb_areAlike_0 : bOK cX11_areAlike 4 pHb_areAlike_0 = true := by decide +kernel
def pHb_areAlike_1 : List BR := [(81, .iconst 1, 1, 1, 82), (82, .ireturn, 1, 0, 83)]
theorem kHb_areAlike_1 : bOK cX11_areAlike 4 pHb_areAlike_1 = true := by decide +kernel
def pHb_areAlike : List BR := (pHb_areAlike_0 ++ pHb_areAlike_1)
theorem kHb_areAlike : bOK cX11_areAlike 4 pHb_areAlike = true := (bOK_app kHb_areAlike_0 kHb_areAlike_1)
def fHb_areAlike_j75 (a0 : Nat) (k2 : Int32 → Mm → Option (Int32)) (x1 : Int32) (M : Mm) : Option (Int32) :=
  k2 (x1 + 1) M
theorem wHb_areAlike_j75 {X : MC} {G : GE} {n0 : Nat} (C : CX X G RX11 cX11_areAlike pHb_areAlike 4 (some .boolean) n0) (htab : ∀ z ∈ X.2.2.2.2.2.2.2.2.exceptionTable.toList, False) {σ : Sg} {M : Mm} {n : Nat} (a0 : Nat) (k2 : Int32 → Mm → Option (Int32)) (H2 : ∀ (x1 : Int32), JS X G 4 300 0 n0 (EM X G n0 6 300 (eR rvI σ M n)) (k2 x1 M) (σ, M, n) 2 [(0, .inr (.inl (some a0))), (1, .inl x1)] []) (x1 : Int32) : JS X G 4 300 0 n0 (EM X G n0 6 300 (eR rvI σ M n)) (fHb_areAlike_j75 a0 k2 x1 M) (σ, M, n) 75 [(0, .inr (.inl (some a0))), (1, .inl x1)] [] := by
  unfold fHb_areAlike_j75
  refine s_blk C 38 2 [0, 1] (pc' := 2) (lv' := [(0, .inr (.inl (some a0))), (1, .inl (x1 + 1))]) (st' := []) rfl ?_
  exact H2 _
def fHb_areAlike_b2 (a0 : Nat) (k2 : Int32 → Mm → Option (Int32)) (x1 : Int32) (M : Mm) : Option (Int32) :=
  if 124 < x1 then
    rZ 1 (some 1)
  else
    fgR 11 1100 (some a0) M fun v1 =>
    rk 6 v1 M fun a2 =>
    bdR (fRegion_latest a2 x1 M) fun v5 =>
    fgR 11 1101 (some a0) M fun v6 =>
    rk 6 v6 M fun a7 =>
    bdR (fRegion_latest a7 x1 M) fun v10 =>
    bdR (fHb_isObject v5 M) fun v11 =>
    bdR (fHb_isObject v10 M) fun v12 =>
    if v11 = v12 then
      bdR (fHb_isObject v5 M) fun v13 =>
      if v13 = 0 then
        fHb_areAlike_j75 a0 k2 x1 M
      else
        bdR (fHb_isObject v10 M) fun v14 =>
        if v14 = 0 then
          fHb_areAlike_j75 a0 k2 x1 M
        else
          fgR 10 1000 v5 M fun v15 =>
          fgR 4 403 v15 M fun v16 =>
          fgR 10 1000 v10 M fun v17 =>
          fgR 4 403 v17 M fun v18 =>
          rk 1 v16 M fun a19 =>
          bdR (fBytes_isSame a19 v18 M) fun v22 =>
          if v22 = 0 then
            rZ 0 (some 0)
          else
            fHb_areAlike_j75 a0 k2 x1 M
    else
      rZ 0 (some 0)
theorem wHb_areAlike_b2 {X : MC} {G : GE} {n0 : Nat} (C : CX X G RX11 cX11_areAlike pHb_areAlike 4 (some .boolean) n0) (htab : ∀ z ∈ X.2.2.2.2.2.2.2.2.exceptionTable.toList, False) {σ : Sg} {M : Mm} {n : Nat} (a0 : Nat) (k2 : Int32 → Mm → Option (Int32)) (H2 : ∀ (x1 : Int32), JS X G 4 300 0 n0 (EM X G n0 6 300 (eR rvI σ M n)) (k2 x1 M) (σ, M, n) 2 [(0, .inr (.inl (some a0))), (1, .inl x1)] []) (x1 : Int32) : JS X G 4 300 0 n0 (EM X G n0 6 300 (eR rvI σ M n)) (fHb_areAlike_b2 a0 k2 x1 M) (σ, M, n) 2 [(0, .inr (.inl (some a0))), (1, .inl x1)] [] := by
  unfold fHb_areAlike_b2
  refine s_blk C 2 2 [0, 1] (pc' := 5) (lv' := [(0, .inr (.inl (some a0))), (1, .inl x1)]) (st' := [.inl 124, .inl x1]) rfl ?_
  refine s_icgt C 4 rfl (fun _ => ?_) (fun _ => ?_)
  · refine s_blk C 40 1 [] (pc' := 82) (lv' := []) (st' := [.inl 1]) rfl ?_
    exact s_zret C 41 rfl rfl
  refine s_blk C 5 1 [0, 1] (pc' := 9) (lv' := [(0, .inr (.inl (some a0))), (1, .inl x1)]) (st' := [.inr (.inl (some a0))]) rfl ?_
  refine s_gR C 6 rfl fl_X11_10 rfl rfl (fun v1 => ?_)
  refine s_blk C 7 1 [0, 1] (pc' := 13) (lv' := [(0, .inr (.inl (some a0))), (1, .inl x1)]) (st' := [.inl x1, .inr (.inl v1)]) rfl ?_
  refine s_rk (fun a2 ha3 hk4 => ?_)
  subst ha3
  refine s_RR (CE_EM _ _ _ _ _ _) (st := []) (fun o ho => j_callV (As := [.inl x1]) (st := []) (b := a2) C 8 rfl mf_Region_latest ml_X11_75 rfl (recv_K C (by decide) (by decide) rfl hk4) (by decide) (by decide) (Nat.le_refl _) rfl (cRegion_latest (CX_tr C) σ M n a2 x1 o ho)) (fun v5 => ?_)
  refine s_blk C 9 2 [0, 1, 2] (pc' := 18) (lv' := [(0, .inr (.inl (some a0))), (1, .inl x1), (2, .inr (.inl v5))]) (st' := [.inr (.inl (some a0))]) rfl ?_
  refine s_gR C 11 rfl fl_X11_16 rfl rfl (fun v6 => ?_)
  refine s_blk C 12 1 [0, 1, 2] (pc' := 22) (lv' := [(0, .inr (.inl (some a0))), (1, .inl x1), (2, .inr (.inl v5))]) (st' := [.inl x1, .inr (.inl v6)]) rfl ?_
  refine s_rk (fun a7 ha8 hk9 => ?_)
  subst ha8
  refine s_RR (CE_EM _ _ _ _ _ _) (st := []) (fun o ho => j_callV (As := [.inl x1]) (st := []) (b := a7) C 13 rfl mf_Region_latest ml_X11_75 rfl (recv_K C (by decide) (by decide) rfl hk9) (by decide) (by decide) (Nat.le_refl _) rfl (cRegion_latest (CX_tr C) σ M n a7 x1 o ho)) (fun v10 => ?_)
  refine s_blk C 14 2 [0, 1, 2, 3] (pc' := 27) (lv' := [(0, .inr (.inl (some a0))), (1, .inl x1), (2, .inr (.inl v5)), (3, .inr (.inl v10))]) (st' := [.inr (.inl v5)]) rfl ?_
  refine s_RI (CE_EM _ _ _ _ _ _) (st := []) (fun o ho => j_callS (As := [.inr (.inl v5)]) (st := []) C 16 rfl mf_Hb_isObject ml_X11_87 rfl (by decide) (by decide) (Nat.le_refl _) rfl (cHb_isObject (CX_tr C) σ M n v5 o ho)) (fun v11 => ?_)
  refine s_blk C 17 1 [0, 1, 2, 3] (pc' := 31) (lv' := [(0, .inr (.inl (some a0))), (1, .inl x1), (2, .inr (.inl v5)), (3, .inr (.inl v10))]) (st' := [.inr (.inl v10), .inl v11]) rfl ?_
  refine s_RI (CE_EM _ _ _ _ _ _) (st := [.inl v11]) (fun o ho => j_callS (As := [.inr (.inl v10)]) (st := [.inl v11]) C 18 rfl mf_Hb_isObject ml_X11_87 rfl (by decide) (by decide) (Nat.le_refl _) rfl (cHb_isObject (CX_tr C) σ M n v10 o ho)) (fun v12 => ?_)
  refine s_iceq C 19 rfl (fun _ => ?_) (fun _ => ?_)
  · refine s_blk C 22 1 [0, 1, 2, 3] (pc' := 40) (lv' := [(0, .inr (.inl (some a0))), (1, .inl x1), (2, .inr (.inl v5)), (3, .inr (.inl v10))]) (st' := [.inr (.inl v5)]) rfl ?_
    refine s_RI (CE_EM _ _ _ _ _ _) (st := []) (fun o ho => j_callS (As := [.inr (.inl v5)]) (st := []) C 23 rfl mf_Hb_isObject ml_X11_87 rfl (by decide) (by decide) (Nat.le_refl _) rfl (cHb_isObject (CX_tr C) σ M n v5 o ho)) (fun v13 => ?_)
    refine s_ieq C 24 rfl (fun _ => ?_) (fun _ => ?_)
    · refine s_blk C 0 0 [0, 1] (pc' := 75) (lv' := [(0, .inr (.inl (some a0))), (1, .inl x1)]) (st' := []) rfl ?_
      exact wHb_areAlike_j75 C htab a0 k2 H2 _
    refine s_blk C 25 1 [0, 1, 2, 3] (pc' := 47) (lv' := [(0, .inr (.inl (some a0))), (1, .inl x1), (2, .inr (.inl v5)), (3, .inr (.inl v10))]) (st' := [.inr (.inl v10)]) rfl ?_
    refine s_RI (CE_EM _ _ _ _ _ _) (st := []) (fun o ho => j_callS (As := [.inr (.inl v10)]) (st := []) C 26 rfl mf_Hb_isObject ml_X11_87 rfl (by decide) (by decide) (Nat.le_refl _) rfl (cHb_isObject (CX_tr C) σ M n v10 o ho)) (fun v14 => ?_)
    refine s_ieq C 27 rfl (fun _ => ?_) (fun _ => ?_)
    · refine s_blk C 0 0 [0, 1] (pc' := 75) (lv' := [(0, .inr (.inl (some a0))), (1, .inl x1)]) (st' := []) rfl ?_
      exact wHb_areAlike_j75 C htab a0 k2 H2 _
    refine s_blk C 28 1 [0, 1, 3] (pc' := 54) (lv' := [(0, .inr (.inl (some a0))), (1, .inl x1), (3, .inr (.inl v10))]) (st' := [.inr (.inl v5)]) rfl ?_
    refine s_gR C 29 rfl fl_X11_196 rfl rfl (fun v15 => ?_)
    refine s_gR C 30 rfl fl_X11_200 rfl rfl (fun v16 => ?_)
    refine s_blk C 31 1 [0, 1] (pc' := 61) (lv' := [(0, .inr (.inl (some a0))), (1, .inl x1)]) (st' := [.inr (.inl v10), .inr (.inl v16)]) rfl ?_
    refine s_gR C 32 rfl fl_X11_196 rfl rfl (fun v17 => ?_)
    refine s_gR C 33 rfl fl_X11_200 rfl rfl (fun v18 => ?_)
    refine s_rk (fun a19 ha20 hk21 => ?_)
    subst ha20
    refine s_RI (CE_EM _ _ _ _ _ _) (st := []) (fun o ho => j_callV (As := [.inr (.inl v18)]) (st := []) (b := a19) C 34 rfl mf_Bytes_isSame ml_X11_276 rfl (recv_K C (by decide) (by decide) rfl hk21) (by decide) (by decide) (Nat.le_refl _) rfl (cBytes_isSame (CX_tr C) σ M n a19 v18 o ho)) (fun v22 => ?_)
    refine s_ine C 35 rfl (fun _ => ?_) (fun _ => ?_)
    · refine s_blk C 36 1 [] (pc' := 74) (lv' := []) (st' := [.inl 0]) rfl ?_
      exact s_zret C 37 rfl rfl
    exact wHb_areAlike_j75 C htab a0 k2 H2 _
  refine s_blk C 20 1 [] (pc' := 38) (lv' := []) (st' := [.inl 0]) rfl ?_
  exact s_zret C 21 rfl rfl
def fHb_areAlike_l2 (a0 : Nat) (fu : Nat) : Int32 → Mm → Option (Int32) := Nat.rec (fun x1 M => none) (fun _ k => fHb_areAlike_b2 a0 k) fu
theorem wHb_areAlike_l2 {X : MC} {G : GE} {n0 : Nat} (C : CX X G RX11 cX11_areAlike pHb_areAlike 4 (some .boolean) n0) (htab : ∀ z ∈ X.2.2.2.2.2.2.2.2.exceptionTable.toList, False) {σ : Sg} {M : Mm} {n : Nat} (a0 : Nat) : ∀ (fu : Nat) (x1 : Int32), JS X G 4 300 0 n0 (EM X G n0 6 300 (eR rvI σ M n)) (fHb_areAlike_l2 a0 fu x1 M) (σ, M, n) 2 [(0, .inr (.inl (some a0))), (1, .inl x1)] [] := by
  intro fu
  induction fu with
  | zero => intro x1; exact s_none
  | succ fu ih => intro x1; exact wHb_areAlike_b2 C htab a0 (fHb_areAlike_l2 a0 fu) ih _
def fHb_areAlike (a0 : Nat) (M : Mm) : Option (Int32) :=
  fHb_areAlike_l2 a0 FU 1 M
theorem wHb_areAlike {X : MC} {G : GE} {n0 : Nat} (C : CX X G RX11 cX11_areAlike pHb_areAlike 4 (some .boolean) n0) (htab : ∀ z ∈ X.2.2.2.2.2.2.2.2.exceptionTable.toList, False) {σ : Sg} {M : Mm} {n : Nat} (a0 : Nat) : JS X G 4 300 0 n0 (EM X G n0 6 300 (eR rvI σ M n)) (fHb_areAlike a0 M) (σ, M, n) 0 [(0, .inr (.inl (some a0)))] [] := by
  unfold fHb_areAlike
  refine s_blk C 0 2 [0, 1] (pc' := 2) (lv' := [(0, .inr (.inl (some a0))), (1, .inl 1)]) (st' := []) rfl ?_
  exact wHb_areAlike_l2 C htab a0 FU _
theorem cHb_areAlike {l : Launch} {G : GE} (htr : l.stackTraces = false) (σ : Sg) (M : Mm) (n : Nat) (a0 : Nat) : ∀ o, fHb_areAlike a0 M = some o → MetX l G yX11_areAlike cX11_areAlike 4 (some .boolean) 6 300 [.inr (.inl (some a0))] (σ, M, n) ((eR rvI σ M n) o) :=
  c_ofX (by decide) kHb_areAlike htr rfl rfl fun X _ _ C htab => wHb_areAlike C htab a0
def pVersion_isCold : List BR := [(0, .aload_n 0, 1, 0, 1), (1, .getfield 26, 3, 0, 4), (4, .iconst 2, 1, 2, 5), (5, .if_icmp .ne (7), 3, 0, 12), (8, .iconst 1, 1, 1, 9), (9, .goto (4), 3, 0, 13), (12, .iconst 0, 1, 0, 13), (13, .ireturn, 1, 0, 14)]
theorem kVersion_isCold : bOK cX10_isCold 1 pVersion_isCold = true := by decide +kernel
def fVersion_isCold (a0 : Nat) (M : Mm) : Option (Int32) :=
  fgI 10 1002 (some a0) M fun v1 =>
  if v1 = 2 then
    rZ 1 (some 1)
  else
    rZ 0 (some 0)
theorem wVersion_isCold {X : MC} {G : GE} {n0 : Nat} (C : CX X G RX10 cX10_isCold pVersion_isCold 1 (some .boolean) n0) (htab : ∀ z ∈ X.2.2.2.2.2.2.2.2.exceptionTable.toList, False) {σ : Sg} {M : Mm} {n : Nat} (a0 : Nat) : JS X G 1 300 0 n0 (EM X G n0 2 300 (eR rvI σ M n)) (fVersion_isCold a0 M) (σ, M, n) 0 [(0, .inr (.inl (some a0)))] [] := by
  unfold fVersion_isCold
  refine s_blk C 0 1 [] (pc' := 1) (lv' := []) (st' := [.inr (.inl (some a0))]) rfl ?_
  refine s_gI C 1 rfl fl_X10_26 rfl rfl (fun v1 => ?_)
  refine s_blk C 2 1 [] (pc' := 5) (lv' := []) (st' := [.inl 2, .inl v1]) rfl ?_
  refine s_icne C 3 rfl (fun _ => ?_) (fun _ => ?_)
  · refine s_blk C 4 2 [] (pc' := 13) (lv' := []) (st' := [.inl 1]) rfl ?_
    exact s_zret C 7 rfl rfl
  refine s_blk C 6 1 [] (pc' := 13) (lv' := []) (st' := [.inl 0]) rfl ?_
  exact s_zret C 7 rfl rfl
theorem cVersion_isCold {l : Launch} {G : GE} (htr : l.stackTraces = false) (σ : Sg) (M : Mm) (n : Nat) (a0 : Nat) : ∀ o, fVersion_isCold a0 M = some o → MetX l G yX10_isCold cX10_isCold 1 (some .boolean) 2 300 [.inr (.inl (some a0))] (σ, M, n) ((eR rvI σ M n) o) :=
  c_ofX (by decide) kVersion_isCold htr rfl rfl fun X _ _ C htab => wVersion_isCold C htab a0
def pVersion_opensOn : List BR := [(0, .aload_n 0, 1, 0, 1), (1, .getfield 15, 3, 0, 4), (4, .iconst 2, 1, 2, 5), (5, .iadd, 1, 0, 6), (6, .ireturn, 1, 0, 7)]
theorem kVersion_opensOn : bOK cX10_opensOn 1 pVersion_opensOn = true := by decide +kernel
def fVersion_opensOn (a0 : Nat) (M : Mm) : Option (Int32) :=
  fgI 10 1004 (some a0) M fun v1 =>
  some (v1 + 2)
theorem wVersion_opensOn {X : MC} {G : GE} {n0 : Nat} (C : CX X G RX10 cX10_opensOn pVersion_opensOn 1 (some .int) n0) (htab : ∀ z ∈ X.2.2.2.2.2.2.2.2.exceptionTable.toList, False) {σ : Sg} {M : Mm} {n : Nat} (a0 : Nat) : JS X G 1 300 0 n0 (EM X G n0 2 300 (eR rvI σ M n)) (fVersion_opensOn a0 M) (σ, M, n) 0 [(0, .inr (.inl (some a0)))] [] := by
  unfold fVersion_opensOn
  refine s_blk C 0 1 [] (pc' := 1) (lv' := []) (st' := [.inr (.inl (some a0))]) rfl ?_
  refine s_gI C 1 rfl fl_X10_15 rfl rfl (fun v1 => ?_)
  refine s_blk C 2 2 [] (pc' := 6) (lv' := []) (st' := [.inl (v1 + 2)]) rfl ?_
  exact s_iret C 4 rfl rfl
theorem cVersion_opensOn {l : Launch} {G : GE} (htr : l.stackTraces = false) (σ : Sg) (M : Mm) (n : Nat) (a0 : Nat) : ∀ o, fVersion_opensOn a0 M = some o → MetX l G yX10_opensOn cX10_opensOn 1 (some .int) 2 300 [.inr (.inl (some a0))] (σ, M, n) ((eR rvI σ M n) o) :=
  c_ofX (by decide) kVersion_opensOn htr rfl rfl fun X _ _ C htab => wVersion_opensOn C htab a0
def pVersion_isAskedFor : List BR := [(0, .aload_n 0, 1, 0, 1), (1, .getfield 15, 3, 0, 4), (4, .iconst (-1), 1, -1, 5), (5, .if_icmp .eq (17), 3, 0, 22), (8, .iload_n 1, 1, 0, 9), (9, .aload_n 0, 1, 0, 10), (10, .invokevirtual 29, 3, 0, 13), (13, .iconst 3, 1, 3, 14), (14, .iadd, 1, 0, 15), (15, .if_icmp .ge (7), 3, 0, 22), (18, .iconst 1, 1, 1, 19), (19, .goto (4), 3, 0, 23), (22, .iconst 0, 1, 0, 23), (23, .ireturn, 1, 0, 24)]
theorem kVersion_isAskedFor : bOK cX10_isAskedFor 2 pVersion_isAskedFor = true := by decide +kernel
def fVersion_isAskedFor (a0 : Nat) (x1 : Int32) (M : Mm) : Option (Int32) :=
  fgI 10 1004 (some a0) M fun v1 =>
  if v1 = (-1) then
    rZ 0 (some 0)
  else
    rk 10 (some a0) M fun _ =>
    bdR (fVersion_opensOn a0 M) fun v3 =>
    if (v3 + 3) ≤ x1 then
      rZ 0 (some 0)
    else
      rZ 1 (some 1)
theorem wVersion_isAskedFor {X : MC} {G : GE} {n0 : Nat} (C : CX X G RX10 cX10_isAskedFor pVersion_isAskedFor 2 (some .boolean) n0) (htab : ∀ z ∈ X.2.2.2.2.2.2.2.2.exceptionTable.toList, False) {σ : Sg} {M : Mm} {n : Nat} (a0 : Nat) (x1 : Int32) : JS X G 2 300 0 n0 (EM X G n0 3 300 (eR rvI σ M n)) (fVersion_isAskedFor a0 x1 M) (σ, M, n) 0 [(0, .inr (.inl (some a0))), (1, .inl x1)] [] := by
  unfold fVersion_isAskedFor
  refine s_blk C 0 1 [0, 1] (pc' := 1) (lv' := [(0, .inr (.inl (some a0))), (1, .inl x1)]) (st' := [.inr (.inl (some a0))]) rfl ?_
  refine s_gI C 1 rfl fl_X10_15 rfl rfl (fun v1 => ?_)
  refine s_blk C 2 1 [0, 1] (pc' := 5) (lv' := [(0, .inr (.inl (some a0))), (1, .inl x1)]) (st' := [.inl (-1), .inl v1]) rfl ?_
  refine s_iceq C 3 rfl (fun _ => ?_) (fun _ => ?_)
  · refine s_blk C 12 1 [] (pc' := 23) (lv' := []) (st' := [.inl 0]) rfl ?_
    exact s_zret C 13 rfl rfl
  refine s_blk C 4 2 [] (pc' := 10) (lv' := []) (st' := [.inr (.inl (some a0)), .inl x1]) rfl ?_
  refine s_rks (fun hk2 => ?_)
  refine s_RI (CE_EM _ _ _ _ _ _) (st := [.inl x1]) (fun o ho => j_callV (As := []) (st := [.inl x1]) (b := a0) C 6 rfl mf_Version_opensOn ml_X10_29 rfl (recv_K C (by decide) (by decide) rfl hk2) (by decide) (by decide) (Nat.le_refl _) rfl (cVersion_opensOn (CX_tr C) σ M n a0 o ho)) (fun v3 => ?_)
  refine s_blk C 7 2 [] (pc' := 15) (lv' := []) (st' := [.inl (v3 + 3), .inl x1]) rfl ?_
  refine s_icge C 9 rfl (fun _ => ?_) (fun _ => ?_)
  · refine s_blk C 12 1 [] (pc' := 23) (lv' := []) (st' := [.inl 0]) rfl ?_
    exact s_zret C 13 rfl rfl
  refine s_blk C 10 2 [] (pc' := 23) (lv' := []) (st' := [.inl 1]) rfl ?_
  exact s_zret C 13 rfl rfl
theorem cVersion_isAskedFor {l : Launch} {G : GE} (htr : l.stackTraces = false) (σ : Sg) (M : Mm) (n : Nat) (a0 : Nat) (x1 : Int32) : ∀ o, fVersion_isAskedFor a0 x1 M = some o → MetX l G yX10_isAskedFor cX10_isAskedFor 2 (some .boolean) 3 300 [.inr (.inl (some a0)), .inl x1] (σ, M, n) ((eR rvI σ M n) o) :=
  c_ofX (by decide) kVersion_isAskedFor htr rfl rfl fun X _ _ C htab => wVersion_isAskedFor C htab a0 x1
def pHb_checkState : List BR := [(0, .iload_n 0, 1, 0, 1), (1, .ifCond .ne (14), 3, 0, 15), (4, .new 298, 3, 0, 7), (7, .dup, 1, 0, 8), (8, .ldc_w 300, 3, 0, 11), (11, .invokespecial 302, 3, 0, 14), (14, .athrow, 1, 0, 15), (15, .return_, 1, 0, 16)]
theorem kHb_checkState : bOK cX11_checkState 1 pHb_checkState = true := by decide +kernel
def fHb_checkState (x0 : Int32) (M : Mm) (n : Nat) : Option ((Unit ⊕ Nat) × Mm × Nat) :=
  if x0 = 0 then
    some (.inr 2, M, n + 1)
  else
    some (.inl (), M, n)
theorem wHb_checkState {X : MC} {G : GE} {n0 : Nat} (C : CX X G RX11 cX11_checkState pHb_checkState 1 none n0) (htab : ∀ z ∈ X.2.2.2.2.2.2.2.2.exceptionTable.toList, False) {σ : Sg} (x0 : Int32) (M : Mm) (n : Nat) : JS X G 1 300 0 n0 (EM X G n0 6 300 (eC rvU σ)) (fHb_checkState x0 M n) (σ, M, n) 0 [(0, .inl x0)] [] := by
  unfold fHb_checkState
  refine s_blk C 0 1 [] (pc' := 1) (lv' := []) (st' := [.inl x0]) rfl ?_
  refine s_ine C 1 rfl (fun _ => ?_) (fun _ => ?_)
  · exact s_thr C htab th_300 2 rfl rfl rfl rfl rfl (by decide) (by decide) rfl
  exact s_vret C 7 rfl rfl
theorem cHb_checkState {l : Launch} {G : GE} (htr : l.stackTraces = false) (σ : Sg) (M : Mm) (n : Nat) (x0 : Int32) : ∀ o, fHb_checkState x0 M n = some o → MetX l G yX11_checkState cX11_checkState 1 none 6 300 [.inl x0] (σ, M, n) ((eC rvU σ) o) :=
  c_ofX (by decide) kHb_checkState htr rfl rfl fun X _ _ C htab => wHb_checkState C htab x0 _ _
def pHb_ask : List BR := [(0, .aload_n 0, 1, 0, 1), (1, .iload_n 1, 1, 0, 2), (2, .invokevirtual 65, 3, 0, 5), (5, .iload_n 2, 1, 0, 6), (6, .iload_n 3, 1, 0, 7), (7, .invokestatic 91, 3, 0, 10), (10, .astore 4, 2, 0, 12), (12, .aload 4, 2, 0, 14), (14, .invokevirtual 122, 3, 0, 17), (17, .ifCond .eq (19), 3, 0, 36), (20, .aload 4, 2, 0, 22), (22, .aload_n 0, 1, 0, 23), (23, .getfield 95, 3, 0, 26), (26, .invokevirtual 126, 3, 0, 29), (29, .ifCond .ne (7), 3, 0, 36), (32, .iconst 1, 1, 1, 33), (33, .goto (4), 3, 0, 37), (36, .iconst 0, 1, 0, 37), (37, .invokestatic 54, 3, 0, 40), (40, .aload 4, 2, 0, 42), (42, .aload_n 0, 1, 0, 43), (43, .getfield 95, 3, 0, 46), (46, .putfield 129, 3, 0, 49), (49, .aload 4, 2, 0, 51), (51, .invokevirtual 132, 3, 0, 54), (54, .ireturn, 1, 0, 55)]
theorem kHb_ask : bOK cX11_ask 5 pHb_ask = true := by decide +kernel
def fHb_ask_j37 (a0 : Nat) (r4 : Option Nat) (s0 : Int32) (M : Mm) (n : Nat) : Option ((Int32 ⊕ Nat) × Mm × Nat) :=
  bdC (fHb_checkState s0 M n) n fun v1 M2 n3 =>
  fgI 11 1109 (some a0) M2 fun v4 =>
  fpI 10 1004 r4 v4 M2 fun M5 =>
  rk 10 r4 M5 fun a6 =>
  bdR (fVersion_opensOn a6 M5) fun v9 =>
  some (.inl v9, M5, n3)
theorem wHb_ask_j37 {X : MC} {G : GE} {n0 : Nat} (C : CX X G RX11 cX11_ask pHb_ask 5 (some .int) n0) (htab : ∀ z ∈ X.2.2.2.2.2.2.2.2.exceptionTable.toList, False) {σ : Sg} (a0 : Nat) (r4 : Option Nat) (s0 : Int32) (M : Mm) (n : Nat) : JS X G 5 300 0 n0 (EM X G n0 8 300 (eC rvI σ)) (fHb_ask_j37 a0 r4 s0 M n) (σ, M, n) 37 [(0, .inr (.inl (some a0))), (4, .inr (.inl r4))] [.inl s0] := by
  unfold fHb_ask_j37
  refine s_CU C htab (st := []) (fun o ho => j_callS (As := [.inl s0]) (st := []) C 18 rfl mf_Hb_checkState ml_X11_54 rfl (by decide) (by decide) (Nat.le_refl _) rfl (cHb_checkState (CX_tr C) σ M n s0 o ho)) (fun v1 M2 n3 _ => ?_)
  refine s_blk C 19 2 [4] (pc' := 43) (lv' := [(4, .inr (.inl r4))]) (st' := [.inr (.inl (some a0)), .inr (.inl r4)]) rfl ?_
  refine s_gI C 21 rfl fl_X11_95 rfl rfl (fun v4 => ?_)
  refine s_pI C 22 rfl fl_X11_129 fp_X11_10_4 (fun h => Bool.noConfusion h) rfl rfl (fun M5 _ => ?_)
  refine s_blk C 23 1 [] (pc' := 51) (lv' := []) (st' := [.inr (.inl r4)]) rfl ?_
  refine s_rk (fun a6 ha7 hk8 => ?_)
  subst ha7
  refine s_RI (CE_EM _ _ _ _ _ _) (st := []) (fun o ho => j_callV (As := []) (st := []) (b := a6) C 24 rfl mf_Version_opensOn ml_X11_132 rfl (recv_K C (by decide) (by decide) rfl hk8) (by decide) (by decide) (Nat.le_refl _) rfl (cVersion_opensOn (CX_tr C) σ M5 n3 a6 o ho)) (fun v9 => ?_)
  exact s_iret C 25 rfl rfl
def fHb_ask_j36 (a0 : Nat) (r4 : Option Nat) (M : Mm) (n : Nat) : Option ((Int32 ⊕ Nat) × Mm × Nat) :=
  fHb_ask_j37 a0 r4 0 M n
theorem wHb_ask_j36 {X : MC} {G : GE} {n0 : Nat} (C : CX X G RX11 cX11_ask pHb_ask 5 (some .int) n0) (htab : ∀ z ∈ X.2.2.2.2.2.2.2.2.exceptionTable.toList, False) {σ : Sg} (a0 : Nat) (r4 : Option Nat) (M : Mm) (n : Nat) : JS X G 5 300 0 n0 (EM X G n0 8 300 (eC rvI σ)) (fHb_ask_j36 a0 r4 M n) (σ, M, n) 36 [(0, .inr (.inl (some a0))), (4, .inr (.inl r4))] [] := by
  unfold fHb_ask_j36
  refine s_blk C 17 1 [0, 4] (pc' := 37) (lv' := [(0, .inr (.inl (some a0))), (4, .inr (.inl r4))]) (st' := [.inl 0]) rfl ?_
  exact wHb_ask_j37 C htab a0 _ _ _ _
def fHb_ask (a0 : Nat) (x1 : Int32) (x2 : Int32) (x3 : Int32) (M : Mm) (n : Nat) : Option ((Int32 ⊕ Nat) × Mm × Nat) :=
  rk 11 (some a0) M fun _ =>
  bdC (fHb_regionOf a0 x1 M n) n fun v2 M3 n4 =>
  bdC (fHb_versionOf v2 x2 x3 M3 n4) n4 fun v5 M6 n7 =>
  rk 10 v5 M6 fun a8 =>
  bdR (fVersion_isCold a8 M6) fun v11 =>
  if v11 = 0 then
    fHb_ask_j36 a0 v5 M6 n7
  else
    fgI 11 1109 (some a0) M6 fun v12 =>
    rk 10 v5 M6 fun a14 =>
    bdR (fVersion_isAskedFor a14 v12 M6) fun v15 =>
    if v15 = 0 then
      fHb_ask_j37 a0 v5 1 M6 n7
    else
      fHb_ask_j36 a0 v5 M6 n7
theorem wHb_ask {X : MC} {G : GE} {n0 : Nat} (C : CX X G RX11 cX11_ask pHb_ask 5 (some .int) n0) (htab : ∀ z ∈ X.2.2.2.2.2.2.2.2.exceptionTable.toList, False) {σ : Sg} (a0 : Nat) (x1 : Int32) (x2 : Int32) (x3 : Int32) (M : Mm) (n : Nat) : JS X G 5 300 0 n0 (EM X G n0 8 300 (eC rvI σ)) (fHb_ask a0 x1 x2 x3 M n) (σ, M, n) 0 [(0, .inr (.inl (some a0))), (1, .inl x1), (2, .inl x2), (3, .inl x3)] [] := by
  unfold fHb_ask
  refine s_blk C 0 2 [0, 2, 3] (pc' := 2) (lv' := [(0, .inr (.inl (some a0))), (2, .inl x2), (3, .inl x3)]) (st' := [.inl x1, .inr (.inl (some a0))]) rfl ?_
  refine s_rks (fun hk1 => ?_)
  refine s_CR C htab (st := []) (fun o ho => j_callV (As := [.inl x1]) (st := []) (b := a0) C 2 rfl mf_Hb_regionOf ml_X11_65 rfl (recv_K C (by decide) (by decide) rfl hk1) (by decide) (by decide) (Nat.le_refl _) rfl (cHb_regionOf (CX_tr C) σ M n a0 x1 o ho)) (fun v2 M3 n4 _ => ?_)
  refine s_blk C 3 2 [0] (pc' := 7) (lv' := [(0, .inr (.inl (some a0)))]) (st' := [.inl x3, .inl x2, .inr (.inl v2)]) rfl ?_
  refine s_CR C htab (st := []) (fun o ho => j_callS (As := [.inr (.inl v2), .inl x2, .inl x3]) (st := []) C 5 rfl mf_Hb_versionOf ml_X11_91 rfl (by decide) (by decide) (Nat.le_refl _) rfl (cHb_versionOf (CX_tr C) σ M3 n4 v2 x2 x3 o ho)) (fun v5 M6 n7 _ => ?_)
  refine s_blk C 6 2 [0, 4] (pc' := 14) (lv' := [(0, .inr (.inl (some a0))), (4, .inr (.inl v5))]) (st' := [.inr (.inl v5)]) rfl ?_
  refine s_rk (fun a8 ha9 hk10 => ?_)
  subst ha9
  refine s_RI (CE_EM _ _ _ _ _ _) (st := []) (fun o ho => j_callV (As := []) (st := []) (b := a8) C 8 rfl mf_Version_isCold ml_X11_122 rfl (recv_K C (by decide) (by decide) rfl hk10) (by decide) (by decide) (Nat.le_refl _) rfl (cVersion_isCold (CX_tr C) σ M6 n7 a8 o ho)) (fun v11 => ?_)
  refine s_ieq C 9 rfl (fun _ => ?_) (fun _ => ?_)
  · exact wHb_ask_j36 C htab a0 _ _ _
  refine s_blk C 10 2 [0, 4] (pc' := 23) (lv' := [(0, .inr (.inl (some a0))), (4, .inr (.inl (some a8)))]) (st' := [.inr (.inl (some a0)), .inr (.inl (some a8))]) rfl ?_
  refine s_gI C 12 rfl fl_X11_95 rfl rfl (fun v12 => ?_)
  refine s_rks (fun hk13 => ?_)
  refine s_RI (CE_EM _ _ _ _ _ _) (st := []) (fun o ho => j_callV (As := [.inl v12]) (st := []) (b := a8) C 13 rfl mf_Version_isAskedFor ml_X11_126 rfl (recv_K C (by decide) (by decide) rfl hk13) (by decide) (by decide) (Nat.le_refl _) rfl (cVersion_isAskedFor (CX_tr C) σ M6 n7 a8 v12 o ho)) (fun v15 => ?_)
  refine s_ine C 14 rfl (fun _ => ?_) (fun _ => ?_)
  · refine s_blk C 15 2 [0, 4] (pc' := 37) (lv' := [(0, .inr (.inl (some a0))), (4, .inr (.inl (some a8)))]) (st' := [.inl 1]) rfl ?_
    exact wHb_ask_j37 C htab a0 _ _ _ _
  exact wHb_ask_j36 C htab a0 _ _ _
theorem cHb_ask {l : Launch} {G : GE} (htr : l.stackTraces = false) (σ : Sg) (M : Mm) (n : Nat) (a0 : Nat) (x1 : Int32) (x2 : Int32) (x3 : Int32) : ∀ o, fHb_ask a0 x1 x2 x3 M n = some o → MetX l G yX11_ask cX11_ask 5 (some .int) 8 300 [.inr (.inl (some a0)), .inl x1, .inl x2, .inl x3] (σ, M, n) ((eC rvI σ) o) :=
  c_ofX (by decide) kHb_ask htr rfl rfl fun X _ _ C htab => wHb_ask C htab a0 x1 x2 x3 _ _
def pKeys_begins : List BR := [(0, .iload_n 1, 1, 0, 1), (1, .ifCond .eq (23), 3, 0, 24), (4, .iload_n 0, 1, 0, 5), (5, .iload_n 1, 1, 0, 6), (6, .if_icmp .eq (18), 3, 0, 24), (9, .iload_n 0, 1, 0, 10), (10, .iconst 5, 1, 5, 11), (11, .idiv, 1, 0, 12), (12, .iload_n 1, 1, 0, 13), (13, .if_icmp .eq (11), 3, 0, 24), (16, .iload_n 0, 1, 0, 17), (17, .bipush 25, 2, 25, 19), (19, .idiv, 1, 0, 20), (20, .iload_n 1, 1, 0, 21), (21, .if_icmp .ne (7), 3, 0, 28), (24, .iconst 1, 1, 1, 25), (25, .goto (4), 3, 0, 29), (28, .iconst 0, 1, 0, 29), (29, .ireturn, 1, 0, 30)]
theorem kKeys_begins : bOK cX4_begins 2 pKeys_begins = true := by decide +kernel
def fKeys_begins_j24 : Option (Int32) :=
  rZ 1 (some 1)
theorem wKeys_begins_j24 {X : MC} {G : GE} {n0 : Nat} (C : CX X G RX4 cX4_begins pKeys_begins 2 (some .boolean) n0) (htab : ∀ z ∈ X.2.2.2.2.2.2.2.2.exceptionTable.toList, False) {σ : Sg} {M : Mm} {n : Nat} : JS X G 2 300 0 n0 (EM X G n0 2 300 (eR rvI σ M n)) (fKeys_begins_j24) (σ, M, n) 24 [] [] := by
  unfold fKeys_begins_j24
  refine s_blk C 15 2 [] (pc' := 29) (lv' := []) (st' := [.inl 1]) rfl ?_
  exact s_zret C 18 rfl rfl
def fKeys_begins (x0 : Int32) (x1 : Int32) : Option (Int32) :=
  if x1 = 0 then
    fKeys_begins_j24
  else
    if x0 = x1 then
      fKeys_begins_j24
    else
      if (x0 / 5) = x1 then
        fKeys_begins_j24
      else
        if (x0 / 25) = x1 then
          fKeys_begins_j24
        else
          rZ 0 (some 0)
theorem wKeys_begins {X : MC} {G : GE} {n0 : Nat} (C : CX X G RX4 cX4_begins pKeys_begins 2 (some .boolean) n0) (htab : ∀ z ∈ X.2.2.2.2.2.2.2.2.exceptionTable.toList, False) {σ : Sg} {M : Mm} {n : Nat} (x0 : Int32) (x1 : Int32) : JS X G 2 300 0 n0 (EM X G n0 2 300 (eR rvI σ M n)) (fKeys_begins x0 x1) (σ, M, n) 0 [(0, .inl x0), (1, .inl x1)] [] := by
  unfold fKeys_begins
  refine s_blk C 0 1 [0, 1] (pc' := 1) (lv' := [(0, .inl x0), (1, .inl x1)]) (st' := [.inl x1]) rfl ?_
  refine s_ieq C 1 rfl (fun _ => ?_) (fun _ => ?_)
  · refine s_blk C 0 0 [] (pc' := 24) (lv' := []) (st' := []) rfl ?_
    exact wKeys_begins_j24 C htab
  refine s_blk C 2 2 [0, 1] (pc' := 6) (lv' := [(0, .inl x0), (1, .inl x1)]) (st' := [.inl x1, .inl x0]) rfl ?_
  refine s_iceq C 4 rfl (fun _ => ?_) (fun _ => ?_)
  · refine s_blk C 0 0 [] (pc' := 24) (lv' := []) (st' := []) rfl ?_
    exact wKeys_begins_j24 C htab
  refine s_blk C 5 2 [0, 1] (pc' := 11) (lv' := [(0, .inl x0), (1, .inl x1)]) (st' := [.inl 5, .inl x0]) rfl ?_
  refine s_idiv C 7 rfl (by decide) ?_
  refine s_blk C 8 1 [0, 1] (pc' := 13) (lv' := [(0, .inl x0), (1, .inl x1)]) (st' := [.inl x1, .inl (x0 / 5)]) rfl ?_
  refine s_iceq C 9 rfl (fun _ => ?_) (fun _ => ?_)
  · refine s_blk C 0 0 [] (pc' := 24) (lv' := []) (st' := []) rfl ?_
    exact wKeys_begins_j24 C htab
  refine s_blk C 10 2 [1] (pc' := 19) (lv' := [(1, .inl x1)]) (st' := [.inl 25, .inl x0]) rfl ?_
  refine s_idiv C 12 rfl (by decide) ?_
  refine s_blk C 13 1 [] (pc' := 21) (lv' := []) (st' := [.inl x1, .inl (x0 / 25)]) rfl ?_
  refine s_icne C 14 rfl (fun _ => ?_) (fun _ => ?_)
  · exact wKeys_begins_j24 C htab
  refine s_blk C 17 1 [] (pc' := 29) (lv' := []) (st' := [.inl 0]) rfl ?_
  exact s_zret C 18 rfl rfl
theorem cKeys_begins {l : Launch} {G : GE} (htr : l.stackTraces = false) (σ : Sg) (M : Mm) (n : Nat) (x0 : Int32) (x1 : Int32) : ∀ o, fKeys_begins x0 x1 = some o → MetX l G yX4_begins cX4_begins 2 (some .boolean) 2 300 [.inl x0, .inl x1] (σ, M, n) ((eR rvI σ M n) o) :=
  c_ofX (by decide) kKeys_begins htr rfl rfl fun X _ _ C htab => wKeys_begins C htab x0 x1
def pRule_isFor : List BR := [(0, .aload_n 1, 1, 0, 1), (1, .getfield 19, 3, 0, 4), (4, .aload_n 0, 1, 0, 5), (5, .getfield 7, 3, 0, 8), (8, .invokestatic 24, 3, 0, 11), (11, .ifCond .eq (20), 3, 0, 31), (14, .iload_n 2, 1, 0, 15), (15, .aload_n 1, 1, 0, 16), (16, .getfield 30, 3, 0, 19), (19, .isub, 1, 0, 20), (20, .aload_n 0, 1, 0, 21), (21, .getfield 13, 3, 0, 24), (24, .if_icmp .lt (7), 3, 0, 31), (27, .iconst 1, 1, 1, 28), (28, .goto (4), 3, 0, 32), (31, .iconst 0, 1, 0, 32), (32, .ireturn, 1, 0, 33)]
theorem kRule_isFor : bOK cX7_isFor 3 pRule_isFor = true := by decide +kernel
def fRule_isFor (a0 : Nat) (r1 : Option Nat) (x2 : Int32) (M : Mm) : Option (Int32) :=
  fgI 4 400 r1 M fun v1 =>
  fgI 7 700 (some a0) M fun v2 =>
  bdR (fKeys_begins v1 v2) fun v3 =>
  if v3 = 0 then
    rZ 0 (some 0)
  else
    fgI 4 402 r1 M fun v4 =>
    fgI 7 701 (some a0) M fun v5 =>
    if (x2 - v4) < v5 then
      rZ 0 (some 0)
    else
      rZ 1 (some 1)
theorem wRule_isFor {X : MC} {G : GE} {n0 : Nat} (C : CX X G RX7 cX7_isFor pRule_isFor 3 (some .boolean) n0) (htab : ∀ z ∈ X.2.2.2.2.2.2.2.2.exceptionTable.toList, False) {σ : Sg} {M : Mm} {n : Nat} (a0 : Nat) (r1 : Option Nat) (x2 : Int32) : JS X G 3 300 0 n0 (EM X G n0 3 300 (eR rvI σ M n)) (fRule_isFor a0 r1 x2 M) (σ, M, n) 0 [(0, .inr (.inl (some a0))), (1, .inr (.inl r1)), (2, .inl x2)] [] := by
  unfold fRule_isFor
  refine s_blk C 0 1 [0, 1, 2] (pc' := 1) (lv' := [(0, .inr (.inl (some a0))), (1, .inr (.inl r1)), (2, .inl x2)]) (st' := [.inr (.inl r1)]) rfl ?_
  refine s_gI C 1 rfl fl_X7_19 rfl rfl (fun v1 => ?_)
  refine s_blk C 2 1 [0, 1, 2] (pc' := 5) (lv' := [(0, .inr (.inl (some a0))), (1, .inr (.inl r1)), (2, .inl x2)]) (st' := [.inr (.inl (some a0)), .inl v1]) rfl ?_
  refine s_gI C 3 rfl fl_X7_7 rfl rfl (fun v2 => ?_)
  refine s_RI (CE_EM _ _ _ _ _ _) (st := []) (fun o ho => j_callS (As := [.inl v1, .inl v2]) (st := []) C 4 rfl mf_Keys_begins ml_X7_24 rfl (by decide) (by decide) (Nat.le_refl _) rfl (cKeys_begins (CX_tr C) σ M n v1 v2 o ho)) (fun v3 => ?_)
  refine s_ieq C 5 rfl (fun _ => ?_) (fun _ => ?_)
  · refine s_blk C 15 1 [] (pc' := 32) (lv' := []) (st' := [.inl 0]) rfl ?_
    exact s_zret C 16 rfl rfl
  refine s_blk C 6 2 [0] (pc' := 16) (lv' := [(0, .inr (.inl (some a0)))]) (st' := [.inr (.inl r1), .inl x2]) rfl ?_
  refine s_gI C 8 rfl fl_X7_30 rfl rfl (fun v4 => ?_)
  refine s_blk C 9 2 [] (pc' := 21) (lv' := []) (st' := [.inr (.inl (some a0)), .inl (x2 - v4)]) rfl ?_
  refine s_gI C 11 rfl fl_X7_13 rfl rfl (fun v5 => ?_)
  refine s_iclt C 12 rfl (fun _ => ?_) (fun _ => ?_)
  · refine s_blk C 15 1 [] (pc' := 32) (lv' := []) (st' := [.inl 0]) rfl ?_
    exact s_zret C 16 rfl rfl
  refine s_blk C 13 2 [] (pc' := 32) (lv' := []) (st' := [.inl 1]) rfl ?_
  exact s_zret C 16 rfl rfl
theorem cRule_isFor {l : Launch} {G : GE} (htr : l.stackTraces = false) (σ : Sg) (M : Mm) (n : Nat) (a0 : Nat) (r1 : Option Nat) (x2 : Int32) : ∀ o, fRule_isFor a0 r1 x2 M = some o → MetX l G yX7_isFor cX7_isFor 3 (some .boolean) 3 300 [.inr (.inl (some a0)), .inr (.inl r1), .inl x2] (σ, M, n) ((eR rvI σ M n) o) :=
  c_ofX (by decide) kRule_isFor htr rfl rfl fun X _ _ C htab => wRule_isFor C htab a0 r1 x2
def pVersion_isLocked : List BR := [(0, .iload_n 1, 1, 0, 1), (1, .aload_n 0, 1, 0, 2), (2, .getfield 9, 3, 0, 5), (5, .if_icmp .gt (7), 3, 0, 12), (8, .iconst 1, 1, 1, 9), (9, .goto (4), 3, 0, 13), (12, .iconst 0, 1, 0, 13), (13, .ireturn, 1, 0, 14)]
theorem kVersion_isLocked : bOK cX10_isLocked 2 pVersion_isLocked = true := by decide +kernel
def fVersion_isLocked (a0 : Nat) (x1 : Int32) (M : Mm) : Option (Int32) :=
  fgI 10 1003 (some a0) M fun v1 =>
  if v1 < x1 then
    rZ 0 (some 0)
  else
    rZ 1 (some 1)
theorem wVersion_isLocked {X : MC} {G : GE} {n0 : Nat} (C : CX X G RX10 cX10_isLocked pVersion_isLocked 2 (some .boolean) n0) (htab : ∀ z ∈ X.2.2.2.2.2.2.2.2.exceptionTable.toList, False) {σ : Sg} {M : Mm} {n : Nat} (a0 : Nat) (x1 : Int32) : JS X G 2 300 0 n0 (EM X G n0 2 300 (eR rvI σ M n)) (fVersion_isLocked a0 x1 M) (σ, M, n) 0 [(0, .inr (.inl (some a0))), (1, .inl x1)] [] := by
  unfold fVersion_isLocked
  refine s_blk C 0 2 [] (pc' := 2) (lv' := []) (st' := [.inr (.inl (some a0)), .inl x1]) rfl ?_
  refine s_gI C 2 rfl fl_X10_9 rfl rfl (fun v1 => ?_)
  refine s_icgt C 3 rfl (fun _ => ?_) (fun _ => ?_)
  · refine s_blk C 6 1 [] (pc' := 13) (lv' := []) (st' := [.inl 0]) rfl ?_
    exact s_zret C 7 rfl rfl
  refine s_blk C 4 2 [] (pc' := 13) (lv' := []) (st' := [.inl 1]) rfl ?_
  exact s_zret C 7 rfl rfl
theorem cVersion_isLocked {l : Launch} {G : GE} (htr : l.stackTraces = false) (σ : Sg) (M : Mm) (n : Nat) (a0 : Nat) (x1 : Int32) : ∀ o, fVersion_isLocked a0 x1 M = some o → MetX l G yX10_isLocked cX10_isLocked 2 (some .boolean) 2 300 [.inr (.inl (some a0)), .inl x1] (σ, M, n) ((eR rvI σ M n) o) :=
  c_ofX (by decide) kVersion_isLocked htr rfl rfl fun X _ _ C htab => wVersion_isLocked C htab a0 x1
def pStore_letGo : List BR := [(0, .iconst 0, 1, 0, 1), (1, .istore_n 2, 1, 0, 2), (2, .iload_n 2, 1, 0, 3), (3, .aload_n 1, 1, 0, 4), (4, .arraylength, 1, 0, 5), (5, .if_icmp .ge (31), 3, 0, 36), (8, .aload_n 0, 1, 0, 9), (9, .aload_n 1, 1, 0, 10), (10, .iload_n 2, 1, 0, 11), (11, .iaload, 1, 0, 12), (12, .invokevirtual 145, 3, 0, 15), (15, .astore_n 3, 1, 0, 16), (16, .aload_n 3, 1, 0, 17), (17, .ifnull (13), 3, 0, 30), (20, .aload_n 3, 1, 0, 21), (21, .dup, 1, 0, 22), (22, .getfield 112, 3, 0, 25), (25, .iconst 1, 1, 1, 26), (26, .isub, 1, 0, 27), (27, .putfield 112, 3, 0, 30), (30, .iinc 2 (1), 3, 1, 33), (33, .goto (-31), 3, 0, 2), (36, .return_, 1, 0, 37)]
theorem kStore_letGo : bOK cX8_letGo 4 pStore_letGo = true := by decide +kernel
def fStore_letGo_j30 (a0 : Nat) (k2 : Option Nat → Int32 → Mm → Option (Unit × Mm)) (r1 : Option Nat) (x2 : Int32) (M : Mm) : Option (Unit × Mm) :=
  k2 r1 (x2 + 1) M
theorem wStore_letGo_j30 {X : MC} {G : GE} {n0 : Nat} (C : CX X G RX8 cX8_letGo pStore_letGo 4 none n0) (htab : ∀ z ∈ X.2.2.2.2.2.2.2.2.exceptionTable.toList, False) {σ : Sg} {n : Nat} (a0 : Nat) (k2 : Option Nat → Int32 → Mm → Option (Unit × Mm)) (H2 : ∀ (r1 : Option Nat) (x2 : Int32) (M : Mm), JS X G 4 300 0 n0 (EM X G n0 6 300 (eW rvU σ n)) (k2 r1 x2 M) (σ, M, n) 2 [(0, .inr (.inl (some a0))), (1, .inr (.inl r1)), (2, .inl x2)] []) (r1 : Option Nat) (x2 : Int32) (M : Mm) : JS X G 4 300 0 n0 (EM X G n0 6 300 (eW rvU σ n)) (fStore_letGo_j30 a0 k2 r1 x2 M) (σ, M, n) 30 [(0, .inr (.inl (some a0))), (1, .inr (.inl r1)), (2, .inl x2)] [] := by
  unfold fStore_letGo_j30
  refine s_blk C 20 2 [0, 1, 2] (pc' := 2) (lv' := [(0, .inr (.inl (some a0))), (1, .inr (.inl r1)), (2, .inl (x2 + 1))]) (st' := []) rfl ?_
  exact H2 _ _ _
def fStore_letGo_b2 (a0 : Nat) (k2 : Option Nat → Int32 → Mm → Option (Unit × Mm)) (r1 : Option Nat) (x2 : Int32) (M : Mm) : Option (Unit × Mm) :=
  aln r1 M fun v1 =>
  if v1 ≤ x2 then
    some ((), M)
  else
    alI 21 r1 x2 M fun v2 =>
    rk 8 (some a0) M fun _ =>
    bdR (fStore_partAt a0 v2 M) fun v4 =>
    ifN v4
      (fStore_letGo_j30 a0 k2 r1 x2 M)
      (fgI 5 506 v4 M fun v5 =>
      fpI 5 506 v4 (v5 - 1) M fun M6 =>
      fStore_letGo_j30 a0 k2 r1 x2 M6)
theorem wStore_letGo_b2 {X : MC} {G : GE} {n0 : Nat} (C : CX X G RX8 cX8_letGo pStore_letGo 4 none n0) (htab : ∀ z ∈ X.2.2.2.2.2.2.2.2.exceptionTable.toList, False) {σ : Sg} {n : Nat} (a0 : Nat) (k2 : Option Nat → Int32 → Mm → Option (Unit × Mm)) (H2 : ∀ (r1 : Option Nat) (x2 : Int32) (M : Mm), JS X G 4 300 0 n0 (EM X G n0 6 300 (eW rvU σ n)) (k2 r1 x2 M) (σ, M, n) 2 [(0, .inr (.inl (some a0))), (1, .inr (.inl r1)), (2, .inl x2)] []) (r1 : Option Nat) (x2 : Int32) (M : Mm) : JS X G 4 300 0 n0 (EM X G n0 6 300 (eW rvU σ n)) (fStore_letGo_b2 a0 k2 r1 x2 M) (σ, M, n) 2 [(0, .inr (.inl (some a0))), (1, .inr (.inl r1)), (2, .inl x2)] [] := by
  unfold fStore_letGo_b2
  refine s_blk C 2 2 [0, 1, 2] (pc' := 4) (lv' := [(0, .inr (.inl (some a0))), (1, .inr (.inl r1)), (2, .inl x2)]) (st' := [.inr (.inl r1), .inl x2]) rfl ?_
  refine s_len C 4 rfl (fun v1 => ?_)
  refine s_icge C 5 rfl (fun _ => ?_) (fun _ => ?_)
  · exact s_vret C 22 rfl rfl
  refine s_blk C 6 3 [0, 1, 2] (pc' := 11) (lv' := [(0, .inr (.inl (some a0))), (1, .inr (.inl r1)), (2, .inl x2)]) (st' := [.inl x2, .inr (.inl r1), .inr (.inl (some a0))]) rfl ?_
  refine s_ldI C 9 rfl (fun v2 => ?_)
  refine s_rks (fun hk3 => ?_)
  refine s_RR (CE_EM _ _ _ _ _ _) (st := []) (fun o ho => j_callV (As := [.inl v2]) (st := []) (b := a0) C 10 rfl mf_Store_partAt ml_X8_145 rfl (recv_K C (by decide) (by decide) rfl hk3) (by decide) (by decide) (Nat.le_refl _) rfl (cStore_partAt (CX_tr C) σ M n a0 v2 o ho)) (fun v4 => ?_)
  refine s_blk C 11 2 [0, 1, 2, 3] (pc' := 17) (lv' := [(0, .inr (.inl (some a0))), (1, .inr (.inl r1)), (2, .inl x2), (3, .inr (.inl v4))]) (st' := [.inr (.inl v4)]) rfl ?_
  refine s_null C 13 rfl ?_ ?_
  · refine s_blk C 0 0 [0, 1, 2] (pc' := 30) (lv' := [(0, .inr (.inl (some a0))), (1, .inr (.inl r1)), (2, .inl x2)]) (st' := []) rfl ?_
    exact wStore_letGo_j30 C htab a0 k2 H2 _ _ _
  refine s_blk C 14 2 [0, 1, 2] (pc' := 22) (lv' := [(0, .inr (.inl (some a0))), (1, .inr (.inl r1)), (2, .inl x2)]) (st' := [.inr (.inl v4), .inr (.inl v4)]) rfl ?_
  refine s_gI C 16 rfl fl_X8_112 rfl rfl (fun v5 => ?_)
  refine s_blk C 17 2 [0, 1, 2] (pc' := 27) (lv' := [(0, .inr (.inl (some a0))), (1, .inr (.inl r1)), (2, .inl x2)]) (st' := [.inl (v5 - 1), .inr (.inl v4)]) rfl ?_
  refine s_pI C 19 rfl fl_X8_112 fp_X8_5_6 (fun h => Bool.noConfusion h) rfl rfl (fun M6 _ => ?_)
  exact wStore_letGo_j30 C htab a0 k2 H2 _ _ _
def fStore_letGo_l2 (a0 : Nat) (fu : Nat) : Option Nat → Int32 → Mm → Option (Unit × Mm) := Nat.rec (fun r1 x2 M => none) (fun _ k => fStore_letGo_b2 a0 k) fu
theorem wStore_letGo_l2 {X : MC} {G : GE} {n0 : Nat} (C : CX X G RX8 cX8_letGo pStore_letGo 4 none n0) (htab : ∀ z ∈ X.2.2.2.2.2.2.2.2.exceptionTable.toList, False) {σ : Sg} {n : Nat} (a0 : Nat) : ∀ (fu : Nat) (r1 : Option Nat) (x2 : Int32) (M : Mm), JS X G 4 300 0 n0 (EM X G n0 6 300 (eW rvU σ n)) (fStore_letGo_l2 a0 fu r1 x2 M) (σ, M, n) 2 [(0, .inr (.inl (some a0))), (1, .inr (.inl r1)), (2, .inl x2)] [] := by
  intro fu
  induction fu with
  | zero => intro r1 x2 M; exact s_none
  | succ fu ih => intro r1 x2 M; exact wStore_letGo_b2 C htab a0 (fStore_letGo_l2 a0 fu) ih _ _ _
def fStore_letGo (a0 : Nat) (r1 : Option Nat) (M : Mm) : Option (Unit × Mm) :=
  fStore_letGo_l2 a0 FU r1 0 M
theorem wStore_letGo {X : MC} {G : GE} {n0 : Nat} (C : CX X G RX8 cX8_letGo pStore_letGo 4 none n0) (htab : ∀ z ∈ X.2.2.2.2.2.2.2.2.exceptionTable.toList, False) {σ : Sg} {n : Nat} (a0 : Nat) (r1 : Option Nat) (M : Mm) : JS X G 4 300 0 n0 (EM X G n0 6 300 (eW rvU σ n)) (fStore_letGo a0 r1 M) (σ, M, n) 0 [(0, .inr (.inl (some a0))), (1, .inr (.inl r1))] [] := by
  unfold fStore_letGo
  refine s_blk C 0 2 [0, 1, 2] (pc' := 2) (lv' := [(0, .inr (.inl (some a0))), (1, .inr (.inl r1)), (2, .inl 0)]) (st' := []) rfl ?_
  exact wStore_letGo_l2 C htab a0 FU _ _ _
theorem cStore_letGo {l : Launch} {G : GE} (htr : l.stackTraces = false) (σ : Sg) (M : Mm) (n : Nat) (a0 : Nat) (r1 : Option Nat) : ∀ o, fStore_letGo a0 r1 M = some o → MetX l G yX8_letGo cX8_letGo 4 none 6 300 [.inr (.inl (some a0)), .inr (.inl r1)] (σ, M, n) ((eW rvU σ n) o) :=
  c_ofX (by decide) kStore_letGo htr rfl rfl fun X _ _ C htab => wStore_letGo C htab a0 r1 _
def pAl_fastRemove : List BR := [(0, .aload_n 0, 1, 0, 1), (1, .dup, 1, 0, 2), (2, .getfield 63, 3, 0, 5), (5, .iconst 1, 1, 1, 6), (6, .iadd, 1, 0, 7), (7, .putfield 63, 3, 0, 10), (10, .aload_n 0, 1, 0, 11), (11, .getfield 48, 3, 0, 14), (14, .iconst 1, 1, 1, 15), (15, .isub, 1, 0, 16), (16, .dup, 1, 0, 17), (17, .istore_n 3, 1, 0, 18), (18, .iload_n 2, 1, 0, 19), (19, .if_icmp .le (15), 3, 0, 34), (22, .aload_n 1, 1, 0, 23), (23, .iload_n 2, 1, 0, 24), (24, .iconst 1, 1, 1, 25), (25, .iadd, 1, 0, 26), (26, .aload_n 1, 1, 0, 27), (27, .iload_n 2, 1, 0, 28), (28, .iload_n 3, 1, 0, 29), (29, .iload_n 2, 1, 0, 30), (30, .isub, 1, 0, 31), (31, .invokestatic 112, 3, 0, 34), (34, .aload_n 1, 1, 0, 35), (35, .aload_n 0, 1, 0, 36), (36, .iload_n 3, 1, 0, 37), (37, .dup_x1, 1, 0, 38), (38, .putfield 48, 3, 0, 41), (41, .aconst_null, 1, 0, 42), (42, .aastore, 1, 0, 43), (43, .return_, 1, 0, 44)]
theorem kAl_fastRemove : bOK cJx4a65c_fastRemove_b59b0 4 pAl_fastRemove = true := by decide +kernel
def fAl_fastRemove_j34 (a0 : Nat) (r1 : Option Nat) (x3 : Int32) (M : Mm) : Option (Unit × Mm) :=
  fpI 12 1202 (some a0) x3 M fun M1 =>
  asP 23 r1 x3 none M1 fun M2 =>
  some ((), M2)
theorem wAl_fastRemove_j34 {X : MC} {G : GE} {n0 : Nat} (C : CX X G RJx4a65c cJx4a65c_fastRemove_b59b0 pAl_fastRemove 4 none n0) (htab : ∀ z ∈ X.2.2.2.2.2.2.2.2.exceptionTable.toList, False) {σ : Sg} {n : Nat} (a0 : Nat) (r1 : Option Nat) (x3 : Int32) (M : Mm) : JS X G 4 300 0 n0 (EM X G n0 2 300 (eW rvU σ n)) (fAl_fastRemove_j34 a0 r1 x3 M) (σ, M, n) 34 [(0, .inr (.inl (some a0))), (1, .inr (.inl r1)), (3, .inl x3)] [] := by
  unfold fAl_fastRemove_j34
  refine s_blk C 24 4 [] (pc' := 38) (lv' := []) (st' := [.inl x3, .inr (.inl (some a0)), .inl x3, .inr (.inl r1)]) rfl ?_
  refine s_pI C 28 rfl fl_Jx4a65c_48 fp_Jx4a65c_12_2 (fun h => Bool.noConfusion h) rfl rfl (fun M1 _ => ?_)
  refine s_blk C 29 1 [] (pc' := 42) (lv' := []) (st' := [.inr (.inl none), .inl x3, .inr (.inl r1)]) rfl ?_
  refine s_stP C 30 rfl (Or.inl rfl) (fun M2 _ => ?_)
  exact s_vret C 31 rfl rfl
def fAl_fastRemove (a0 : Nat) (r1 : Option Nat) (x2 : Int32) (M : Mm) : Option (Unit × Mm) :=
  fgI 12 1200 (some a0) M fun v1 =>
  fpI 12 1200 (some a0) (v1 + 1) M fun M2 =>
  fgI 12 1202 (some a0) M2 fun v3 =>
  if (v3 - 1) ≤ x2 then
    fAl_fastRemove_j34 a0 r1 (v3 - 1) M2
  else
    acp r1 (x2 + 1) r1 x2 ((v3 - 1) - x2) M2 fun M4 =>
    fAl_fastRemove_j34 a0 r1 (v3 - 1) M4
theorem wAl_fastRemove {X : MC} {G : GE} {n0 : Nat} (C : CX X G RJx4a65c cJx4a65c_fastRemove_b59b0 pAl_fastRemove 4 none n0) (htab : ∀ z ∈ X.2.2.2.2.2.2.2.2.exceptionTable.toList, False) {σ : Sg} {n : Nat} (a0 : Nat) (r1 : Option Nat) (x2 : Int32) (M : Mm) : JS X G 4 300 0 n0 (EM X G n0 2 300 (eW rvU σ n)) (fAl_fastRemove a0 r1 x2 M) (σ, M, n) 0 [(0, .inr (.inl (some a0))), (1, .inr (.inl r1)), (2, .inl x2)] [] := by
  unfold fAl_fastRemove
  refine s_blk C 0 2 [0, 1, 2] (pc' := 2) (lv' := [(0, .inr (.inl (some a0))), (1, .inr (.inl r1)), (2, .inl x2)]) (st' := [.inr (.inl (some a0)), .inr (.inl (some a0))]) rfl ?_
  refine s_gI C 2 rfl fl_Jx4a65c_63 rfl rfl (fun v1 => ?_)
  refine s_blk C 3 2 [0, 1, 2] (pc' := 7) (lv' := [(0, .inr (.inl (some a0))), (1, .inr (.inl r1)), (2, .inl x2)]) (st' := [.inl (v1 + 1), .inr (.inl (some a0))]) rfl ?_
  refine s_pI C 5 rfl fl_Jx4a65c_63 fp_Jx4a65c_12_0 (fun h => Bool.noConfusion h) rfl rfl (fun M2 _ => ?_)
  refine s_blk C 6 1 [0, 1, 2] (pc' := 11) (lv' := [(0, .inr (.inl (some a0))), (1, .inr (.inl r1)), (2, .inl x2)]) (st' := [.inr (.inl (some a0))]) rfl ?_
  refine s_gI C 7 rfl fl_Jx4a65c_48 rfl rfl (fun v3 => ?_)
  refine s_blk C 8 5 [0, 1, 2, 3] (pc' := 19) (lv' := [(0, .inr (.inl (some a0))), (1, .inr (.inl r1)), (2, .inl x2), (3, .inl (v3 - 1))]) (st' := [.inl x2, .inl (v3 - 1)]) rfl ?_
  refine s_icle C 13 rfl (fun _ => ?_) (fun _ => ?_)
  · refine s_blk C 0 0 [0, 1, 3] (pc' := 34) (lv' := [(0, .inr (.inl (some a0))), (1, .inr (.inl r1)), (3, .inl (v3 - 1))]) (st' := []) rfl ?_
    exact wAl_fastRemove_j34 C htab a0 _ _ _
  refine s_blk C 14 9 [0, 1, 3] (pc' := 31) (lv' := [(0, .inr (.inl (some a0))), (1, .inr (.inl r1)), (3, .inl (v3 - 1))]) (st' := [.inl ((v3 - 1) - x2), .inl x2, .inr (.inl r1), .inl (x2 + 1), .inr (.inl r1)]) rfl ?_
  refine s_acp C (CE_EM _ _ _ _ _ _) 23 rfl ml_Jx4a65c_112 (by decide) rfl (fun M4 => ?_)
  exact wAl_fastRemove_j34 C htab a0 _ _ _
theorem cAl_fastRemove {l : Launch} {G : GE} (htr : l.stackTraces = false) (σ : Sg) (M : Mm) (n : Nat) (a0 : Nat) (r1 : Option Nat) (x2 : Int32) : ∀ o, fAl_fastRemove a0 r1 x2 M = some o → MetX l G yJx4a65c_fastRemove_b59b0 cJx4a65c_fastRemove_b59b0 4 none 2 300 [.inr (.inl (some a0)), .inr (.inl r1), .inl x2] (σ, M, n) ((eW rvU σ n) o) :=
  c_ofX (by decide) kAl_fastRemove htr rfl rfl fun X _ _ C htab => wAl_fastRemove C htab a0 r1 x2 _

def pStore_tallyUp : List BR := [(0, .iconst 0, 1, 0, 1), (1, .istore_n 2, 1, 0, 2), (2, .iload_n 2, 1, 0, 3), (3, .aload_n 1, 1, 0, 4), (4, .arraylength, 1, 0, 5), (5, .if_icmp .ge (36), 3, 0, 41), (8, .aload_n 1, 1, 0, 9), (9, .iload_n 2, 1, 0, 10), (10, .iaload, 1, 0, 11), (11, .istore_n 3, 1, 0, 12), (12, .iload_n 3, 1, 0, 13), (13, .ifCond .lt (22), 3, 0, 35), (16, .iload_n 3, 1, 0, 17), (17, .aload_n 0, 1, 0, 18), (18, .getfield 36, 3, 0, 21), (21, .arraylength, 1, 0, 22), (22, .if_icmp .ge (13), 3, 0, 35), (25, .aload_n 0, 1, 0, 26), (26, .getfield 36, 3, 0, 29), (29, .iload_n 3, 1, 0, 30), (30, .dup2, 1, 0, 31), (31, .iaload, 1, 0, 32), (32, .iconst 1, 1, 1, 33), (33, .iadd, 1, 0, 34), (34, .iastore, 1, 0, 35), (35, .iinc 2 (1), 3, 1, 38), (38, .goto (-36), 3, 0, 2), (41, .return_, 1, 0, 42)]
theorem kStore_tallyUp : bOK cX8_tallyUp 4 pStore_tallyUp = true := by decide +kernel
def fStore_tallyUp_j35 (a0 : Nat) (k2 : Option Nat → Int32 → Mm → Option (Unit × Mm)) (r1 : Option Nat) (x2 : Int32) (M : Mm) : Option (Unit × Mm) :=
  k2 r1 (x2 + 1) M
theorem wStore_tallyUp_j35 {X : MC} {G : GE} {n0 : Nat} (C : CX X G RX8 cX8_tallyUp pStore_tallyUp 4 none n0) (htab : ∀ z ∈ X.2.2.2.2.2.2.2.2.exceptionTable.toList, False) {σ : Sg} {n : Nat} (a0 : Nat) (k2 : Option Nat → Int32 → Mm → Option (Unit × Mm)) (H2 : ∀ (r1 : Option Nat) (x2 : Int32) (M : Mm), JS X G 4 300 0 n0 (EM X G n0 2 300 (eW rvU σ n)) (k2 r1 x2 M) (σ, M, n) 2 [(0, .inr (.inl (some a0))), (1, .inr (.inl r1)), (2, .inl x2)] []) (r1 : Option Nat) (x2 : Int32) (M : Mm) : JS X G 4 300 0 n0 (EM X G n0 2 300 (eW rvU σ n)) (fStore_tallyUp_j35 a0 k2 r1 x2 M) (σ, M, n) 35 [(0, .inr (.inl (some a0))), (1, .inr (.inl r1)), (2, .inl x2)] [] := by
  unfold fStore_tallyUp_j35
  refine s_blk C 25 2 [0, 1, 2] (pc' := 2) (lv' := [(0, .inr (.inl (some a0))), (1, .inr (.inl r1)), (2, .inl (x2 + 1))]) (st' := []) rfl ?_
  exact H2 _ _ _
def fStore_tallyUp_b2 (a0 : Nat) (k2 : Option Nat → Int32 → Mm → Option (Unit × Mm)) (r1 : Option Nat) (x2 : Int32) (M : Mm) : Option (Unit × Mm) :=
  aln r1 M fun v1 =>
  if v1 ≤ x2 then
    some ((), M)
  else
    alI 21 r1 x2 M fun v2 =>
    if v2 < 0 then
      fStore_tallyUp_j35 a0 k2 r1 x2 M
    else
      fgR 8 804 (some a0) M fun v3 =>
      aln v3 M fun v4 =>
      if v4 ≤ v2 then
        fStore_tallyUp_j35 a0 k2 r1 x2 M
      else
        fgR 8 804 (some a0) M fun v5 =>
        alI 21 v5 v2 M fun v6 =>
        asI v5 v2 (v6 + 1) M fun M7 =>
        fStore_tallyUp_j35 a0 k2 r1 x2 M7
theorem wStore_tallyUp_b2 {X : MC} {G : GE} {n0 : Nat} (C : CX X G RX8 cX8_tallyUp pStore_tallyUp 4 none n0) (htab : ∀ z ∈ X.2.2.2.2.2.2.2.2.exceptionTable.toList, False) {σ : Sg} {n : Nat} (a0 : Nat) (k2 : Option Nat → Int32 → Mm → Option (Unit × Mm)) (H2 : ∀ (r1 : Option Nat) (x2 : Int32) (M : Mm), JS X G 4 300 0 n0 (EM X G n0 2 300 (eW rvU σ n)) (k2 r1 x2 M) (σ, M, n) 2 [(0, .inr (.inl (some a0))), (1, .inr (.inl r1)), (2, .inl x2)] []) (r1 : Option Nat) (x2 : Int32) (M : Mm) : JS X G 4 300 0 n0 (EM X G n0 2 300 (eW rvU σ n)) (fStore_tallyUp_b2 a0 k2 r1 x2 M) (σ, M, n) 2 [(0, .inr (.inl (some a0))), (1, .inr (.inl r1)), (2, .inl x2)] [] := by
  unfold fStore_tallyUp_b2
  refine s_blk C 2 2 [0, 1, 2] (pc' := 4) (lv' := [(0, .inr (.inl (some a0))), (1, .inr (.inl r1)), (2, .inl x2)]) (st' := [.inr (.inl r1), .inl x2]) rfl ?_
  refine s_len C 4 rfl (fun v1 => ?_)
  refine s_icge C 5 rfl (fun _ => ?_) (fun _ => ?_)
  · exact s_vret C 27 rfl rfl
  refine s_blk C 6 2 [0, 1, 2] (pc' := 10) (lv' := [(0, .inr (.inl (some a0))), (1, .inr (.inl r1)), (2, .inl x2)]) (st' := [.inl x2, .inr (.inl r1)]) rfl ?_
  refine s_ldI C 8 rfl (fun v2 => ?_)
  refine s_blk C 9 2 [0, 1, 2, 3] (pc' := 13) (lv' := [(0, .inr (.inl (some a0))), (1, .inr (.inl r1)), (2, .inl x2), (3, .inl v2)]) (st' := [.inl v2]) rfl ?_
  refine s_ilt C 11 rfl (fun _ => ?_) (fun _ => ?_)
  · refine s_blk C 0 0 [0, 1, 2] (pc' := 35) (lv' := [(0, .inr (.inl (some a0))), (1, .inr (.inl r1)), (2, .inl x2)]) (st' := []) rfl ?_
    exact wStore_tallyUp_j35 C htab a0 k2 H2 _ _ _
  refine s_blk C 12 2 [0, 1, 2, 3] (pc' := 18) (lv' := [(0, .inr (.inl (some a0))), (1, .inr (.inl r1)), (2, .inl x2), (3, .inl v2)]) (st' := [.inr (.inl (some a0)), .inl v2]) rfl ?_
  refine s_gR C 14 rfl fl_X8_36 rfl rfl (fun v3 => ?_)
  refine s_len C 15 rfl (fun v4 => ?_)
  refine s_icge C 16 rfl (fun _ => ?_) (fun _ => ?_)
  · refine s_blk C 0 0 [0, 1, 2] (pc' := 35) (lv' := [(0, .inr (.inl (some a0))), (1, .inr (.inl r1)), (2, .inl x2)]) (st' := []) rfl ?_
    exact wStore_tallyUp_j35 C htab a0 k2 H2 _ _ _
  refine s_blk C 17 1 [0, 1, 2, 3] (pc' := 26) (lv' := [(0, .inr (.inl (some a0))), (1, .inr (.inl r1)), (2, .inl x2), (3, .inl v2)]) (st' := [.inr (.inl (some a0))]) rfl ?_
  refine s_gR C 18 rfl fl_X8_36 rfl rfl (fun v5 => ?_)
  refine s_blk C 19 2 [0, 1, 2] (pc' := 31) (lv' := [(0, .inr (.inl (some a0))), (1, .inr (.inl r1)), (2, .inl x2)]) (st' := [.inl v2, .inr (.inl v5), .inl v2, .inr (.inl v5)]) rfl ?_
  refine s_ldI C 21 rfl (fun v6 => ?_)
  refine s_blk C 22 2 [0, 1, 2] (pc' := 34) (lv' := [(0, .inr (.inl (some a0))), (1, .inr (.inl r1)), (2, .inl x2)]) (st' := [.inl (v6 + 1), .inl v2, .inr (.inl v5)]) rfl ?_
  refine s_stI C 24 rfl (fun M7 _ => ?_)
  exact wStore_tallyUp_j35 C htab a0 k2 H2 _ _ _
def fStore_tallyUp_l2 (a0 : Nat) (fu : Nat) : Option Nat → Int32 → Mm → Option (Unit × Mm) := Nat.rec (fun r1 x2 M => none) (fun _ k => fStore_tallyUp_b2 a0 k) fu
theorem wStore_tallyUp_l2 {X : MC} {G : GE} {n0 : Nat} (C : CX X G RX8 cX8_tallyUp pStore_tallyUp 4 none n0) (htab : ∀ z ∈ X.2.2.2.2.2.2.2.2.exceptionTable.toList, False) {σ : Sg} {n : Nat} (a0 : Nat) : ∀ (fu : Nat) (r1 : Option Nat) (x2 : Int32) (M : Mm), JS X G 4 300 0 n0 (EM X G n0 2 300 (eW rvU σ n)) (fStore_tallyUp_l2 a0 fu r1 x2 M) (σ, M, n) 2 [(0, .inr (.inl (some a0))), (1, .inr (.inl r1)), (2, .inl x2)] [] := by
  intro fu
  induction fu with
  | zero => intro r1 x2 M; exact s_none
  | succ fu ih => intro r1 x2 M; exact wStore_tallyUp_b2 C htab a0 (fStore_tallyUp_l2 a0 fu) ih _ _ _
def fStore_tallyUp (a0 : Nat) (r1 : Option Nat) (M : Mm) : Option (Unit × Mm) :=
  fStore_tallyUp_l2 a0 FU r1 0 M
theorem wStore_tallyUp {X : MC} {G : GE} {n0 : Nat} (C : CX X G RX8 cX8_tallyUp pStore_tallyUp 4 none n0) (htab : ∀ z ∈ X.2.2.2.2.2.2.2.2.exceptionTable.toList, False) {σ : Sg} {n : Nat} (a0 : Nat) (r1 : Option Nat) (M : Mm) : JS X G 4 300 0 n0 (EM X G n0 2 300 (eW rvU σ n)) (fStore_tallyUp a0 r1 M) (σ, M, n) 0 [(0, .inr (.inl (some a0))), (1, .inr (.inl r1))] [] := by
  unfold fStore_tallyUp
  refine s_blk C 0 2 [0, 1, 2] (pc' := 2) (lv' := [(0, .inr (.inl (some a0))), (1, .inr (.inl r1)), (2, .inl 0)]) (st' := []) rfl ?_
  exact wStore_tallyUp_l2 C htab a0 FU _ _ _
theorem cStore_tallyUp {l : Launch} {G : GE} (htr : l.stackTraces = false) (σ : Sg) (M : Mm) (n : Nat) (a0 : Nat) (r1 : Option Nat) : ∀ o, fStore_tallyUp a0 r1 M = some o → MetX l G yX8_tallyUp cX8_tallyUp 4 none 2 300 [.inr (.inl (some a0)), .inr (.inl r1)] (σ, M, n) ((eW rvU σ n) o) :=
  c_ofX (by decide) kStore_tallyUp htr rfl rfl fun X _ _ C htab => wStore_tallyUp C htab a0 r1 _
def pStore_isTallied : List BR := [(0, .iconst 0, 1, 0, 1), (1, .istore_n 1, 1, 0, 2), (2, .iload_n 1, 1, 0, 3), (3, .aload_n 0, 1, 0, 4), (4, .getfield 18, 3, 0, 7), (7, .invokevirtual 40, 3, 0, 10), (10, .if_icmp .ge (43), 3, 0, 53), (13, .iload_n 1, 1, 0, 14), (14, .aload_n 0, 1, 0, 15), (15, .getfield 36, 3, 0, 18), (18, .arraylength, 1, 0, 19), (19, .if_icmp .ge (34), 3, 0, 53), (22, .aload_n 0, 1, 0, 23), (23, .getfield 18, 3, 0, 26), (26, .iload_n 1, 1, 0, 27), (27, .invokevirtual 44, 3, 0, 30), (30, .checkcast 48, 3, 0, 33), (33, .getfield 112, 3, 0, 36), (36, .aload_n 0, 1, 0, 37), (37, .getfield 36, 3, 0, 40), (40, .iload_n 1, 1, 0, 41), (41, .iaload, 1, 0, 42), (42, .if_icmp .eq (5), 3, 0, 47), (45, .iconst 0, 1, 0, 46), (46, .ireturn, 1, 0, 47), (47, .iinc 1 (1), 3, 1, 50), (50, .goto (-48), 3, 0, 2), (53, .iconst 1, 1, 1, 54), (54, .ireturn, 1, 0, 55)]
theorem kStore_isTallied : bOK cX8_isTallied 2 pStore_isTallied = true := by decide +kernel
def fStore_isTallied_b2 (a0 : Nat) (k2 : Int32 → Mm → Option (Int32)) (x1 : Int32) (M : Mm) : Option (Int32) :=
  fgR 8 801 (some a0) M fun v1 =>
  rk 12 v1 M fun a2 =>
  bdR (fAl_size a2 M) fun v5 =>
  if v5 ≤ x1 then
    rZ 1 (some 1)
  else
    fgR 8 804 (some a0) M fun v6 =>
    aln v6 M fun v7 =>
    if v7 ≤ x1 then
      rZ 1 (some 1)
    else
      fgR 8 801 (some a0) M fun v8 =>
      rk 12 v8 M fun a9 =>
      bdR (fAl_get a9 x1 M) fun v12 =>
      fca 5 v12 M fun v13 =>
      fgI 5 506 v13 M fun v14 =>
      fgR 8 804 (some a0) M fun v15 =>
      alI 21 v15 x1 M fun v16 =>
      if v14 = v16 then
        k2 (x1 + 1) M
      else
        rZ 0 (some 0)
theorem wStore_isTallied_b2 {X : MC} {G : GE} {n0 : Nat} (C : CX X G RX8 cX8_isTallied pStore_isTallied 2 (some .boolean) n0) (htab : ∀ z ∈ X.2.2.2.2.2.2.2.2.exceptionTable.toList, False) {σ : Sg} {M : Mm} {n : Nat} (a0 : Nat) (k2 : Int32 → Mm → Option (Int32)) (H2 : ∀ (x1 : Int32), JS X G 2 300 0 n0 (EM X G n0 5 300 (eR rvI σ M n)) (k2 x1 M) (σ, M, n) 2 [(0, .inr (.inl (some a0))), (1, .inl x1)] []) (x1 : Int32) : JS X G 2 300 0 n0 (EM X G n0 5 300 (eR rvI σ M n)) (fStore_isTallied_b2 a0 k2 x1 M) (σ, M, n) 2 [(0, .inr (.inl (some a0))), (1, .inl x1)] [] := by
  unfold fStore_isTallied_b2
  refine s_blk C 2 2 [0, 1] (pc' := 4) (lv' := [(0, .inr (.inl (some a0))), (1, .inl x1)]) (st' := [.inr (.inl (some a0)), .inl x1]) rfl ?_
  refine s_gR C 4 rfl fl_X8_18 rfl rfl (fun v1 => ?_)
  refine s_rk (fun a2 ha3 hk4 => ?_)
  subst ha3
  refine s_RI (CE_EM _ _ _ _ _ _) (st := [.inl x1]) (fun o ho => j_callV (As := []) (st := [.inl x1]) (b := a2) C 5 rfl mf_Al_size ml_X8_40 rfl (recv_K C (by decide) (by decide) rfl hk4) (by decide) (by decide) (Nat.le_refl _) rfl (cAl_size (CX_tr C) σ M n a2 o ho)) (fun v5 => ?_)
  refine s_icge C 6 rfl (fun _ => ?_) (fun _ => ?_)
  · refine s_blk C 27 1 [] (pc' := 54) (lv' := []) (st' := [.inl 1]) rfl ?_
    exact s_zret C 28 rfl rfl
  refine s_blk C 7 2 [0, 1] (pc' := 15) (lv' := [(0, .inr (.inl (some a0))), (1, .inl x1)]) (st' := [.inr (.inl (some a0)), .inl x1]) rfl ?_
  refine s_gR C 9 rfl fl_X8_36 rfl rfl (fun v6 => ?_)
  refine s_len C 10 rfl (fun v7 => ?_)
  refine s_icge C 11 rfl (fun _ => ?_) (fun _ => ?_)
  · refine s_blk C 27 1 [] (pc' := 54) (lv' := []) (st' := [.inl 1]) rfl ?_
    exact s_zret C 28 rfl rfl
  refine s_blk C 12 1 [0, 1] (pc' := 23) (lv' := [(0, .inr (.inl (some a0))), (1, .inl x1)]) (st' := [.inr (.inl (some a0))]) rfl ?_
  refine s_gR C 13 rfl fl_X8_18 rfl rfl (fun v8 => ?_)
  refine s_blk C 14 1 [0, 1] (pc' := 27) (lv' := [(0, .inr (.inl (some a0))), (1, .inl x1)]) (st' := [.inl x1, .inr (.inl v8)]) rfl ?_
  refine s_rk (fun a9 ha10 hk11 => ?_)
  subst ha10
  refine s_RR (CE_EM _ _ _ _ _ _) (st := []) (fun o ho => j_callV (As := [.inl x1]) (st := []) (b := a9) C 15 rfl mf_Al_get ml_X8_44 rfl (recv_K C (by decide) (by decide) rfl hk11) (by decide) (by decide) (Nat.le_refl _) rfl (cAl_get (CX_tr C) σ M n a9 x1 o ho)) (fun v12 => ?_)
  refine s_cast C 16 rfl rfl (by decide) (by decide) cw_X8_48 (fun v13 => ?_)
  refine s_gI C 17 rfl fl_X8_112 rfl rfl (fun v14 => ?_)
  refine s_blk C 18 1 [0, 1] (pc' := 37) (lv' := [(0, .inr (.inl (some a0))), (1, .inl x1)]) (st' := [.inr (.inl (some a0)), .inl v14]) rfl ?_
  refine s_gR C 19 rfl fl_X8_36 rfl rfl (fun v15 => ?_)
  refine s_blk C 20 1 [0, 1] (pc' := 41) (lv' := [(0, .inr (.inl (some a0))), (1, .inl x1)]) (st' := [.inl x1, .inr (.inl v15), .inl v14]) rfl ?_
  refine s_ldI C 21 rfl (fun v16 => ?_)
  refine s_iceq C 22 rfl (fun _ => ?_) (fun _ => ?_)
  · refine s_blk C 25 2 [0, 1] (pc' := 2) (lv' := [(0, .inr (.inl (some a0))), (1, .inl (x1 + 1))]) (st' := []) rfl ?_
    exact H2 _
  refine s_blk C 23 1 [] (pc' := 46) (lv' := []) (st' := [.inl 0]) rfl ?_
  exact s_zret C 24 rfl rfl
def fStore_isTallied_l2 (a0 : Nat) (fu : Nat) : Int32 → Mm → Option (Int32) := Nat.rec (fun x1 M => none) (fun _ k => fStore_isTallied_b2 a0 k) fu
theorem wStore_isTallied_l2 {X : MC} {G : GE} {n0 : Nat} (C : CX X G RX8 cX8_isTallied pStore_isTallied 2 (some .boolean) n0) (htab : ∀ z ∈ X.2.2.2.2.2.2.2.2.exceptionTable.toList, False) {σ : Sg} {M : Mm} {n : Nat} (a0 : Nat) : ∀ (fu : Nat) (x1 : Int32), JS X G 2 300 0 n0 (EM X G n0 5 300 (eR rvI σ M n)) (fStore_isTallied_l2 a0 fu x1 M) (σ, M, n) 2 [(0, .inr (.inl (some a0))), (1, .inl x1)] [] := by
  intro fu
  induction fu with
  | zero => intro x1; exact s_none
  | succ fu ih => intro x1; exact wStore_isTallied_b2 C htab a0 (fStore_isTallied_l2 a0 fu) ih _
def fStore_isTallied (a0 : Nat) (M : Mm) : Option (Int32) :=
  fStore_isTallied_l2 a0 FU 0 M
theorem wStore_isTallied {X : MC} {G : GE} {n0 : Nat} (C : CX X G RX8 cX8_isTallied pStore_isTallied 2 (some .boolean) n0) (htab : ∀ z ∈ X.2.2.2.2.2.2.2.2.exceptionTable.toList, False) {σ : Sg} {M : Mm} {n : Nat} (a0 : Nat) : JS X G 2 300 0 n0 (EM X G n0 5 300 (eR rvI σ M n)) (fStore_isTallied a0 M) (σ, M, n) 0 [(0, .inr (.inl (some a0)))] [] := by
  unfold fStore_isTallied
  refine s_blk C 0 2 [0, 1] (pc' := 2) (lv' := [(0, .inr (.inl (some a0))), (1, .inl 0)]) (st' := []) rfl ?_
  exact wStore_isTallied_l2 C htab a0 FU _
theorem cStore_isTallied {l : Launch} {G : GE} (htr : l.stackTraces = false) (σ : Sg) (M : Mm) (n : Nat) (a0 : Nat) : ∀ o, fStore_isTallied a0 M = some o → MetX l G yX8_isTallied cX8_isTallied 2 (some .boolean) 5 300 [.inr (.inl (some a0))] (σ, M, n) ((eR rvI σ M n) o) :=
  c_ofX (by decide) kStore_isTallied htr rfl rfl fun X _ _ C htab => wStore_isTallied C htab a0
def pRegion_isSound : List BR := [(0, .aload_n 0, 1, 0, 1), (1, .getfield 12, 3, 0, 4), (4, .invokevirtual 131, 3, 0, 7), (7, .iconst 0, 1, 0, 8), (8, .istore_n 1, 1, 0, 9), (9, .iload_n 1, 1, 0, 10), (10, .aload_n 0, 1, 0, 11), (11, .getfield 21, 3, 0, 14), (14, .invokevirtual 32, 3, 0, 17), (17, .if_icmp .ge (45), 3, 0, 62), (20, .aload_n 0, 1, 0, 21), (21, .getfield 21, 3, 0, 24), (24, .iload_n 1, 1, 0, 25), (25, .invokevirtual 36, 3, 0, 28), (28, .checkcast 40, 3, 0, 31), (31, .astore_n 2, 1, 0, 32), (32, .aload_n 0, 1, 0, 33), (33, .getfield 12, 3, 0, 36), (36, .aload_n 2, 1, 0, 37), (37, .invokevirtual 134, 3, 0, 40), (40, .ifCond .ne (5), 3, 0, 45), (43, .iconst 0, 1, 0, 44), (44, .ireturn, 1, 0, 45), (45, .aload_n 0, 1, 0, 46), (46, .getfield 12, 3, 0, 49), (49, .aload_n 2, 1, 0, 50), (50, .getfield 82, 3, 0, 53), (53, .invokevirtual 138, 3, 0, 56), (56, .iinc 1 (1), 3, 1, 59), (59, .goto (-50), 3, 0, 9), (62, .aload_n 0, 1, 0, 63), (63, .getfield 12, 3, 0, 66), (66, .invokevirtual 141, 3, 0, 69), (69, .ireturn, 1, 0, 70)]
theorem kRegion_isSound : bOK cX6_isSound 3 pRegion_isSound = true := by decide +kernel
def fRegion_isSound_b9 (a0 : Nat) (k9 : Int32 → Mm → Option (Int32 × Mm)) (x1 : Int32) (M : Mm) : Option (Int32 × Mm) :=
  fgR 6 601 (some a0) M fun v1 =>
  rk 12 v1 M fun a2 =>
  bdR (fAl_size a2 M) fun v5 =>
  if v5 ≤ x1 then
    fgR 6 600 (some a0) M fun v6 =>
    rk 8 v6 M fun a7 =>
    bdR (fStore_isTallied a7 M) fun v10 =>
    rZ v10 (some (v10, M))
  else
    fgR 6 601 (some a0) M fun v11 =>
    rk 12 v11 M fun a12 =>
    bdR (fAl_get a12 x1 M) fun v15 =>
    fca 10 v15 M fun v16 =>
    fgR 6 600 (some a0) M fun v17 =>
    rk 8 v17 M fun a18 =>
    bdW (fStore_isAsPut a18 v16 M) fun v21 M22 =>
    if v21 = 0 then
      rZ 0 (some (0, M22))
    else
      fgR 6 600 (some a0) M22 fun v23 =>
      fgR 10 1001 v16 M22 fun v24 =>
      rk 8 v23 M22 fun a25 =>
      bdW (fStore_tallyUp a25 v24 M22) fun v28 M29 =>
      k9 (x1 + 1) M29
theorem wRegion_isSound_b9 {X : MC} {G : GE} {n0 : Nat} (C : CX X G RX6 cX6_isSound pRegion_isSound 3 (some .boolean) n0) (htab : ∀ z ∈ X.2.2.2.2.2.2.2.2.exceptionTable.toList, False) {σ : Sg} {n : Nat} (a0 : Nat) (k9 : Int32 → Mm → Option (Int32 × Mm)) (H9 : ∀ (x1 : Int32) (M : Mm), JS X G 3 300 0 n0 (EM X G n0 8 300 (eW rvI σ n)) (k9 x1 M) (σ, M, n) 9 [(0, .inr (.inl (some a0))), (1, .inl x1)] []) (x1 : Int32) (M : Mm) : JS X G 3 300 0 n0 (EM X G n0 8 300 (eW rvI σ n)) (fRegion_isSound_b9 a0 k9 x1 M) (σ, M, n) 9 [(0, .inr (.inl (some a0))), (1, .inl x1)] [] := by
  unfold fRegion_isSound_b9
  refine s_blk C 5 2 [0, 1] (pc' := 11) (lv' := [(0, .inr (.inl (some a0))), (1, .inl x1)]) (st' := [.inr (.inl (some a0)), .inl x1]) rfl ?_
  refine s_gR C 7 rfl fl_X6_21 rfl rfl (fun v1 => ?_)
  refine s_rk (fun a2 ha3 hk4 => ?_)
  subst ha3
  refine s_RI (CE_EM _ _ _ _ _ _) (st := [.inl x1]) (fun o ho => j_callV (As := []) (st := [.inl x1]) (b := a2) C 8 rfl mf_Al_size ml_X6_32 rfl (recv_K C (by decide) (by decide) rfl hk4) (by decide) (by decide) (Nat.le_refl _) rfl (cAl_size (CX_tr C) σ M n a2 o ho)) (fun v5 => ?_)
  refine s_icge C 9 rfl (fun _ => ?_) (fun _ => ?_)
  · refine s_blk C 30 1 [] (pc' := 63) (lv' := []) (st' := [.inr (.inl (some a0))]) rfl ?_
    refine s_gR C 31 rfl fl_X6_12 rfl rfl (fun v6 => ?_)
    refine s_rk (fun a7 ha8 hk9 => ?_)
    subst ha8
    refine s_RI (CE_EM _ _ _ _ _ _) (st := []) (fun o ho => j_callV (As := []) (st := []) (b := a7) C 32 rfl mf_Store_isTallied ml_X6_141 rfl (recv_K C (by decide) (by decide) rfl hk9) (by decide) (by decide) (Nat.le_refl _) rfl (cStore_isTallied (CX_tr C) σ M n a7 o ho)) (fun v10 => ?_)
    exact s_zret C 33 rfl rfl
  refine s_blk C 10 1 [0, 1] (pc' := 21) (lv' := [(0, .inr (.inl (some a0))), (1, .inl x1)]) (st' := [.inr (.inl (some a0))]) rfl ?_
  refine s_gR C 11 rfl fl_X6_21 rfl rfl (fun v11 => ?_)
  refine s_blk C 12 1 [0, 1] (pc' := 25) (lv' := [(0, .inr (.inl (some a0))), (1, .inl x1)]) (st' := [.inl x1, .inr (.inl v11)]) rfl ?_
  refine s_rk (fun a12 ha13 hk14 => ?_)
  subst ha13
  refine s_RR (CE_EM _ _ _ _ _ _) (st := []) (fun o ho => j_callV (As := [.inl x1]) (st := []) (b := a12) C 13 rfl mf_Al_get ml_X6_36 rfl (recv_K C (by decide) (by decide) rfl hk14) (by decide) (by decide) (Nat.le_refl _) rfl (cAl_get (CX_tr C) σ M n a12 x1 o ho)) (fun v15 => ?_)
  refine s_cast C 14 rfl rfl (by decide) (by decide) cw_X6_40 (fun v16 => ?_)
  refine s_blk C 15 2 [0, 1, 2] (pc' := 33) (lv' := [(0, .inr (.inl (some a0))), (1, .inl x1), (2, .inr (.inl v16))]) (st' := [.inr (.inl (some a0))]) rfl ?_
  refine s_gR C 17 rfl fl_X6_12 rfl rfl (fun v17 => ?_)
  refine s_blk C 18 1 [0, 1, 2] (pc' := 37) (lv' := [(0, .inr (.inl (some a0))), (1, .inl x1), (2, .inr (.inl v16))]) (st' := [.inr (.inl v16), .inr (.inl v17)]) rfl ?_
  refine s_rk (fun a18 ha19 hk20 => ?_)
  subst ha19
  refine s_WI (CE_EM _ _ _ _ _ _) (st := []) (fun o ho => j_callV (As := [.inr (.inl v16)]) (st := []) (b := a18) C 19 rfl mf_Store_isAsPut ml_X6_134 rfl (recv_K C (by decide) (by decide) rfl hk20) (by decide) (by decide) (Nat.le_refl _) rfl (cStore_isAsPut (CX_tr C) σ M n a18 v16 o ho)) (fun v21 M22 => ?_)
  refine s_ine C 20 rfl (fun _ => ?_) (fun _ => ?_)
  · refine s_blk C 21 1 [] (pc' := 44) (lv' := []) (st' := [.inl 0]) rfl ?_
    exact s_zret C 22 rfl rfl
  refine s_blk C 23 1 [0, 1, 2] (pc' := 46) (lv' := [(0, .inr (.inl (some a0))), (1, .inl x1), (2, .inr (.inl v16))]) (st' := [.inr (.inl (some a0))]) rfl ?_
  refine s_gR C 24 rfl fl_X6_12 rfl rfl (fun v23 => ?_)
  refine s_blk C 25 1 [0, 1] (pc' := 50) (lv' := [(0, .inr (.inl (some a0))), (1, .inl x1)]) (st' := [.inr (.inl v16), .inr (.inl v23)]) rfl ?_
  refine s_gR C 26 rfl fl_X6_82 rfl rfl (fun v24 => ?_)
  refine s_rk (fun a25 ha26 hk27 => ?_)
  subst ha26
  refine s_WU (CE_EM _ _ _ _ _ _) (st := []) (fun o ho => j_callV (As := [.inr (.inl v24)]) (st := []) (b := a25) C 27 rfl mf_Store_tallyUp ml_X6_138 rfl (recv_K C (by decide) (by decide) rfl hk27) (by decide) (by decide) (Nat.le_refl _) rfl (cStore_tallyUp (CX_tr C) σ M22 n a25 v24 o ho)) (fun v28 M29 => ?_)
  refine s_blk C 28 2 [0, 1] (pc' := 9) (lv' := [(0, .inr (.inl (some a0))), (1, .inl (x1 + 1))]) (st' := []) rfl ?_
  exact H9 _ _
def fRegion_isSound_l9 (a0 : Nat) (fu : Nat) : Int32 → Mm → Option (Int32 × Mm) := Nat.rec (fun x1 M => none) (fun _ k => fRegion_isSound_b9 a0 k) fu
theorem wRegion_isSound_l9 {X : MC} {G : GE} {n0 : Nat} (C : CX X G RX6 cX6_isSound pRegion_isSound 3 (some .boolean) n0) (htab : ∀ z ∈ X.2.2.2.2.2.2.2.2.exceptionTable.toList, False) {σ : Sg} {n : Nat} (a0 : Nat) : ∀ (fu : Nat) (x1 : Int32) (M : Mm), JS X G 3 300 0 n0 (EM X G n0 8 300 (eW rvI σ n)) (fRegion_isSound_l9 a0 fu x1 M) (σ, M, n) 9 [(0, .inr (.inl (some a0))), (1, .inl x1)] [] := by
  intro fu
  induction fu with
  | zero => intro x1 M; exact s_none
  | succ fu ih => intro x1 M; exact wRegion_isSound_b9 C htab a0 (fRegion_isSound_l9 a0 fu) ih _ _
def fRegion_isSound (a0 : Nat) (M : Mm) : Option (Int32 × Mm) :=
  fgR 6 600 (some a0) M fun v1 =>
  rk 8 v1 M fun a2 =>
  bdW (fStore_beginTally a2 M) fun v5 M6 =>
  fRegion_isSound_l9 a0 FU 0 M6
theorem wRegion_isSound {X : MC} {G : GE} {n0 : Nat} (C : CX X G RX6 cX6_isSound pRegion_isSound 3 (some .boolean) n0) (htab : ∀ z ∈ X.2.2.2.2.2.2.2.2.exceptionTable.toList, False) {σ : Sg} {n : Nat} (a0 : Nat) (M : Mm) : JS X G 3 300 0 n0 (EM X G n0 8 300 (eW rvI σ n)) (fRegion_isSound a0 M) (σ, M, n) 0 [(0, .inr (.inl (some a0)))] [] := by
  unfold fRegion_isSound
  refine s_blk C 0 1 [0] (pc' := 1) (lv' := [(0, .inr (.inl (some a0)))]) (st' := [.inr (.inl (some a0))]) rfl ?_
  refine s_gR C 1 rfl fl_X6_12 rfl rfl (fun v1 => ?_)
  refine s_rk (fun a2 ha3 hk4 => ?_)
  subst ha3
  refine s_WU (CE_EM _ _ _ _ _ _) (st := []) (fun o ho => j_callV (As := []) (st := []) (b := a2) C 2 rfl mf_Store_beginTally ml_X6_131 rfl (recv_K C (by decide) (by decide) rfl hk4) (by decide) (by decide) (Nat.le_refl _) rfl (cStore_beginTally (CX_tr C) σ M n a2 o ho)) (fun v5 M6 => ?_)
  refine s_blk C 3 2 [0, 1] (pc' := 9) (lv' := [(0, .inr (.inl (some a0))), (1, .inl 0)]) (st' := []) rfl ?_
  exact wRegion_isSound_l9 C htab a0 FU _ _
theorem cRegion_isSound {l : Launch} {G : GE} (htr : l.stackTraces = false) (σ : Sg) (M : Mm) (n : Nat) (a0 : Nat) : ∀ o, fRegion_isSound a0 M = some o → MetX l G yX6_isSound cX6_isSound 3 (some .boolean) 8 300 [.inr (.inl (some a0))] (σ, M, n) ((eW rvI σ n) o) :=
  c_ofX (by decide) kRegion_isSound htr rfl rfl fun X _ _ C htab => wRegion_isSound C htab a0 _
def pHb_agrees : List BR := [(0, .aload_n 0, 1, 0, 1), (1, .iload_n 1, 1, 0, 2), (2, .invokevirtual 65, 3, 0, 5), (5, .invokevirtual 280, 3, 0, 8), (8, .ireturn, 1, 0, 9)]
theorem kHb_agrees : bOK cX11_agrees 2 pHb_agrees = true := by decide +kernel
def fHb_agrees (a0 : Nat) (x1 : Int32) (M : Mm) (n : Nat) : Option ((Int32 ⊕ Nat) × Mm × Nat) :=
  rk 11 (some a0) M fun _ =>
  bdC (fHb_regionOf a0 x1 M n) n fun v2 M3 n4 =>
  rk 6 v2 M3 fun a5 =>
  bdW (fRegion_isSound a5 M3) fun v8 M9 =>
  rZ v8 (some (.inl v8, M9, n4))
theorem wHb_agrees {X : MC} {G : GE} {n0 : Nat} (C : CX X G RX11 cX11_agrees pHb_agrees 2 (some .boolean) n0) (htab : ∀ z ∈ X.2.2.2.2.2.2.2.2.exceptionTable.toList, False) {σ : Sg} (a0 : Nat) (x1 : Int32) (M : Mm) (n : Nat) : JS X G 2 300 0 n0 (EM X G n0 9 300 (eC rvI σ)) (fHb_agrees a0 x1 M n) (σ, M, n) 0 [(0, .inr (.inl (some a0))), (1, .inl x1)] [] := by
  unfold fHb_agrees
  refine s_blk C 0 2 [] (pc' := 2) (lv' := []) (st' := [.inl x1, .inr (.inl (some a0))]) rfl ?_
  refine s_rks (fun hk1 => ?_)
  refine s_CR C htab (st := []) (fun o ho => j_callV (As := [.inl x1]) (st := []) (b := a0) C 2 rfl mf_Hb_regionOf ml_X11_65 rfl (recv_K C (by decide) (by decide) rfl hk1) (by decide) (by decide) (Nat.le_refl _) rfl (cHb_regionOf (CX_tr C) σ M n a0 x1 o ho)) (fun v2 M3 n4 _ => ?_)
  refine s_rk (fun a5 ha6 hk7 => ?_)
  subst ha6
  refine s_WI (CE_EM _ _ _ _ _ _) (st := []) (fun o ho => j_callV (As := []) (st := []) (b := a5) C 3 rfl mf_Region_isSound ml_X11_280 rfl (recv_K C (by decide) (by decide) rfl hk7) (by decide) (by decide) (Nat.le_refl _) rfl (cRegion_isSound (CX_tr C) σ M3 n4 a5 o ho)) (fun v8 M9 => ?_)
  exact s_zret C 4 rfl rfl
theorem cHb_agrees {l : Launch} {G : GE} (htr : l.stackTraces = false) (σ : Sg) (M : Mm) (n : Nat) (a0 : Nat) (x1 : Int32) : ∀ o, fHb_agrees a0 x1 M n = some o → MetX l G yX11_agrees cX11_agrees 2 (some .boolean) 9 300 [.inr (.inl (some a0)), .inl x1] (σ, M, n) ((eC rvI σ) o) :=
  c_ofX (by decide) kHb_agrees htr rfl rfl fun X _ _ C htab => wHb_agrees C htab a0 x1 _ _
def pRegion_latest : List BR := [(0, .aload_n 0, 1, 0, 1), (1, .getfield 21, 3, 0, 4), (4, .invokevirtual 32, 3, 0, 7), (7, .iconst 1, 1, 1, 8), (8, .isub, 1, 0, 9), (9, .istore_n 2, 1, 0, 10), (10, .iload_n 2, 1, 0, 11), (11, .ifCond .lt (42), 3, 0, 53), (14, .aload_n 0, 1, 0, 15), (15, .getfield 21, 3, 0, 18), (18, .iload_n 2, 1, 0, 19), (19, .invokevirtual 36, 3, 0, 22), (22, .checkcast 40, 3, 0, 25), (25, .getfield 42, 3, 0, 28), (28, .getfield 46, 3, 0, 31), (31, .iload_n 1, 1, 0, 32), (32, .if_icmp .ne (15), 3, 0, 47), (35, .aload_n 0, 1, 0, 36), (36, .getfield 21, 3, 0, 39), (39, .iload_n 2, 1, 0, 40), (40, .invokevirtual 36, 3, 0, 43), (43, .checkcast 40, 3, 0, 46), (46, .areturn, 1, 0, 47), (47, .iinc 2 (-1), 3, -1, 50), (50, .goto (-40), 3, 0, 10), (53, .aconst_null, 1, 0, 54), (54, .areturn, 1, 0, 55)]
theorem kRegion_latest : bOK cX6_latest 3 pRegion_latest = true := by decide +kernel
def fRegion_latest_b10 (a0 : Nat) (k10 : Int32 → Int32 → Mm → Option (Option Nat)) (x1 : Int32) (x2 : Int32) (M : Mm) : Option (Option Nat) :=
  if x2 < 0 then
    some none
  else
    fgR 6 601 (some a0) M fun v1 =>
    rk 12 v1 M fun a2 =>
    bdR (fAl_get a2 x2 M) fun v5 =>
    fca 10 v5 M fun v6 =>
    fgR 10 1000 v6 M fun v7 =>
    fgI 4 400 v7 M fun v8 =>
    if v8 = x1 then
      fgR 6 601 (some a0) M fun v9 =>
      rk 12 v9 M fun a10 =>
      bdR (fAl_get a10 x2 M) fun v13 =>
      fca 10 v13 M fun v14 =>
      some v14
    else
      k10 x1 (x2 + (-1)) M
theorem wRegion_latest_b10 {X : MC} {G : GE} {n0 : Nat} (C : CX X G RX6 cX6_latest pRegion_latest 3 (some (.object "BlobHarbor$Version")) n0) (htab : ∀ z ∈ X.2.2.2.2.2.2.2.2.exceptionTable.toList, False) {σ : Sg} {M : Mm} {n : Nat} (a0 : Nat) (k10 : Int32 → Int32 → Mm → Option (Option Nat)) (H10 : ∀ (x1 : Int32) (x2 : Int32), JS X G 3 300 0 n0 (EM X G n0 5 300 (eR rvR σ M n)) (k10 x1 x2 M) (σ, M, n) 10 [(0, .inr (.inl (some a0))), (1, .inl x1), (2, .inl x2)] []) (x1 : Int32) (x2 : Int32) : JS X G 3 300 0 n0 (EM X G n0 5 300 (eR rvR σ M n)) (fRegion_latest_b10 a0 k10 x1 x2 M) (σ, M, n) 10 [(0, .inr (.inl (some a0))), (1, .inl x1), (2, .inl x2)] [] := by
  unfold fRegion_latest_b10
  refine s_blk C 6 1 [0, 1, 2] (pc' := 11) (lv' := [(0, .inr (.inl (some a0))), (1, .inl x1), (2, .inl x2)]) (st' := [.inl x2]) rfl ?_
  refine s_ilt C 7 rfl (fun _ => ?_) (fun _ => ?_)
  · refine s_blk C 25 1 [] (pc' := 54) (lv' := []) (st' := [.inr (.inl none)]) rfl ?_
    exact s_aret (Or.inl ⟨_, rfl⟩) C 26 rfl rfl
  refine s_blk C 8 1 [0, 1, 2] (pc' := 15) (lv' := [(0, .inr (.inl (some a0))), (1, .inl x1), (2, .inl x2)]) (st' := [.inr (.inl (some a0))]) rfl ?_
  refine s_gR C 9 rfl fl_X6_21 rfl rfl (fun v1 => ?_)
  refine s_blk C 10 1 [0, 1, 2] (pc' := 19) (lv' := [(0, .inr (.inl (some a0))), (1, .inl x1), (2, .inl x2)]) (st' := [.inl x2, .inr (.inl v1)]) rfl ?_
  refine s_rk (fun a2 ha3 hk4 => ?_)
  subst ha3
  refine s_RR (CE_EM _ _ _ _ _ _) (st := []) (fun o ho => j_callV (As := [.inl x2]) (st := []) (b := a2) C 11 rfl mf_Al_get ml_X6_36 rfl (recv_K C (by decide) (by decide) rfl hk4) (by decide) (by decide) (Nat.le_refl _) rfl (cAl_get (CX_tr C) σ M n a2 x2 o ho)) (fun v5 => ?_)
  refine s_cast C 12 rfl rfl (by decide) (by decide) cw_X6_40 (fun v6 => ?_)
  refine s_gR C 13 rfl fl_X6_42 rfl rfl (fun v7 => ?_)
  refine s_gI C 14 rfl fl_X6_46 rfl rfl (fun v8 => ?_)
  refine s_blk C 15 1 [0, 1, 2] (pc' := 32) (lv' := [(0, .inr (.inl (some a0))), (1, .inl x1), (2, .inl x2)]) (st' := [.inl x1, .inl v8]) rfl ?_
  refine s_icne C 16 rfl (fun _ => ?_) (fun _ => ?_)
  · refine s_blk C 17 1 [2] (pc' := 36) (lv' := [(2, .inl x2)]) (st' := [.inr (.inl (some a0))]) rfl ?_
    refine s_gR C 18 rfl fl_X6_21 rfl rfl (fun v9 => ?_)
    refine s_blk C 19 1 [] (pc' := 40) (lv' := []) (st' := [.inl x2, .inr (.inl v9)]) rfl ?_
    refine s_rk (fun a10 ha11 hk12 => ?_)
    subst ha11
    refine s_RR (CE_EM _ _ _ _ _ _) (st := []) (fun o ho => j_callV (As := [.inl x2]) (st := []) (b := a10) C 20 rfl mf_Al_get ml_X6_36 rfl (recv_K C (by decide) (by decide) rfl hk12) (by decide) (by decide) (Nat.le_refl _) rfl (cAl_get (CX_tr C) σ M n a10 x2 o ho)) (fun v13 => ?_)
    refine s_cast C 21 rfl rfl (by decide) (by decide) cw_X6_40 (fun v14 => ?_)
    exact s_aret (Or.inl ⟨_, rfl⟩) C 22 rfl rfl
  refine s_blk C 23 2 [0, 1, 2] (pc' := 10) (lv' := [(0, .inr (.inl (some a0))), (1, .inl x1), (2, .inl (x2 + (-1)))]) (st' := []) rfl ?_
  exact H10 _ _
def fRegion_latest_l10 (a0 : Nat) (fu : Nat) : Int32 → Int32 → Mm → Option (Option Nat) := Nat.rec (fun x1 x2 M => none) (fun _ k => fRegion_latest_b10 a0 k) fu
theorem wRegion_latest_l10 {X : MC} {G : GE} {n0 : Nat} (C : CX X G RX6 cX6_latest pRegion_latest 3 (some (.object "BlobHarbor$Version")) n0) (htab : ∀ z ∈ X.2.2.2.2.2.2.2.2.exceptionTable.toList, False) {σ : Sg} {M : Mm} {n : Nat} (a0 : Nat) : ∀ (fu : Nat) (x1 : Int32) (x2 : Int32), JS X G 3 300 0 n0 (EM X G n0 5 300 (eR rvR σ M n)) (fRegion_latest_l10 a0 fu x1 x2 M) (σ, M, n) 10 [(0, .inr (.inl (some a0))), (1, .inl x1), (2, .inl x2)] [] := by
  intro fu
  induction fu with
  | zero => intro x1 x2; exact s_none
  | succ fu ih => intro x1 x2; exact wRegion_latest_b10 C htab a0 (fRegion_latest_l10 a0 fu) ih _ _
def fRegion_latest (a0 : Nat) (x1 : Int32) (M : Mm) : Option (Option Nat) :=
  fgR 6 601 (some a0) M fun v1 =>
  rk 12 v1 M fun a2 =>
  bdR (fAl_size a2 M) fun v5 =>
  fRegion_latest_l10 a0 FU x1 (v5 - 1) M
theorem wRegion_latest {X : MC} {G : GE} {n0 : Nat} (C : CX X G RX6 cX6_latest pRegion_latest 3 (some (.object "BlobHarbor$Version")) n0) (htab : ∀ z ∈ X.2.2.2.2.2.2.2.2.exceptionTable.toList, False) {σ : Sg} {M : Mm} {n : Nat} (a0 : Nat) (x1 : Int32) : JS X G 3 300 0 n0 (EM X G n0 5 300 (eR rvR σ M n)) (fRegion_latest a0 x1 M) (σ, M, n) 0 [(0, .inr (.inl (some a0))), (1, .inl x1)] [] := by
  unfold fRegion_latest
  refine s_blk C 0 1 [0, 1] (pc' := 1) (lv' := [(0, .inr (.inl (some a0))), (1, .inl x1)]) (st' := [.inr (.inl (some a0))]) rfl ?_
  refine s_gR C 1 rfl fl_X6_21 rfl rfl (fun v1 => ?_)
  refine s_rk (fun a2 ha3 hk4 => ?_)
  subst ha3
  refine s_RI (CE_EM _ _ _ _ _ _) (st := []) (fun o ho => j_callV (As := []) (st := []) (b := a2) C 2 rfl mf_Al_size ml_X6_32 rfl (recv_K C (by decide) (by decide) rfl hk4) (by decide) (by decide) (Nat.le_refl _) rfl (cAl_size (CX_tr C) σ M n a2 o ho)) (fun v5 => ?_)
  refine s_blk C 3 3 [0, 1, 2] (pc' := 10) (lv' := [(0, .inr (.inl (some a0))), (1, .inl x1), (2, .inl (v5 - 1))]) (st' := []) rfl ?_
  exact wRegion_latest_l10 C htab a0 FU _ _
theorem cRegion_latest {l : Launch} {G : GE} (htr : l.stackTraces = false) (σ : Sg) (M : Mm) (n : Nat) (a0 : Nat) (x1 : Int32) : ∀ o, fRegion_latest a0 x1 M = some o → MetX l G yX6_latest cX6_latest 3 (some (.object "BlobHarbor$Version")) 5 300 [.inr (.inl (some a0)), .inl x1] (σ, M, n) ((eR rvR σ M n) o) :=
  c_ofX (by decide) kRegion_latest htr rfl rfl fun X _ _ C htab => wRegion_latest C htab a0 x1
def pHb_isObject : List BR := [(0, .aload_n 0, 1, 0, 1), (1, .ifnull (17), 3, 0, 18), (4, .aload_n 0, 1, 0, 5), (5, .getfield 196, 3, 0, 8), (8, .invokevirtual 212, 3, 0, 11), (11, .ifCond .ne (7), 3, 0, 18), (14, .iconst 1, 1, 1, 15), (15, .goto (4), 3, 0, 19), (18, .iconst 0, 1, 0, 19), (19, .ireturn, 1, 0, 20)]
theorem kHb_isObject : bOK cX11_isObject 1 pHb_isObject = true := by decide +kernel
def fHb_isObject (r0 : Option Nat) (M : Mm) : Option (Int32) :=
  ifN r0
    (rZ 0 (some 0))
    (fgR 10 1000 r0 M fun v1 =>
    rk 4 v1 M fun a2 =>
    bdR (fEntry_isMark a2 M) fun v5 =>
    if v5 = 0 then
      rZ 1 (some 1)
    else
      rZ 0 (some 0))
theorem wHb_isObject {X : MC} {G : GE} {n0 : Nat} (C : CX X G RX11 cX11_isObject pHb_isObject 1 (some .boolean) n0) (htab : ∀ z ∈ X.2.2.2.2.2.2.2.2.exceptionTable.toList, False) {σ : Sg} {M : Mm} {n : Nat} (r0 : Option Nat) : JS X G 1 300 0 n0 (EM X G n0 3 300 (eR rvI σ M n)) (fHb_isObject r0 M) (σ, M, n) 0 [(0, .inr (.inl r0))] [] := by
  unfold fHb_isObject
  refine s_blk C 0 1 [0] (pc' := 1) (lv' := [(0, .inr (.inl r0))]) (st' := [.inr (.inl r0)]) rfl ?_
  refine s_null C 1 rfl ?_ ?_
  · refine s_blk C 8 1 [] (pc' := 19) (lv' := []) (st' := [.inl 0]) rfl ?_
    exact s_zret C 9 rfl rfl
  refine s_blk C 2 1 [] (pc' := 5) (lv' := []) (st' := [.inr (.inl r0)]) rfl ?_
  refine s_gR C 3 rfl fl_X11_196 rfl rfl (fun v1 => ?_)
  refine s_rk (fun a2 ha3 hk4 => ?_)
  subst ha3
  refine s_RI (CE_EM _ _ _ _ _ _) (st := []) (fun o ho => j_callV (As := []) (st := []) (b := a2) C 4 rfl mf_Entry_isMark ml_X11_212 rfl (recv_K C (by decide) (by decide) rfl hk4) (by decide) (by decide) (Nat.le_refl _) rfl (cEntry_isMark (CX_tr C) σ M n a2 o ho)) (fun v5 => ?_)
  refine s_ine C 5 rfl (fun _ => ?_) (fun _ => ?_)
  · refine s_blk C 6 2 [] (pc' := 19) (lv' := []) (st' := [.inl 1]) rfl ?_
    exact s_zret C 9 rfl rfl
  refine s_blk C 8 1 [] (pc' := 19) (lv' := []) (st' := [.inl 0]) rfl ?_
  exact s_zret C 9 rfl rfl
theorem cHb_isObject {l : Launch} {G : GE} (htr : l.stackTraces = false) (σ : Sg) (M : Mm) (n : Nat) (r0 : Option Nat) : ∀ o, fHb_isObject r0 M = some o → MetX l G yX11_isObject cX11_isObject 1 (some .boolean) 3 300 [.inr (.inl r0)] (σ, M, n) ((eR rvI σ M n) o) :=
  c_ofX (by decide) kHb_isObject htr rfl rfl fun X _ _ C htab => wHb_isObject C htab r0
def pBytes_isSame : List BR := [(0, .aload_n 0, 1, 0, 1), (1, .getfield 15, 3, 0, 4), (4, .aload_n 1, 1, 0, 5), (5, .getfield 15, 3, 0, 8), (8, .if_icmp .eq (5), 3, 0, 13), (11, .iconst 0, 1, 0, 12), (12, .ireturn, 1, 0, 13), (13, .iconst 0, 1, 0, 14), (14, .istore_n 2, 1, 0, 15), (15, .iload_n 2, 1, 0, 16), (16, .aload_n 0, 1, 0, 17), (17, .getfield 15, 3, 0, 20), (20, .if_icmp .ge (24), 3, 0, 44), (23, .aload_n 0, 1, 0, 24), (24, .iload_n 2, 1, 0, 25), (25, .invokevirtual 19, 3, 0, 28), (28, .aload_n 1, 1, 0, 29), (29, .iload_n 2, 1, 0, 30), (30, .invokevirtual 19, 3, 0, 33), (33, .if_icmp .eq (5), 3, 0, 38), (36, .iconst 0, 1, 0, 37), (37, .ireturn, 1, 0, 38), (38, .iinc 2 (1), 3, 1, 41), (41, .goto (-26), 3, 0, 15), (44, .iconst 1, 1, 1, 45), (45, .ireturn, 1, 0, 46)]
theorem kBytes_isSame : bOK cX0_isSame 3 pBytes_isSame = true := by decide +kernel
def fBytes_isSame_b15 (a0 : Nat) (k15 : Option Nat → Int32 → Mm → Option (Int32)) (r1 : Option Nat) (x2 : Int32) (M : Mm) : Option (Int32) :=
  fgI 1 101 (some a0) M fun v1 =>
  if v1 ≤ x2 then
    rZ 1 (some 1)
  else
    rk 1 (some a0) M fun _ =>
    bdR (fBytes_at a0 x2 M) fun v3 =>
    rk 1 r1 M fun a4 =>
    bdR (fBytes_at a4 x2 M) fun v7 =>
    if v3 = v7 then
      k15 r1 (x2 + 1) M
    else
      rZ 0 (some 0)
theorem wBytes_isSame_b15 {X : MC} {G : GE} {n0 : Nat} (C : CX X G RX0 cX0_isSame pBytes_isSame 3 (some .boolean) n0) (htab : ∀ z ∈ X.2.2.2.2.2.2.2.2.exceptionTable.toList, False) {σ : Sg} {M : Mm} {n : Nat} (a0 : Nat) (k15 : Option Nat → Int32 → Mm → Option (Int32)) (H15 : ∀ (r1 : Option Nat) (x2 : Int32), JS X G 3 300 0 n0 (EM X G n0 3 300 (eR rvI σ M n)) (k15 r1 x2 M) (σ, M, n) 15 [(0, .inr (.inl (some a0))), (1, .inr (.inl r1)), (2, .inl x2)] []) (r1 : Option Nat) (x2 : Int32) : JS X G 3 300 0 n0 (EM X G n0 3 300 (eR rvI σ M n)) (fBytes_isSame_b15 a0 k15 r1 x2 M) (σ, M, n) 15 [(0, .inr (.inl (some a0))), (1, .inr (.inl r1)), (2, .inl x2)] [] := by
  unfold fBytes_isSame_b15
  refine s_blk C 9 2 [0, 1, 2] (pc' := 17) (lv' := [(0, .inr (.inl (some a0))), (1, .inr (.inl r1)), (2, .inl x2)]) (st' := [.inr (.inl (some a0)), .inl x2]) rfl ?_
  refine s_gI C 11 rfl fl_X0_15 rfl rfl (fun v1 => ?_)
  refine s_icge C 12 rfl (fun _ => ?_) (fun _ => ?_)
  · refine s_blk C 24 1 [] (pc' := 45) (lv' := []) (st' := [.inl 1]) rfl ?_
    exact s_zret C 25 rfl rfl
  refine s_blk C 13 2 [0, 1, 2] (pc' := 25) (lv' := [(0, .inr (.inl (some a0))), (1, .inr (.inl r1)), (2, .inl x2)]) (st' := [.inl x2, .inr (.inl (some a0))]) rfl ?_
  refine s_rks (fun hk2 => ?_)
  refine s_RI (CE_EM _ _ _ _ _ _) (st := []) (fun o ho => j_callV (As := [.inl x2]) (st := []) (b := a0) C 15 rfl mf_Bytes_at ml_X0_19 rfl (recv_K C (by decide) (by decide) rfl hk2) (by decide) (by decide) (Nat.le_refl _) rfl (cBytes_at (CX_tr C) σ M n a0 x2 o ho)) (fun v3 => ?_)
  refine s_blk C 16 2 [0, 1, 2] (pc' := 30) (lv' := [(0, .inr (.inl (some a0))), (1, .inr (.inl r1)), (2, .inl x2)]) (st' := [.inl x2, .inr (.inl r1), .inl v3]) rfl ?_
  refine s_rk (fun a4 ha5 hk6 => ?_)
  subst ha5
  refine s_RI (CE_EM _ _ _ _ _ _) (st := [.inl v3]) (fun o ho => j_callV (As := [.inl x2]) (st := [.inl v3]) (b := a4) C 18 rfl mf_Bytes_at ml_X0_19 rfl (recv_K C (by decide) (by decide) rfl hk6) (by decide) (by decide) (Nat.le_refl _) rfl (cBytes_at (CX_tr C) σ M n a4 x2 o ho)) (fun v7 => ?_)
  refine s_iceq C 19 rfl (fun _ => ?_) (fun _ => ?_)
  · refine s_blk C 22 2 [0, 1, 2] (pc' := 15) (lv' := [(0, .inr (.inl (some a0))), (1, .inr (.inl (some a4))), (2, .inl (x2 + 1))]) (st' := []) rfl ?_
    exact H15 _ _
  refine s_blk C 20 1 [] (pc' := 37) (lv' := []) (st' := [.inl 0]) rfl ?_
  exact s_zret C 21 rfl rfl
def fBytes_isSame_l15 (a0 : Nat) (fu : Nat) : Option Nat → Int32 → Mm → Option (Int32) := Nat.rec (fun r1 x2 M => none) (fun _ k => fBytes_isSame_b15 a0 k) fu
theorem wBytes_isSame_l15 {X : MC} {G : GE} {n0 : Nat} (C : CX X G RX0 cX0_isSame pBytes_isSame 3 (some .boolean) n0) (htab : ∀ z ∈ X.2.2.2.2.2.2.2.2.exceptionTable.toList, False) {σ : Sg} {M : Mm} {n : Nat} (a0 : Nat) : ∀ (fu : Nat) (r1 : Option Nat) (x2 : Int32), JS X G 3 300 0 n0 (EM X G n0 3 300 (eR rvI σ M n)) (fBytes_isSame_l15 a0 fu r1 x2 M) (σ, M, n) 15 [(0, .inr (.inl (some a0))), (1, .inr (.inl r1)), (2, .inl x2)] [] := by
  intro fu
  induction fu with
  | zero => intro r1 x2; exact s_none
  | succ fu ih => intro r1 x2; exact wBytes_isSame_b15 C htab a0 (fBytes_isSame_l15 a0 fu) ih _ _
def fBytes_isSame (a0 : Nat) (r1 : Option Nat) (M : Mm) : Option (Int32) :=
  fgI 1 101 (some a0) M fun v1 =>
  fgI 1 101 r1 M fun v2 =>
  if v1 = v2 then
    fBytes_isSame_l15 a0 FU r1 0 M
  else
    rZ 0 (some 0)
theorem wBytes_isSame {X : MC} {G : GE} {n0 : Nat} (C : CX X G RX0 cX0_isSame pBytes_isSame 3 (some .boolean) n0) (htab : ∀ z ∈ X.2.2.2.2.2.2.2.2.exceptionTable.toList, False) {σ : Sg} {M : Mm} {n : Nat} (a0 : Nat) (r1 : Option Nat) : JS X G 3 300 0 n0 (EM X G n0 3 300 (eR rvI σ M n)) (fBytes_isSame a0 r1 M) (σ, M, n) 0 [(0, .inr (.inl (some a0))), (1, .inr (.inl r1))] [] := by
  unfold fBytes_isSame
  refine s_blk C 0 1 [0, 1] (pc' := 1) (lv' := [(0, .inr (.inl (some a0))), (1, .inr (.inl r1))]) (st' := [.inr (.inl (some a0))]) rfl ?_
  refine s_gI C 1 rfl fl_X0_15 rfl rfl (fun v1 => ?_)
  refine s_blk C 2 1 [0, 1] (pc' := 5) (lv' := [(0, .inr (.inl (some a0))), (1, .inr (.inl r1))]) (st' := [.inr (.inl r1), .inl v1]) rfl ?_
  refine s_gI C 3 rfl fl_X0_15 rfl rfl (fun v2 => ?_)
  refine s_iceq C 4 rfl (fun _ => ?_) (fun _ => ?_)
  · refine s_blk C 7 2 [0, 1, 2] (pc' := 15) (lv' := [(0, .inr (.inl (some a0))), (1, .inr (.inl r1)), (2, .inl 0)]) (st' := []) rfl ?_
    exact wBytes_isSame_l15 C htab a0 FU _ _
  refine s_blk C 5 1 [] (pc' := 12) (lv' := []) (st' := [.inl 0]) rfl ?_
  exact s_zret C 6 rfl rfl
theorem cBytes_isSame {l : Launch} {G : GE} (htr : l.stackTraces = false) (σ : Sg) (M : Mm) (n : Nat) (a0 : Nat) (r1 : Option Nat) : ∀ o, fBytes_isSame a0 r1 M = some o → MetX l G yX0_isSame cX0_isSame 3 (some .boolean) 3 300 [.inr (.inl (some a0)), .inr (.inl r1)] (σ, M, n) ((eR rvI σ M n) o) :=
  c_ofX (by decide) kBytes_isSame htr rfl rfl fun X _ _ C htab => wBytes_isSame C htab a0 r1

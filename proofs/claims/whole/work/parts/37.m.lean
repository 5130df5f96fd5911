def pHb_mend : List BR := [(0, .aload_n 0, 1, 0, 1), (1, .iload_n 1, 1, 0, 2), (2, .invokevirtual 65, 3, 0, 5), (5, .getfield 215, 3, 0, 8), (8, .astore_n 3, 1, 0, 9), (9, .iload_n 2, 1, 0, 10), (10, .iconst 1, 1, 1, 11), (11, .bipush 99, 2, 99, 13), (13, .invokestatic 46, 3, 0, 16), (16, .iconst 0, 1, 0, 17), (17, .istore 4, 2, 0, 19), (19, .iload 4, 2, 0, 21), (21, .iload_n 2, 1, 0, 22), (22, .if_icmp .ge (19), 3, 0, 41), (25, .aload_n 3, 1, 0, 26), (26, .invokevirtual 252, 3, 0, 29), (29, .ifCond .ne (6), 3, 0, 35), (32, .iload 4, 2, 0, 34), (34, .ireturn, 1, 0, 35), (35, .iinc 4 (1), 3, 1, 38), (38, .goto (-19), 3, 0, 19), (41, .iload_n 2, 1, 0, 42), (42, .ireturn, 1, 0, 43)]
theorem kHb_mend : bOK cX11_mend 5 pHb_mend = true := by decide +kernel
def fHb_mend_b19 (a0 : Nat) (k19 : Int32 → Option Nat → Int32 → Mm → Nat → Option ((Int32 ⊕ Nat) × Mm × Nat)) (x2 : Int32) (r3 : Option Nat) (x4 : Int32) (M : Mm) (n : Nat) : Option ((Int32 ⊕ Nat) × Mm × Nat) :=
  if x2 ≤ x4 then
    some (.inl x2, M, n)
  else
    rk 8 r3 M fun a1 =>
    bdW (fStore_mendOne a1 M) fun v4 M5 =>
    if v4 = 0 then
      some (.inl x4, M5, n)
    else
      k19 x2 r3 (x4 + 1) M5 n
theorem wHb_mend_b19 {X : MC} {G : GE} {n0 : Nat} (C : CX X G RX11 cX11_mend pHb_mend 5 (some .int) n0) (htab : ∀ z ∈ X.2.2.2.2.2.2.2.2.exceptionTable.toList, False) {σ : Sg} (a0 : Nat) (k19 : Int32 → Option Nat → Int32 → Mm → Nat → Option ((Int32 ⊕ Nat) × Mm × Nat)) (H19 : ∀ (x2 : Int32) (r3 : Option Nat) (x4 : Int32) (M : Mm) (n : Nat), JS X G 5 300 0 n0 (EM X G n0 9 300 (eC rvI σ)) (k19 x2 r3 x4 M n) (σ, M, n) 19 [(2, .inl x2), (3, .inr (.inl r3)), (4, .inl x4)] []) (x2 : Int32) (r3 : Option Nat) (x4 : Int32) (M : Mm) (n : Nat) : JS X G 5 300 0 n0 (EM X G n0 9 300 (eC rvI σ)) (fHb_mend_b19 a0 k19 x2 r3 x4 M n) (σ, M, n) 19 [(2, .inl x2), (3, .inr (.inl r3)), (4, .inl x4)] [] := by
  unfold fHb_mend_b19
  refine s_blk C 11 2 [2, 3, 4] (pc' := 22) (lv' := [(2, .inl x2), (3, .inr (.inl r3)), (4, .inl x4)]) (st' := [.inl x2, .inl x4]) rfl ?_
  refine s_icge C 13 rfl (fun _ => ?_) (fun _ => ?_)
  · refine s_blk C 21 1 [] (pc' := 42) (lv' := []) (st' := [.inl x2]) rfl ?_
    exact s_iret C 22 rfl rfl
  refine s_blk C 14 1 [2, 3, 4] (pc' := 26) (lv' := [(2, .inl x2), (3, .inr (.inl r3)), (4, .inl x4)]) (st' := [.inr (.inl r3)]) rfl ?_
  refine s_rk (fun a1 ha2 hk3 => ?_)
  subst ha2
  refine s_WI (CE_EM _ _ _ _ _ _) (st := []) (fun o ho => j_callV (As := []) (st := []) (b := a1) C 15 rfl mf_Store_mendOne ml_X11_252 rfl (recv_K C (by decide) (by decide) rfl hk3) (by decide) (by decide) (Nat.le_refl _) rfl (cStore_mendOne (CX_tr C) σ M n a1 o ho)) (fun v4 M5 => ?_)
  refine s_ine C 16 rfl (fun _ => ?_) (fun _ => ?_)
  · refine s_blk C 17 1 [] (pc' := 34) (lv' := []) (st' := [.inl x4]) rfl ?_
    exact s_iret C 18 rfl rfl
  refine s_blk C 19 2 [2, 3, 4] (pc' := 19) (lv' := [(2, .inl x2), (3, .inr (.inl (some a1))), (4, .inl (x4 + 1))]) (st' := []) rfl ?_
  exact H19 _ _ _ _ _
def fHb_mend_l19 (a0 : Nat) (fu : Nat) : Int32 → Option Nat → Int32 → Mm → Nat → Option ((Int32 ⊕ Nat) × Mm × Nat) := Nat.rec (fun x2 r3 x4 M n => none) (fun _ k => fHb_mend_b19 a0 k) fu
theorem wHb_mend_l19 {X : MC} {G : GE} {n0 : Nat} (C : CX X G RX11 cX11_mend pHb_mend 5 (some .int) n0) (htab : ∀ z ∈ X.2.2.2.2.2.2.2.2.exceptionTable.toList, False) {σ : Sg} (a0 : Nat) : ∀ (fu : Nat) (x2 : Int32) (r3 : Option Nat) (x4 : Int32) (M : Mm) (n : Nat), JS X G 5 300 0 n0 (EM X G n0 9 300 (eC rvI σ)) (fHb_mend_l19 a0 fu x2 r3 x4 M n) (σ, M, n) 19 [(2, .inl x2), (3, .inr (.inl r3)), (4, .inl x4)] [] := by
  intro fu
  induction fu with
  | zero => intro x2 r3 x4 M n; exact s_none
  | succ fu ih => intro x2 r3 x4 M n; exact wHb_mend_b19 C htab a0 (fHb_mend_l19 a0 fu) ih _ _ _ _ _
def fHb_mend (a0 : Nat) (x1 : Int32) (x2 : Int32) (M : Mm) (n : Nat) : Option ((Int32 ⊕ Nat) × Mm × Nat) :=
  rk 11 (some a0) M fun _ =>
  bdC (fHb_regionOf a0 x1 M n) n fun v2 M3 n4 =>
  fgR 6 600 v2 M3 fun v5 =>
  bdC (fHb_checkRange x2 1 99 M3 n4) n4 fun v6 M7 n8 =>
  fHb_mend_l19 a0 FU x2 v5 0 M7 n8
theorem wHb_mend {X : MC} {G : GE} {n0 : Nat} (C : CX X G RX11 cX11_mend pHb_mend 5 (some .int) n0) (htab : ∀ z ∈ X.2.2.2.2.2.2.2.2.exceptionTable.toList, False) {σ : Sg} (a0 : Nat) (x1 : Int32) (x2 : Int32) (M : Mm) (n : Nat) : JS X G 5 300 0 n0 (EM X G n0 9 300 (eC rvI σ)) (fHb_mend a0 x1 x2 M n) (σ, M, n) 0 [(0, .inr (.inl (some a0))), (1, .inl x1), (2, .inl x2)] [] := by
  unfold fHb_mend
  refine s_blk C 0 2 [2] (pc' := 2) (lv' := [(2, .inl x2)]) (st' := [.inl x1, .inr (.inl (some a0))]) rfl ?_
  refine s_rks (fun hk1 => ?_)
  refine s_CR C htab (st := []) (fun o ho => j_callV (As := [.inl x1]) (st := []) (b := a0) C 2 rfl mf_Hb_regionOf ml_X11_65 rfl (recv_K C (by decide) (by decide) rfl hk1) (by decide) (by decide) (Nat.le_refl _) rfl (cHb_regionOf (CX_tr C) σ M n a0 x1 o ho)) (fun v2 M3 n4 _ => ?_)
  refine s_gR C 3 rfl fl_X11_215 rfl rfl (fun v5 => ?_)
  refine s_blk C 4 4 [2, 3] (pc' := 13) (lv' := [(2, .inl x2), (3, .inr (.inl v5))]) (st' := [.inl 99, .inl 1, .inl x2]) rfl ?_
  refine s_CU C htab (st := []) (fun o ho => j_callS (As := [.inl x2, .inl 1, .inl 99]) (st := []) C 8 rfl mf_Hb_checkRange ml_X11_46 rfl (by decide) (by decide) (Nat.le_refl _) rfl (cHb_checkRange (CX_tr C) σ M3 n4 x2 1 99 o ho)) (fun v6 M7 n8 _ => ?_)
  refine s_blk C 9 2 [2, 3, 4] (pc' := 19) (lv' := [(2, .inl x2), (3, .inr (.inl v5)), (4, .inl 0)]) (st' := []) rfl ?_
  exact wHb_mend_l19 C htab a0 FU _ _ _ _ _
theorem cHb_mend {l : Launch} {G : GE} (htr : l.stackTraces = false) (σ : Sg) (M : Mm) (n : Nat) (a0 : Nat) (x1 : Int32) (x2 : Int32) : ∀ o, fHb_mend a0 x1 x2 M n = some o → MetX l G yX11_mend cX11_mend 5 (some .int) 9 300 [.inr (.inl (some a0)), .inl x1, .inl x2] (σ, M, n) ((eC rvI σ) o) :=
  c_ofX (by decide) kHb_mend htr rfl rfl fun X _ _ C htab => wHb_mend C htab a0 x1 x2 _ _
def pStore_turn : List BR := [(0, .iload_n 1, 1, 0, 1), (1, .ifCond .lt (19), 3, 0, 20), (4, .iload_n 1, 1, 0, 5), (5, .aload_n 0, 1, 0, 6), (6, .getfield 9, 3, 0, 9), (9, .arraylength, 1, 0, 10), (10, .if_icmp .ge (10), 3, 0, 20), (13, .aload_n 0, 1, 0, 14), (14, .getfield 9, 3, 0, 17), (17, .iload_n 1, 1, 0, 18), (18, .iload_n 2, 1, 0, 19), (19, .bastore, 1, 0, 20), (20, .return_, 1, 0, 21)]
theorem kStore_turn : bOK cX8_turn 3 pStore_turn = true := by decide +kernel
def fStore_turn (a0 : Nat) (x1 : Int32) (x2 : Int32) (M : Mm) : Option (Unit × Mm) :=
  if x1 < 0 then
    some ((), M)
  else
    fgR 8 800 (some a0) M fun v1 =>
    aln v1 M fun v2 =>
    if v2 ≤ x1 then
      some ((), M)
    else
      fgR 8 800 (some a0) M fun v3 =>
      asZ v3 x1 x2 M fun M4 =>
      some ((), M4)
theorem wStore_turn {X : MC} {G : GE} {n0 : Nat} (C : CX X G RX8 cX8_turn pStore_turn 3 none n0) (htab : ∀ z ∈ X.2.2.2.2.2.2.2.2.exceptionTable.toList, False) {σ : Sg} {n : Nat} (a0 : Nat) (x1 : Int32) (x2 : Int32) (M : Mm) : JS X G 3 300 0 n0 (EM X G n0 2 300 (eW rvU σ n)) (fStore_turn a0 x1 x2 M) (σ, M, n) 0 [(0, .inr (.inl (some a0))), (1, .inl x1), (2, .inl x2)] [] := by
  unfold fStore_turn
  refine s_blk C 0 1 [0, 1, 2] (pc' := 1) (lv' := [(0, .inr (.inl (some a0))), (1, .inl x1), (2, .inl x2)]) (st' := [.inl x1]) rfl ?_
  refine s_ilt C 1 rfl (fun _ => ?_) (fun _ => ?_)
  · exact s_vret C 12 rfl rfl
  refine s_blk C 2 2 [0, 1, 2] (pc' := 6) (lv' := [(0, .inr (.inl (some a0))), (1, .inl x1), (2, .inl x2)]) (st' := [.inr (.inl (some a0)), .inl x1]) rfl ?_
  refine s_gR C 4 rfl fl_X8_9 rfl rfl (fun v1 => ?_)
  refine s_len C 5 rfl (fun v2 => ?_)
  refine s_icge C 6 rfl (fun _ => ?_) (fun _ => ?_)
  · exact s_vret C 12 rfl rfl
  refine s_blk C 7 1 [1, 2] (pc' := 14) (lv' := [(1, .inl x1), (2, .inl x2)]) (st' := [.inr (.inl (some a0))]) rfl ?_
  refine s_gR C 8 rfl fl_X8_9 rfl rfl (fun v3 => ?_)
  refine s_blk C 9 2 [] (pc' := 19) (lv' := []) (st' := [.inl x2, .inl x1, .inr (.inl v3)]) rfl ?_
  refine s_stZ C 11 rfl (fun M4 _ => ?_)
  exact s_vret C 12 rfl rfl
theorem cStore_turn {l : Launch} {G : GE} (htr : l.stackTraces = false) (σ : Sg) (M : Mm) (n : Nat) (a0 : Nat) (x1 : Int32) (x2 : Int32) : ∀ o, fStore_turn a0 x1 x2 M = some o → MetX l G yX8_turn cX8_turn 3 none 2 300 [.inr (.inl (some a0)), .inl x1, .inl x2] (σ, M, n) ((eW rvU σ n) o) :=
  c_ofX (by decide) kStore_turn htr rfl rfl fun X _ _ C htab => wStore_turn C htab a0 x1 x2 _
def pPart_loseOn : List BR := [(0, .iconst 0, 1, 0, 1), (1, .istore_n 2, 1, 0, 2), (2, .iconst 0, 1, 0, 3), (3, .istore_n 3, 1, 0, 4), (4, .iload_n 3, 1, 0, 5), (5, .aload_n 0, 1, 0, 6), (6, .getfield 18, 3, 0, 9), (9, .arraylength, 1, 0, 10), (10, .if_icmp .ge (29), 3, 0, 39), (13, .aload_n 0, 1, 0, 14), (14, .getfield 18, 3, 0, 17), (17, .iload_n 3, 1, 0, 18), (18, .iaload, 1, 0, 19), (19, .iload_n 1, 1, 0, 20), (20, .if_icmp .ne (13), 3, 0, 33), (23, .aload_n 0, 1, 0, 24), (24, .getfield 18, 3, 0, 27), (27, .iload_n 3, 1, 0, 28), (28, .iconst (-1), 1, -1, 29), (29, .iastore, 1, 0, 30), (30, .iinc 2 (1), 3, 1, 33), (33, .iinc 3 (1), 3, 1, 36), (36, .goto (-32), 3, 0, 4), (39, .iload_n 2, 1, 0, 40), (40, .ireturn, 1, 0, 41)]
theorem kPart_loseOn : bOK cX5_loseOn 4 pPart_loseOn = true := by decide +kernel
def fPart_loseOn_j33 (a0 : Nat) (k4 : Int32 → Int32 → Int32 → Mm → Option (Int32 × Mm)) (x1 : Int32) (x2 : Int32) (x3 : Int32) (M : Mm) : Option (Int32 × Mm) :=
  k4 x1 x2 (x3 + 1) M
theorem wPart_loseOn_j33 {X : MC} {G : GE} {n0 : Nat} (C : CX X G RX5 cX5_loseOn pPart_loseOn 4 (some .int) n0) (htab : ∀ z ∈ X.2.2.2.2.2.2.2.2.exceptionTable.toList, False) {σ : Sg} {n : Nat} (a0 : Nat) (k4 : Int32 → Int32 → Int32 → Mm → Option (Int32 × Mm)) (H4 : ∀ (x1 : Int32) (x2 : Int32) (x3 : Int32) (M : Mm), JS X G 4 300 0 n0 (EM X G n0 2 300 (eW rvI σ n)) (k4 x1 x2 x3 M) (σ, M, n) 4 [(0, .inr (.inl (some a0))), (1, .inl x1), (2, .inl x2), (3, .inl x3)] []) (x1 : Int32) (x2 : Int32) (x3 : Int32) (M : Mm) : JS X G 4 300 0 n0 (EM X G n0 2 300 (eW rvI σ n)) (fPart_loseOn_j33 a0 k4 x1 x2 x3 M) (σ, M, n) 33 [(0, .inr (.inl (some a0))), (1, .inl x1), (2, .inl x2), (3, .inl x3)] [] := by
  unfold fPart_loseOn_j33
  refine s_blk C 21 2 [0, 1, 2, 3] (pc' := 4) (lv' := [(0, .inr (.inl (some a0))), (1, .inl x1), (2, .inl x2), (3, .inl (x3 + 1))]) (st' := []) rfl ?_
  exact H4 _ _ _ _
def fPart_loseOn_b4 (a0 : Nat) (k4 : Int32 → Int32 → Int32 → Mm → Option (Int32 × Mm)) (x1 : Int32) (x2 : Int32) (x3 : Int32) (M : Mm) : Option (Int32 × Mm) :=
  fgR 5 504 (some a0) M fun v1 =>
  aln v1 M fun v2 =>
  if v2 ≤ x3 then
    some (x2, M)
  else
    fgR 5 504 (some a0) M fun v3 =>
    alI 21 v3 x3 M fun v4 =>
    if v4 = x1 then
      fgR 5 504 (some a0) M fun v5 =>
      asI v5 x3 (-1) M fun M6 =>
      fPart_loseOn_j33 a0 k4 x1 (x2 + 1) x3 M6
    else
      fPart_loseOn_j33 a0 k4 x1 x2 x3 M
theorem wPart_loseOn_b4 {X : MC} {G : GE} {n0 : Nat} (C : CX X G RX5 cX5_loseOn pPart_loseOn 4 (some .int) n0) (htab : ∀ z ∈ X.2.2.2.2.2.2.2.2.exceptionTable.toList, False) {σ : Sg} {n : Nat} (a0 : Nat) (k4 : Int32 → Int32 → Int32 → Mm → Option (Int32 × Mm)) (H4 : ∀ (x1 : Int32) (x2 : Int32) (x3 : Int32) (M : Mm), JS X G 4 300 0 n0 (EM X G n0 2 300 (eW rvI σ n)) (k4 x1 x2 x3 M) (σ, M, n) 4 [(0, .inr (.inl (some a0))), (1, .inl x1), (2, .inl x2), (3, .inl x3)] []) (x1 : Int32) (x2 : Int32) (x3 : Int32) (M : Mm) : JS X G 4 300 0 n0 (EM X G n0 2 300 (eW rvI σ n)) (fPart_loseOn_b4 a0 k4 x1 x2 x3 M) (σ, M, n) 4 [(0, .inr (.inl (some a0))), (1, .inl x1), (2, .inl x2), (3, .inl x3)] [] := by
  unfold fPart_loseOn_b4
  refine s_blk C 4 2 [0, 1, 2, 3] (pc' := 6) (lv' := [(0, .inr (.inl (some a0))), (1, .inl x1), (2, .inl x2), (3, .inl x3)]) (st' := [.inr (.inl (some a0)), .inl x3]) rfl ?_
  refine s_gR C 6 rfl fl_X5_18 rfl rfl (fun v1 => ?_)
  refine s_len C 7 rfl (fun v2 => ?_)
  refine s_icge C 8 rfl (fun _ => ?_) (fun _ => ?_)
  · refine s_blk C 23 1 [] (pc' := 40) (lv' := []) (st' := [.inl x2]) rfl ?_
    exact s_iret C 24 rfl rfl
  refine s_blk C 9 1 [0, 1, 2, 3] (pc' := 14) (lv' := [(0, .inr (.inl (some a0))), (1, .inl x1), (2, .inl x2), (3, .inl x3)]) (st' := [.inr (.inl (some a0))]) rfl ?_
  refine s_gR C 10 rfl fl_X5_18 rfl rfl (fun v3 => ?_)
  refine s_blk C 11 1 [0, 1, 2, 3] (pc' := 18) (lv' := [(0, .inr (.inl (some a0))), (1, .inl x1), (2, .inl x2), (3, .inl x3)]) (st' := [.inl x3, .inr (.inl v3)]) rfl ?_
  refine s_ldI C 12 rfl (fun v4 => ?_)
  refine s_blk C 13 1 [0, 1, 2, 3] (pc' := 20) (lv' := [(0, .inr (.inl (some a0))), (1, .inl x1), (2, .inl x2), (3, .inl x3)]) (st' := [.inl x1, .inl v4]) rfl ?_
  refine s_icne C 14 rfl (fun _ => ?_) (fun _ => ?_)
  · refine s_blk C 15 1 [0, 1, 2, 3] (pc' := 24) (lv' := [(0, .inr (.inl (some a0))), (1, .inl x1), (2, .inl x2), (3, .inl x3)]) (st' := [.inr (.inl (some a0))]) rfl ?_
    refine s_gR C 16 rfl fl_X5_18 rfl rfl (fun v5 => ?_)
    refine s_blk C 17 2 [0, 1, 2, 3] (pc' := 29) (lv' := [(0, .inr (.inl (some a0))), (1, .inl x1), (2, .inl x2), (3, .inl x3)]) (st' := [.inl (-1), .inl x3, .inr (.inl v5)]) rfl ?_
    refine s_stI C 19 rfl (fun M6 _ => ?_)
    refine s_blk C 20 1 [0, 1, 2, 3] (pc' := 33) (lv' := [(0, .inr (.inl (some a0))), (1, .inl x1), (2, .inl (x2 + 1)), (3, .inl x3)]) (st' := []) rfl ?_
    exact wPart_loseOn_j33 C htab a0 k4 H4 _ _ _ _
  exact wPart_loseOn_j33 C htab a0 k4 H4 _ _ _ _
def fPart_loseOn_l4 (a0 : Nat) (fu : Nat) : Int32 → Int32 → Int32 → Mm → Option (Int32 × Mm) := Nat.rec (fun x1 x2 x3 M => none) (fun _ k => fPart_loseOn_b4 a0 k) fu
theorem wPart_loseOn_l4 {X : MC} {G : GE} {n0 : Nat} (C : CX X G RX5 cX5_loseOn pPart_loseOn 4 (some .int) n0) (htab : ∀ z ∈ X.2.2.2.2.2.2.2.2.exceptionTable.toList, False) {σ : Sg} {n : Nat} (a0 : Nat) : ∀ (fu : Nat) (x1 : Int32) (x2 : Int32) (x3 : Int32) (M : Mm), JS X G 4 300 0 n0 (EM X G n0 2 300 (eW rvI σ n)) (fPart_loseOn_l4 a0 fu x1 x2 x3 M) (σ, M, n) 4 [(0, .inr (.inl (some a0))), (1, .inl x1), (2, .inl x2), (3, .inl x3)] [] := by
  intro fu
  induction fu with
  | zero => intro x1 x2 x3 M; exact s_none
  | succ fu ih => intro x1 x2 x3 M; exact wPart_loseOn_b4 C htab a0 (fPart_loseOn_l4 a0 fu) ih _ _ _ _
def fPart_loseOn (a0 : Nat) (x1 : Int32) (M : Mm) : Option (Int32 × Mm) :=
  fPart_loseOn_l4 a0 FU x1 0 0 M
theorem wPart_loseOn {X : MC} {G : GE} {n0 : Nat} (C : CX X G RX5 cX5_loseOn pPart_loseOn 4 (some .int) n0) (htab : ∀ z ∈ X.2.2.2.2.2.2.2.2.exceptionTable.toList, False) {σ : Sg} {n : Nat} (a0 : Nat) (x1 : Int32) (M : Mm) : JS X G 4 300 0 n0 (EM X G n0 2 300 (eW rvI σ n)) (fPart_loseOn a0 x1 M) (σ, M, n) 0 [(0, .inr (.inl (some a0))), (1, .inl x1)] [] := by
  unfold fPart_loseOn
  refine s_blk C 0 4 [0, 1, 2, 3] (pc' := 4) (lv' := [(0, .inr (.inl (some a0))), (1, .inl x1), (2, .inl 0), (3, .inl 0)]) (st' := []) rfl ?_
  exact wPart_loseOn_l4 C htab a0 FU _ _ _ _
theorem cPart_loseOn {l : Launch} {G : GE} (htr : l.stackTraces = false) (σ : Sg) (M : Mm) (n : Nat) (a0 : Nat) (x1 : Int32) : ∀ o, fPart_loseOn a0 x1 M = some o → MetX l G yX5_loseOn cX5_loseOn 4 (some .int) 2 300 [.inr (.inl (some a0)), .inl x1] (σ, M, n) ((eW rvI σ n) o) :=
  c_ofX (by decide) kPart_loseOn htr rfl rfl fun X _ _ C htab => wPart_loseOn C htab a0 x1 _
def pStore_loseShardsOn : List BR := [(0, .iconst 0, 1, 0, 1), (1, .istore_n 2, 1, 0, 2), (2, .iconst 0, 1, 0, 3), (3, .istore_n 3, 1, 0, 4), (4, .iload_n 3, 1, 0, 5), (5, .aload_n 0, 1, 0, 6), (6, .getfield 18, 3, 0, 9), (9, .invokevirtual 40, 3, 0, 12), (12, .if_icmp .ge (27), 3, 0, 39), (15, .iload_n 2, 1, 0, 16), (16, .aload_n 0, 1, 0, 17), (17, .getfield 18, 3, 0, 20), (20, .iload_n 3, 1, 0, 21), (21, .invokevirtual 44, 3, 0, 24), (24, .checkcast 48, 3, 0, 27), (27, .iload_n 1, 1, 0, 28), (28, .invokevirtual 50, 3, 0, 31), (31, .iadd, 1, 0, 32), (32, .istore_n 2, 1, 0, 33), (33, .iinc 3 (1), 3, 1, 36), (36, .goto (-32), 3, 0, 4), (39, .iload_n 2, 1, 0, 40), (40, .ireturn, 1, 0, 41)]
theorem kStore_loseShardsOn : bOK cX8_loseShardsOn 4 pStore_loseShardsOn = true := by decide +kernel
def fStore_loseShardsOn_b4 (a0 : Nat) (k4 : Int32 → Int32 → Int32 → Mm → Option (Int32 × Mm)) (x1 : Int32) (x2 : Int32) (x3 : Int32) (M : Mm) : Option (Int32 × Mm) :=
  fgR 8 801 (some a0) M fun v1 =>
  rk 12 v1 M fun a2 =>
  bdR (fAl_size a2 M) fun v5 =>
  if v5 ≤ x3 then
    some (x2, M)
  else
    fgR 8 801 (some a0) M fun v6 =>
    rk 12 v6 M fun a7 =>
    bdR (fAl_get a7 x3 M) fun v10 =>
    fca 5 v10 M fun v11 =>
    rk 5 v11 M fun a12 =>
    bdW (fPart_loseOn a12 x1 M) fun v15 M16 =>
    k4 x1 (x2 + v15) (x3 + 1) M16
theorem wStore_loseShardsOn_b4 {X : MC} {G : GE} {n0 : Nat} (C : CX X G RX8 cX8_loseShardsOn pStore_loseShardsOn 4 (some .int) n0) (htab : ∀ z ∈ X.2.2.2.2.2.2.2.2.exceptionTable.toList, False) {σ : Sg} {n : Nat} (a0 : Nat) (k4 : Int32 → Int32 → Int32 → Mm → Option (Int32 × Mm)) (H4 : ∀ (x1 : Int32) (x2 : Int32) (x3 : Int32) (M : Mm), JS X G 4 300 0 n0 (EM X G n0 5 300 (eW rvI σ n)) (k4 x1 x2 x3 M) (σ, M, n) 4 [(0, .inr (.inl (some a0))), (1, .inl x1), (2, .inl x2), (3, .inl x3)] []) (x1 : Int32) (x2 : Int32) (x3 : Int32) (M : Mm) : JS X G 4 300 0 n0 (EM X G n0 5 300 (eW rvI σ n)) (fStore_loseShardsOn_b4 a0 k4 x1 x2 x3 M) (σ, M, n) 4 [(0, .inr (.inl (some a0))), (1, .inl x1), (2, .inl x2), (3, .inl x3)] [] := by
  unfold fStore_loseShardsOn_b4
  refine s_blk C 4 2 [0, 1, 2, 3] (pc' := 6) (lv' := [(0, .inr (.inl (some a0))), (1, .inl x1), (2, .inl x2), (3, .inl x3)]) (st' := [.inr (.inl (some a0)), .inl x3]) rfl ?_
  refine s_gR C 6 rfl fl_X8_18 rfl rfl (fun v1 => ?_)
  refine s_rk (fun a2 ha3 hk4 => ?_)
  subst ha3
  refine s_RI (CE_EM _ _ _ _ _ _) (st := [.inl x3]) (fun o ho => j_callV (As := []) (st := [.inl x3]) (b := a2) C 7 rfl mf_Al_size ml_X8_40 rfl (recv_K C (by decide) (by decide) rfl hk4) (by decide) (by decide) (Nat.le_refl _) rfl (cAl_size (CX_tr C) σ M n a2 o ho)) (fun v5 => ?_)
  refine s_icge C 8 rfl (fun _ => ?_) (fun _ => ?_)
  · refine s_blk C 21 1 [] (pc' := 40) (lv' := []) (st' := [.inl x2]) rfl ?_
    exact s_iret C 22 rfl rfl
  refine s_blk C 9 2 [0, 1, 3] (pc' := 17) (lv' := [(0, .inr (.inl (some a0))), (1, .inl x1), (3, .inl x3)]) (st' := [.inr (.inl (some a0)), .inl x2]) rfl ?_
  refine s_gR C 11 rfl fl_X8_18 rfl rfl (fun v6 => ?_)
  refine s_blk C 12 1 [0, 1, 3] (pc' := 21) (lv' := [(0, .inr (.inl (some a0))), (1, .inl x1), (3, .inl x3)]) (st' := [.inl x3, .inr (.inl v6), .inl x2]) rfl ?_
  refine s_rk (fun a7 ha8 hk9 => ?_)
  subst ha8
  refine s_RR (CE_EM _ _ _ _ _ _) (st := [.inl x2]) (fun o ho => j_callV (As := [.inl x3]) (st := [.inl x2]) (b := a7) C 13 rfl mf_Al_get ml_X8_44 rfl (recv_K C (by decide) (by decide) rfl hk9) (by decide) (by decide) (Nat.le_refl _) rfl (cAl_get (CX_tr C) σ M n a7 x3 o ho)) (fun v10 => ?_)
  refine s_cast C 14 rfl rfl (by decide) (by decide) cw_X8_48 (fun v11 => ?_)
  refine s_blk C 15 1 [0, 1, 3] (pc' := 28) (lv' := [(0, .inr (.inl (some a0))), (1, .inl x1), (3, .inl x3)]) (st' := [.inl x1, .inr (.inl v11), .inl x2]) rfl ?_
  refine s_rk (fun a12 ha13 hk14 => ?_)
  subst ha13
  refine s_WI (CE_EM _ _ _ _ _ _) (st := [.inl x2]) (fun o ho => j_callV (As := [.inl x1]) (st := [.inl x2]) (b := a12) C 16 rfl mf_Part_loseOn ml_X8_50 rfl (recv_K C (by decide) (by decide) rfl hk14) (by decide) (by decide) (Nat.le_refl _) rfl (cPart_loseOn (CX_tr C) σ M n a12 x1 o ho)) (fun v15 M16 => ?_)
  refine s_blk C 17 4 [0, 1, 2, 3] (pc' := 4) (lv' := [(0, .inr (.inl (some a0))), (1, .inl x1), (2, .inl (x2 + v15)), (3, .inl (x3 + 1))]) (st' := []) rfl ?_
  exact H4 _ _ _ _
def fStore_loseShardsOn_l4 (a0 : Nat) (fu : Nat) : Int32 → Int32 → Int32 → Mm → Option (Int32 × Mm) := Nat.rec (fun x1 x2 x3 M => none) (fun _ k => fStore_loseShardsOn_b4 a0 k) fu
theorem wStore_loseShardsOn_l4 {X : MC} {G : GE} {n0 : Nat} (C : CX X G RX8 cX8_loseShardsOn pStore_loseShardsOn 4 (some .int) n0) (htab : ∀ z ∈ X.2.2.2.2.2.2.2.2.exceptionTable.toList, False) {σ : Sg} {n : Nat} (a0 : Nat) : ∀ (fu : Nat) (x1 : Int32) (x2 : Int32) (x3 : Int32) (M : Mm), JS X G 4 300 0 n0 (EM X G n0 5 300 (eW rvI σ n)) (fStore_loseShardsOn_l4 a0 fu x1 x2 x3 M) (σ, M, n) 4 [(0, .inr (.inl (some a0))), (1, .inl x1), (2, .inl x2), (3, .inl x3)] [] := by
  intro fu
  induction fu with
  | zero => intro x1 x2 x3 M; exact s_none
  | succ fu ih => intro x1 x2 x3 M; exact wStore_loseShardsOn_b4 C htab a0 (fStore_loseShardsOn_l4 a0 fu) ih _ _ _ _
def fStore_loseShardsOn (a0 : Nat) (x1 : Int32) (M : Mm) : Option (Int32 × Mm) :=
  fStore_loseShardsOn_l4 a0 FU x1 0 0 M
theorem wStore_loseShardsOn {X : MC} {G : GE} {n0 : Nat} (C : CX X G RX8 cX8_loseShardsOn pStore_loseShardsOn 4 (some .int) n0) (htab : ∀ z ∈ X.2.2.2.2.2.2.2.2.exceptionTable.toList, False) {σ : Sg} {n : Nat} (a0 : Nat) (x1 : Int32) (M : Mm) : JS X G 4 300 0 n0 (EM X G n0 5 300 (eW rvI σ n)) (fStore_loseShardsOn a0 x1 M) (σ, M, n) 0 [(0, .inr (.inl (some a0))), (1, .inl x1)] [] := by
  unfold fStore_loseShardsOn
  refine s_blk C 0 4 [0, 1, 2, 3] (pc' := 4) (lv' := [(0, .inr (.inl (some a0))), (1, .inl x1), (2, .inl 0), (3, .inl 0)]) (st' := []) rfl ?_
  exact wStore_loseShardsOn_l4 C htab a0 FU _ _ _ _
theorem cStore_loseShardsOn {l : Launch} {G : GE} (htr : l.stackTraces = false) (σ : Sg) (M : Mm) (n : Nat) (a0 : Nat) (x1 : Int32) : ∀ o, fStore_loseShardsOn a0 x1 M = some o → MetX l G yX8_loseShardsOn cX8_loseShardsOn 4 (some .int) 5 300 [.inr (.inl (some a0)), .inl x1] (σ, M, n) ((eW rvI σ n) o) :=
  c_ofX (by decide) kStore_loseShardsOn htr rfl rfl fun X _ _ C htab => wStore_loseShardsOn C htab a0 x1 _
def pHb_node : List BR := [(0, .aload_n 0, 1, 0, 1), (1, .iload_n 1, 1, 0, 2), (2, .invokevirtual 65, 3, 0, 5), (5, .getfield 215, 3, 0, 8), (8, .astore 4, 2, 0, 10), (10, .iload_n 2, 1, 0, 11), (11, .ifCond .lt (13), 3, 0, 24), (14, .iload_n 2, 1, 0, 15), (15, .bipush 6, 2, 6, 17), (17, .if_icmp .ge (7), 3, 0, 24), (20, .iconst 1, 1, 1, 21), (21, .goto (4), 3, 0, 25), (24, .iconst 0, 1, 0, 25), (25, .invokestatic 115, 3, 0, 28), (28, .aload 4, 2, 0, 30), (30, .iload_n 2, 1, 0, 31), (31, .invokevirtual 234, 3, 0, 34), (34, .iload_n 3, 1, 0, 35), (35, .if_icmp .eq (7), 3, 0, 42), (38, .iconst 1, 1, 1, 39), (39, .goto (4), 3, 0, 43), (42, .iconst 0, 1, 0, 43), (43, .invokestatic 54, 3, 0, 46), (46, .aload 4, 2, 0, 48), (48, .iload_n 2, 1, 0, 49), (49, .iload_n 3, 1, 0, 50), (50, .invokevirtual 239, 3, 0, 53), (53, .iload_n 3, 1, 0, 54), (54, .ifCond .eq (7), 3, 0, 61), (57, .iconst 0, 1, 0, 58), (58, .goto (9), 3, 0, 67), (61, .aload 4, 2, 0, 63), (63, .iload_n 2, 1, 0, 64), (64, .invokevirtual 243, 3, 0, 67), (67, .ireturn, 1, 0, 68)]
theorem kHb_node : bOK cX11_node 5 pHb_node = true := by decide +kernel
def fHb_node_j43 (a0 : Nat) (x2 : Int32) (x3 : Int32) (r4 : Option Nat) (s0 : Int32) (M : Mm) (n : Nat) : Option ((Int32 ⊕ Nat) × Mm × Nat) :=
  bdC (fHb_checkState s0 M n) n fun v1 M2 n3 =>
  rk 8 r4 M2 fun a4 =>
  bdW (fStore_turn a4 x2 x3 M2) fun v7 M8 =>
  if x3 = 0 then
    rk 8 r4 M8 fun a10 =>
    bdW (fStore_loseShardsOn a10 x2 M8) fun v11 M12 =>
    some (.inl v11, M12, n3)
  else
    some (.inl 0, M8, n3)
theorem wHb_node_j43 {X : MC} {G : GE} {n0 : Nat} (C : CX X G RX11 cX11_node pHb_node 5 (some .int) n0) (htab : ∀ z ∈ X.2.2.2.2.2.2.2.2.exceptionTable.toList, False) {σ : Sg} (a0 : Nat) (x2 : Int32) (x3 : Int32) (r4 : Option Nat) (s0 : Int32) (M : Mm) (n : Nat) : JS X G 5 300 0 n0 (EM X G n0 8 300 (eC rvI σ)) (fHb_node_j43 a0 x2 x3 r4 s0 M n) (σ, M, n) 43 [(2, .inl x2), (3, .inl x3), (4, .inr (.inl r4))] [.inl s0] := by
  unfold fHb_node_j43
  refine s_CU C htab (st := []) (fun o ho => j_callS (As := [.inl s0]) (st := []) C 22 rfl mf_Hb_checkState ml_X11_54 rfl (by decide) (by decide) (Nat.le_refl _) rfl (cHb_checkState (CX_tr C) σ M n s0 o ho)) (fun v1 M2 n3 _ => ?_)
  refine s_blk C 23 3 [2, 3, 4] (pc' := 50) (lv' := [(2, .inl x2), (3, .inl x3), (4, .inr (.inl r4))]) (st' := [.inl x3, .inl x2, .inr (.inl r4)]) rfl ?_
  refine s_rk (fun a4 ha5 hk6 => ?_)
  subst ha5
  refine s_WU (CE_EM _ _ _ _ _ _) (st := []) (fun o ho => j_callV (As := [.inl x2, .inl x3]) (st := []) (b := a4) C 26 rfl mf_Store_turn ml_X11_239 rfl (recv_K C (by decide) (by decide) rfl hk6) (by decide) (by decide) (Nat.le_refl _) rfl (cStore_turn (CX_tr C) σ M2 n3 a4 x2 x3 o ho)) (fun v7 M8 => ?_)
  refine s_blk C 27 1 [2, 4] (pc' := 54) (lv' := [(2, .inl x2), (4, .inr (.inl (some a4)))]) (st' := [.inl x3]) rfl ?_
  refine s_ieq C 28 rfl (fun _ => ?_) (fun _ => ?_)
  · refine s_blk C 31 2 [] (pc' := 64) (lv' := []) (st' := [.inl x2, .inr (.inl (some a4))]) rfl ?_
    refine s_rks (fun hk9 => ?_)
    refine s_WI (CE_EM _ _ _ _ _ _) (st := []) (fun o ho => j_callV (As := [.inl x2]) (st := []) (b := a4) C 33 rfl mf_Store_loseShardsOn ml_X11_243 rfl (recv_K C (by decide) (by decide) rfl hk9) (by decide) (by decide) (Nat.le_refl _) rfl (cStore_loseShardsOn (CX_tr C) σ M8 n3 a4 x2 o ho)) (fun v11 M12 => ?_)
    exact s_iret C 34 rfl rfl
  refine s_blk C 29 2 [] (pc' := 67) (lv' := []) (st' := [.inl 0]) rfl ?_
  exact s_iret C 34 rfl rfl
def fHb_node_j25 (a0 : Nat) (x2 : Int32) (x3 : Int32) (r4 : Option Nat) (s0 : Int32) (M : Mm) (n : Nat) : Option ((Int32 ⊕ Nat) × Mm × Nat) :=
  bdC (fHb_checkIndex s0 M n) n fun v1 M2 n3 =>
  rk 8 r4 M2 fun a4 =>
  bdR (fStore_isUp a4 x2 M2) fun v7 =>
  if v7 = x3 then
    fHb_node_j43 a0 x2 x3 r4 0 M2 n3
  else
    fHb_node_j43 a0 x2 x3 r4 1 M2 n3
theorem wHb_node_j25 {X : MC} {G : GE} {n0 : Nat} (C : CX X G RX11 cX11_node pHb_node 5 (some .int) n0) (htab : ∀ z ∈ X.2.2.2.2.2.2.2.2.exceptionTable.toList, False) {σ : Sg} (a0 : Nat) (x2 : Int32) (x3 : Int32) (r4 : Option Nat) (s0 : Int32) (M : Mm) (n : Nat) : JS X G 5 300 0 n0 (EM X G n0 8 300 (eC rvI σ)) (fHb_node_j25 a0 x2 x3 r4 s0 M n) (σ, M, n) 25 [(2, .inl x2), (3, .inl x3), (4, .inr (.inl r4))] [.inl s0] := by
  unfold fHb_node_j25
  refine s_CU C htab (st := []) (fun o ho => j_callS (As := [.inl s0]) (st := []) C 13 rfl mf_Hb_checkIndex ml_X11_115 rfl (by decide) (by decide) (Nat.le_refl _) rfl (cHb_checkIndex (CX_tr C) σ M n s0 o ho)) (fun v1 M2 n3 _ => ?_)
  refine s_blk C 14 2 [2, 3, 4] (pc' := 31) (lv' := [(2, .inl x2), (3, .inl x3), (4, .inr (.inl r4))]) (st' := [.inl x2, .inr (.inl r4)]) rfl ?_
  refine s_rk (fun a4 ha5 hk6 => ?_)
  subst ha5
  refine s_RI (CE_EM _ _ _ _ _ _) (st := []) (fun o ho => j_callV (As := [.inl x2]) (st := []) (b := a4) C 16 rfl mf_Store_isUp ml_X11_234 rfl (recv_K C (by decide) (by decide) rfl hk6) (by decide) (by decide) (Nat.le_refl _) rfl (cStore_isUp (CX_tr C) σ M2 n3 a4 x2 o ho)) (fun v7 => ?_)
  refine s_blk C 17 1 [2, 3, 4] (pc' := 35) (lv' := [(2, .inl x2), (3, .inl x3), (4, .inr (.inl (some a4)))]) (st' := [.inl x3, .inl v7]) rfl ?_
  refine s_iceq C 18 rfl (fun _ => ?_) (fun _ => ?_)
  · refine s_blk C 21 1 [2, 3, 4] (pc' := 43) (lv' := [(2, .inl x2), (3, .inl x3), (4, .inr (.inl (some a4)))]) (st' := [.inl 0]) rfl ?_
    exact wHb_node_j43 C htab a0 _ _ _ _ _ _
  refine s_blk C 19 2 [2, 3, 4] (pc' := 43) (lv' := [(2, .inl x2), (3, .inl x3), (4, .inr (.inl (some a4)))]) (st' := [.inl 1]) rfl ?_
  exact wHb_node_j43 C htab a0 _ _ _ _ _ _
def fHb_node_j24 (a0 : Nat) (x2 : Int32) (x3 : Int32) (r4 : Option Nat) (M : Mm) (n : Nat) : Option ((Int32 ⊕ Nat) × Mm × Nat) :=
  fHb_node_j25 a0 x2 x3 r4 0 M n
theorem wHb_node_j24 {X : MC} {G : GE} {n0 : Nat} (C : CX X G RX11 cX11_node pHb_node 5 (some .int) n0) (htab : ∀ z ∈ X.2.2.2.2.2.2.2.2.exceptionTable.toList, False) {σ : Sg} (a0 : Nat) (x2 : Int32) (x3 : Int32) (r4 : Option Nat) (M : Mm) (n : Nat) : JS X G 5 300 0 n0 (EM X G n0 8 300 (eC rvI σ)) (fHb_node_j24 a0 x2 x3 r4 M n) (σ, M, n) 24 [(2, .inl x2), (3, .inl x3), (4, .inr (.inl r4))] [] := by
  unfold fHb_node_j24
  refine s_blk C 12 1 [2, 3, 4] (pc' := 25) (lv' := [(2, .inl x2), (3, .inl x3), (4, .inr (.inl r4))]) (st' := [.inl 0]) rfl ?_
  exact wHb_node_j25 C htab a0 _ _ _ _ _ _
def fHb_node (a0 : Nat) (x1 : Int32) (x2 : Int32) (x3 : Int32) (M : Mm) (n : Nat) : Option ((Int32 ⊕ Nat) × Mm × Nat) :=
  rk 11 (some a0) M fun _ =>
  bdC (fHb_regionOf a0 x1 M n) n fun v2 M3 n4 =>
  fgR 6 600 v2 M3 fun v5 =>
  if x2 < 0 then
    fHb_node_j24 a0 x2 x3 v5 M3 n4
  else
    if 6 ≤ x2 then
      fHb_node_j24 a0 x2 x3 v5 M3 n4
    else
      fHb_node_j25 a0 x2 x3 v5 1 M3 n4
theorem wHb_node {X : MC} {G : GE} {n0 : Nat} (C : CX X G RX11 cX11_node pHb_node 5 (some .int) n0) (htab : ∀ z ∈ X.2.2.2.2.2.2.2.2.exceptionTable.toList, False) {σ : Sg} (a0 : Nat) (x1 : Int32) (x2 : Int32) (x3 : Int32) (M : Mm) (n : Nat) : JS X G 5 300 0 n0 (EM X G n0 8 300 (eC rvI σ)) (fHb_node a0 x1 x2 x3 M n) (σ, M, n) 0 [(0, .inr (.inl (some a0))), (1, .inl x1), (2, .inl x2), (3, .inl x3)] [] := by
  unfold fHb_node
  refine s_blk C 0 2 [2, 3] (pc' := 2) (lv' := [(2, .inl x2), (3, .inl x3)]) (st' := [.inl x1, .inr (.inl (some a0))]) rfl ?_
  refine s_rks (fun hk1 => ?_)
  refine s_CR C htab (st := []) (fun o ho => j_callV (As := [.inl x1]) (st := []) (b := a0) C 2 rfl mf_Hb_regionOf ml_X11_65 rfl (recv_K C (by decide) (by decide) rfl hk1) (by decide) (by decide) (Nat.le_refl _) rfl (cHb_regionOf (CX_tr C) σ M n a0 x1 o ho)) (fun v2 M3 n4 _ => ?_)
  refine s_gR C 3 rfl fl_X11_215 rfl rfl (fun v5 => ?_)
  refine s_blk C 4 2 [2, 3, 4] (pc' := 11) (lv' := [(2, .inl x2), (3, .inl x3), (4, .inr (.inl v5))]) (st' := [.inl x2]) rfl ?_
  refine s_ilt C 6 rfl (fun _ => ?_) (fun _ => ?_)
  · exact wHb_node_j24 C htab a0 _ _ _ _ _
  refine s_blk C 7 2 [2, 3, 4] (pc' := 17) (lv' := [(2, .inl x2), (3, .inl x3), (4, .inr (.inl v5))]) (st' := [.inl 6, .inl x2]) rfl ?_
  refine s_icge C 9 rfl (fun _ => ?_) (fun _ => ?_)
  · exact wHb_node_j24 C htab a0 _ _ _ _ _
  refine s_blk C 10 2 [2, 3, 4] (pc' := 25) (lv' := [(2, .inl x2), (3, .inl x3), (4, .inr (.inl v5))]) (st' := [.inl 1]) rfl ?_
  exact wHb_node_j25 C htab a0 _ _ _ _ _ _
theorem cHb_node {l : Launch} {G : GE} (htr : l.stackTraces = false) (σ : Sg) (M : Mm) (n : Nat) (a0 : Nat) (x1 : Int32) (x2 : Int32) (x3 : Int32) : ∀ o, fHb_node a0 x1 x2 x3 M n = some o → MetX l G yX11_node cX11_node 5 (some .int) 8 300 [.inr (.inl (some a0)), .inl x1, .inl x2, .inl x3] (σ, M, n) ((eC rvI σ) o) :=
  c_ofX (by decide) kHb_node htr rfl rfl fun X _ _ C htab => wHb_node C htab a0 x1 x2 x3 _ _
def pHb_part : List BR := [(0, .aload_n 0, 1, 0, 1), (1, .iload_n 1, 1, 0, 2), (2, .invokevirtual 65, 3, 0, 5), (5, .iload_n 2, 1, 0, 6), (6, .iload_n 3, 1, 0, 7), (7, .invokestatic 91, 3, 0, 10), (10, .astore 5, 2, 0, 12), (12, .iload 4, 2, 0, 14), (14, .ifCond .lt (7), 3, 0, 21), (17, .iconst 1, 1, 1, 18), (18, .goto (4), 3, 0, 22), (21, .iconst 0, 1, 0, 22), (22, .invokestatic 115, 3, 0, 25), (25, .iload 4, 2, 0, 27), (27, .aload 5, 2, 0, 29), (29, .getfield 205, 3, 0, 32), (32, .arraylength, 1, 0, 33), (33, .if_icmp .ge (14), 3, 0, 47), (36, .aload 5, 2, 0, 38), (38, .getfield 205, 3, 0, 41), (41, .iload 4, 2, 0, 43), (43, .iaload, 1, 0, 44), (44, .goto (4), 3, 0, 48), (47, .iconst (-1), 1, -1, 48), (48, .ireturn, 1, 0, 49)]
theorem kHb_part : bOK cX11_part 6 pHb_part = true := by decide +kernel
def fHb_part_j22 (a0 : Nat) (x4 : Int32) (r5 : Option Nat) (s0 : Int32) (M : Mm) (n : Nat) : Option ((Int32 ⊕ Nat) × Mm × Nat) :=
  bdC (fHb_checkIndex s0 M n) n fun v1 M2 n3 =>
  fgR 10 1001 r5 M2 fun v4 =>
  aln v4 M2 fun v5 =>
  if v5 ≤ x4 then
    some (.inl (-1), M2, n3)
  else
    fgR 10 1001 r5 M2 fun v6 =>
    alI 21 v6 x4 M2 fun v7 =>
    some (.inl v7, M2, n3)
theorem wHb_part_j22 {X : MC} {G : GE} {n0 : Nat} (C : CX X G RX11 cX11_part pHb_part 6 (some .int) n0) (htab : ∀ z ∈ X.2.2.2.2.2.2.2.2.exceptionTable.toList, False) {σ : Sg} (a0 : Nat) (x4 : Int32) (r5 : Option Nat) (s0 : Int32) (M : Mm) (n : Nat) : JS X G 6 300 0 n0 (EM X G n0 8 300 (eC rvI σ)) (fHb_part_j22 a0 x4 r5 s0 M n) (σ, M, n) 22 [(4, .inl x4), (5, .inr (.inl r5))] [.inl s0] := by
  unfold fHb_part_j22
  refine s_CU C htab (st := []) (fun o ho => j_callS (As := [.inl s0]) (st := []) C 12 rfl mf_Hb_checkIndex ml_X11_115 rfl (by decide) (by decide) (Nat.le_refl _) rfl (cHb_checkIndex (CX_tr C) σ M n s0 o ho)) (fun v1 M2 n3 _ => ?_)
  refine s_blk C 13 2 [4, 5] (pc' := 29) (lv' := [(4, .inl x4), (5, .inr (.inl r5))]) (st' := [.inr (.inl r5), .inl x4]) rfl ?_
  refine s_gR C 15 rfl fl_X11_205 rfl rfl (fun v4 => ?_)
  refine s_len C 16 rfl (fun v5 => ?_)
  refine s_icge C 17 rfl (fun _ => ?_) (fun _ => ?_)
  · refine s_blk C 23 1 [] (pc' := 48) (lv' := []) (st' := [.inl (-1)]) rfl ?_
    exact s_iret C 24 rfl rfl
  refine s_blk C 18 1 [4] (pc' := 38) (lv' := [(4, .inl x4)]) (st' := [.inr (.inl r5)]) rfl ?_
  refine s_gR C 19 rfl fl_X11_205 rfl rfl (fun v6 => ?_)
  refine s_blk C 20 1 [] (pc' := 43) (lv' := []) (st' := [.inl x4, .inr (.inl v6)]) rfl ?_
  refine s_ldI C 21 rfl (fun v7 => ?_)
  refine s_blk C 22 1 [] (pc' := 48) (lv' := []) (st' := [.inl v7]) rfl ?_
  exact s_iret C 24 rfl rfl
def fHb_part (a0 : Nat) (x1 : Int32) (x2 : Int32) (x3 : Int32) (x4 : Int32) (M : Mm) (n : Nat) : Option ((Int32 ⊕ Nat) × Mm × Nat) :=
  rk 11 (some a0) M fun _ =>
  bdC (fHb_regionOf a0 x1 M n) n fun v2 M3 n4 =>
  bdC (fHb_versionOf v2 x2 x3 M3 n4) n4 fun v5 M6 n7 =>
  if x4 < 0 then
    fHb_part_j22 a0 x4 v5 0 M6 n7
  else
    fHb_part_j22 a0 x4 v5 1 M6 n7
theorem wHb_part {X : MC} {G : GE} {n0 : Nat} (C : CX X G RX11 cX11_part pHb_part 6 (some .int) n0) (htab : ∀ z ∈ X.2.2.2.2.2.2.2.2.exceptionTable.toList, False) {σ : Sg} (a0 : Nat) (x1 : Int32) (x2 : Int32) (x3 : Int32) (x4 : Int32) (M : Mm) (n : Nat) : JS X G 6 300 0 n0 (EM X G n0 8 300 (eC rvI σ)) (fHb_part a0 x1 x2 x3 x4 M n) (σ, M, n) 0 [(0, .inr (.inl (some a0))), (1, .inl x1), (2, .inl x2), (3, .inl x3), (4, .inl x4)] [] := by
  unfold fHb_part
  refine s_blk C 0 2 [2, 3, 4] (pc' := 2) (lv' := [(2, .inl x2), (3, .inl x3), (4, .inl x4)]) (st' := [.inl x1, .inr (.inl (some a0))]) rfl ?_
  refine s_rks (fun hk1 => ?_)
  refine s_CR C htab (st := []) (fun o ho => j_callV (As := [.inl x1]) (st := []) (b := a0) C 2 rfl mf_Hb_regionOf ml_X11_65 rfl (recv_K C (by decide) (by decide) rfl hk1) (by decide) (by decide) (Nat.le_refl _) rfl (cHb_regionOf (CX_tr C) σ M n a0 x1 o ho)) (fun v2 M3 n4 _ => ?_)
  refine s_blk C 3 2 [4] (pc' := 7) (lv' := [(4, .inl x4)]) (st' := [.inl x3, .inl x2, .inr (.inl v2)]) rfl ?_
  refine s_CR C htab (st := []) (fun o ho => j_callS (As := [.inr (.inl v2), .inl x2, .inl x3]) (st := []) C 5 rfl mf_Hb_versionOf ml_X11_91 rfl (by decide) (by decide) (Nat.le_refl _) rfl (cHb_versionOf (CX_tr C) σ M3 n4 v2 x2 x3 o ho)) (fun v5 M6 n7 _ => ?_)
  refine s_blk C 6 2 [4, 5] (pc' := 14) (lv' := [(4, .inl x4), (5, .inr (.inl v5))]) (st' := [.inl x4]) rfl ?_
  refine s_ilt C 8 rfl (fun _ => ?_) (fun _ => ?_)
  · refine s_blk C 11 1 [4, 5] (pc' := 22) (lv' := [(4, .inl x4), (5, .inr (.inl v5))]) (st' := [.inl 0]) rfl ?_
    exact wHb_part_j22 C htab a0 _ _ _ _ _
  refine s_blk C 9 2 [4, 5] (pc' := 22) (lv' := [(4, .inl x4), (5, .inr (.inl v5))]) (st' := [.inl 1]) rfl ?_
  exact wHb_part_j22 C htab a0 _ _ _ _ _
theorem cHb_part {l : Launch} {G : GE} (htr : l.stackTraces = false) (σ : Sg) (M : Mm) (n : Nat) (a0 : Nat) (x1 : Int32) (x2 : Int32) (x3 : Int32) (x4 : Int32) : ∀ o, fHb_part a0 x1 x2 x3 x4 M n = some o → MetX l G yX11_part cX11_part 6 (some .int) 8 300 [.inr (.inl (some a0)), .inl x1, .inl x2, .inl x3, .inl x4] (σ, M, n) ((eC rvI σ) o) :=
  c_ofX (by decide) kHb_part htr rfl rfl fun X _ _ C htab => wHb_part C htab a0 x1 x2 x3 x4 _ _
def pHb_partOf : List BR := [(0, .aload_n 0, 1, 0, 1), (1, .iload_n 1, 1, 0, 2), (2, .invokevirtual 309, 3, 0, 5), (5, .astore_n 2, 1, 0, 6), (6, .aload_n 2, 1, 0, 7), (7, .ifnonnull (14), 3, 0, 21), (10, .new 286, 3, 0, 13), (13, .dup, 1, 0, 14), (14, .ldc_w 313, 3, 0, 17), (17, .invokespecial 290, 3, 0, 20), (20, .athrow, 1, 0, 21), (21, .aload_n 2, 1, 0, 22), (22, .areturn, 1, 0, 23)]
theorem kHb_partOf : bOK cX11_partOf 3 pHb_partOf = true := by decide +kernel
def fHb_partOf (r0 : Option Nat) (x1 : Int32) (M : Mm) (n : Nat) : Option ((Option Nat ⊕ Nat) × Mm × Nat) :=
  rk 8 r0 M fun a1 =>
  bdR (fStore_partAt a1 x1 M) fun v4 =>
  ifN v4
    (some (.inr 0, M, n + 1))
    (some (.inl v4, M, n))
theorem wHb_partOf {X : MC} {G : GE} {n0 : Nat} (C : CX X G RX11 cX11_partOf pHb_partOf 3 (some (.object "BlobHarbor$Part")) n0) (htab : ∀ z ∈ X.2.2.2.2.2.2.2.2.exceptionTable.toList, False) {σ : Sg} (r0 : Option Nat) (x1 : Int32) (M : Mm) (n : Nat) : JS X G 3 300 0 n0 (EM X G n0 6 300 (eC rvR σ)) (fHb_partOf r0 x1 M n) (σ, M, n) 0 [(0, .inr (.inl r0)), (1, .inl x1)] [] := by
  unfold fHb_partOf
  refine s_blk C 0 2 [] (pc' := 2) (lv' := []) (st' := [.inl x1, .inr (.inl r0)]) rfl ?_
  refine s_rk (fun a1 ha2 hk3 => ?_)
  subst ha2
  refine s_RR (CE_EM _ _ _ _ _ _) (st := []) (fun o ho => j_callV (As := [.inl x1]) (st := []) (b := a1) C 2 rfl mf_Store_partAt ml_X11_309 rfl (recv_K C (by decide) (by decide) rfl hk3) (by decide) (by decide) (Nat.le_refl _) rfl (cStore_partAt (CX_tr C) σ M n a1 x1 o ho)) (fun v4 => ?_)
  refine s_blk C 3 2 [2] (pc' := 7) (lv' := [(2, .inr (.inl v4))]) (st' := [.inr (.inl v4)]) rfl ?_
  refine s_nonnull C 5 rfl ?_ ?_
  · exact s_thr C htab th_313 6 rfl rfl rfl rfl rfl (by decide) (by decide) rfl
  refine s_blk C 11 1 [] (pc' := 22) (lv' := []) (st' := [.inr (.inl v4)]) rfl ?_
  exact s_aret (Or.inl ⟨_, rfl⟩) C 12 rfl rfl
theorem cHb_partOf {l : Launch} {G : GE} (htr : l.stackTraces = false) (σ : Sg) (M : Mm) (n : Nat) (r0 : Option Nat) (x1 : Int32) : ∀ o, fHb_partOf r0 x1 M n = some o → MetX l G yX11_partOf cX11_partOf 3 (some (.object "BlobHarbor$Part")) 6 300 [.inr (.inl r0), .inl x1] (σ, M, n) ((eC rvR σ) o) :=
  c_ofX (by decide) kHb_partOf htr rfl rfl fun X _ _ C htab => wHb_partOf C htab r0 x1 _ _
def pHb_partIs : List BR := [(0, .aload_n 0, 1, 0, 1), (1, .iload_n 1, 1, 0, 2), (2, .invokevirtual 65, 3, 0, 5), (5, .getfield 215, 3, 0, 8), (8, .iload_n 2, 1, 0, 9), (9, .invokestatic 218, 3, 0, 12), (12, .astore 4, 2, 0, 14), (14, .iload_n 3, 1, 0, 15), (15, .iconst 0, 1, 0, 16), (16, .bipush 7, 2, 7, 18), (18, .invokestatic 46, 3, 0, 21), (21, .iload_n 3, 1, 0, 22), (22, .tableswitch (44) (0) (2) #[(26), (32), (38)], 26, 0, 48), (48, .aload 4, 2, 0, 50), (50, .getfield 222, 3, 0, 53), (53, .ireturn, 1, 0, 54), (54, .aload 4, 2, 0, 56), (56, .getfield 227, 3, 0, 59), (59, .ireturn, 1, 0, 60), (60, .aload 4, 2, 0, 62), (62, .invokevirtual 228, 3, 0, 65), (65, .ireturn, 1, 0, 66), (66, .aload 4, 2, 0, 68), (68, .iload_n 3, 1, 0, 69), (69, .iconst 3, 1, 3, 70), (70, .isub, 1, 0, 71), (71, .invokevirtual 231, 3, 0, 74), (74, .ireturn, 1, 0, 75)]
theorem kHb_partIs : bOK cX11_partIs 5 pHb_partIs = true := by decide +kernel
def fHb_partIs (a0 : Nat) (x1 : Int32) (x2 : Int32) (x3 : Int32) (M : Mm) (n : Nat) : Option ((Int32 ⊕ Nat) × Mm × Nat) :=
  rk 11 (some a0) M fun _ =>
  bdC (fHb_regionOf a0 x1 M n) n fun v2 M3 n4 =>
  fgR 6 600 v2 M3 fun v5 =>
  bdC (fHb_partOf v5 x2 M3 n4) n4 fun v6 M7 n8 =>
  bdC (fHb_checkRange x3 0 7 M7 n8) n8 fun v9 M10 n11 =>
  tsw 0 2 x3 (tsl [
    (fgI 5 506 v6 M10 fun v16 =>
    some (.inl v16, M10, n11)),
    (fgI 5 501 v6 M10 fun v17 =>
    some (.inl v17, M10, n11)),
    (rk 5 v6 M10 fun a18 =>
    bdR (fPart_manyGood a18 M10) fun v21 =>
    some (.inl v21, M10, n11))])
    (rk 5 v6 M10 fun a12 =>
    bdR (fPart_nodeOf a12 (x3 - 3) M10) fun v15 =>
    some (.inl v15, M10, n11))
theorem wHb_partIs {X : MC} {G : GE} {n0 : Nat} (C : CX X G RX11 cX11_partIs pHb_partIs 5 (some .int) n0) (htab : ∀ z ∈ X.2.2.2.2.2.2.2.2.exceptionTable.toList, False) {σ : Sg} (a0 : Nat) (x1 : Int32) (x2 : Int32) (x3 : Int32) (M : Mm) (n : Nat) : JS X G 5 300 0 n0 (EM X G n0 8 300 (eC rvI σ)) (fHb_partIs a0 x1 x2 x3 M n) (σ, M, n) 0 [(0, .inr (.inl (some a0))), (1, .inl x1), (2, .inl x2), (3, .inl x3)] [] := by
  unfold fHb_partIs
  refine s_blk C 0 2 [2, 3] (pc' := 2) (lv' := [(2, .inl x2), (3, .inl x3)]) (st' := [.inl x1, .inr (.inl (some a0))]) rfl ?_
  refine s_rks (fun hk1 => ?_)
  refine s_CR C htab (st := []) (fun o ho => j_callV (As := [.inl x1]) (st := []) (b := a0) C 2 rfl mf_Hb_regionOf ml_X11_65 rfl (recv_K C (by decide) (by decide) rfl hk1) (by decide) (by decide) (Nat.le_refl _) rfl (cHb_regionOf (CX_tr C) σ M n a0 x1 o ho)) (fun v2 M3 n4 _ => ?_)
  refine s_gR C 3 rfl fl_X11_215 rfl rfl (fun v5 => ?_)
  refine s_blk C 4 1 [3] (pc' := 9) (lv' := [(3, .inl x3)]) (st' := [.inl x2, .inr (.inl v5)]) rfl ?_
  refine s_CR C htab (st := []) (fun o ho => j_callS (As := [.inr (.inl v5), .inl x2]) (st := []) C 5 rfl mf_Hb_partOf ml_X11_218 rfl (by decide) (by decide) (Nat.le_refl _) rfl (cHb_partOf (CX_tr C) σ M3 n4 v5 x2 o ho)) (fun v6 M7 n8 _ => ?_)
  refine s_blk C 6 4 [3, 4] (pc' := 18) (lv' := [(3, .inl x3), (4, .inr (.inl v6))]) (st' := [.inl 7, .inl 0, .inl x3]) rfl ?_
  refine s_CU C htab (st := []) (fun o ho => j_callS (As := [.inl x3, .inl 0, .inl 7]) (st := []) C 10 rfl mf_Hb_checkRange ml_X11_46 rfl (by decide) (by decide) (Nat.le_refl _) rfl (cHb_checkRange (CX_tr C) σ M7 n8 x3 0 7 o ho)) (fun v9 M10 n11 _ => ?_)
  refine s_blk C 11 1 [3, 4] (pc' := 22) (lv' := [(3, .inl x3), (4, .inr (.inl v6))]) (st' := [.inl x3]) rfl ?_
  refine s_tsw C 12 (tg := 66) rfl (by decide) (by decide) ?_ (fun j off hj => ?_)
  · refine s_blk C 22 4 [] (pc' := 71) (lv' := []) (st' := [.inl (x3 - 3), .inr (.inl v6)]) rfl ?_
    refine s_rk (fun a12 ha13 hk14 => ?_)
    subst ha13
    refine s_RI (CE_EM _ _ _ _ _ _) (st := []) (fun o ho => j_callV (As := [.inl (x3 - 3)]) (st := []) (b := a12) C 26 rfl mf_Part_nodeOf ml_X11_231 rfl (recv_K C (by decide) (by decide) rfl hk14) (by decide) (by decide) (Nat.le_refl _) rfl (cPart_nodeOf (CX_tr C) σ M10 n11 a12 (x3 - 3) o ho)) (fun v15 => ?_)
    exact s_iret C 27 rfl rfl
  rcases j with _ | _ | _ | j
  · obtain rfl : (26 : Int) = off := Option.some.inj hj
    refine ⟨48, by decide, ?_⟩
    dsimp only [tsl]
    refine s_blk C 13 1 [] (pc' := 50) (lv' := []) (st' := [.inr (.inl v6)]) rfl ?_
    refine s_gI C 14 rfl fl_X11_222 rfl rfl (fun v16 => ?_)
    exact s_iret C 15 rfl rfl
  · obtain rfl : (32 : Int) = off := Option.some.inj hj
    refine ⟨54, by decide, ?_⟩
    dsimp only [tsl]
    refine s_blk C 16 1 [] (pc' := 56) (lv' := []) (st' := [.inr (.inl v6)]) rfl ?_
    refine s_gI C 17 rfl fl_X11_227 rfl rfl (fun v17 => ?_)
    exact s_iret C 18 rfl rfl
  · obtain rfl : (38 : Int) = off := Option.some.inj hj
    refine ⟨60, by decide, ?_⟩
    dsimp only [tsl]
    refine s_blk C 19 1 [] (pc' := 62) (lv' := []) (st' := [.inr (.inl v6)]) rfl ?_
    refine s_rk (fun a18 ha19 hk20 => ?_)
    subst ha19
    refine s_RI (CE_EM _ _ _ _ _ _) (st := []) (fun o ho => j_callV (As := []) (st := []) (b := a18) C 20 rfl mf_Part_manyGood ml_X11_228 rfl (recv_K C (by decide) (by decide) rfl hk20) (by decide) (by decide) (Nat.le_refl _) rfl (cPart_manyGood (CX_tr C) σ M10 n11 a18 o ho)) (fun v21 => ?_)
    exact s_iret C 21 rfl rfl
  exact absurd (Array.getElem?_eq_some_iff.mp hj).1 (Nat.not_lt.mpr (Nat.le_add_left 3 j))
theorem cHb_partIs {l : Launch} {G : GE} (htr : l.stackTraces = false) (σ : Sg) (M : Mm) (n : Nat) (a0 : Nat) (x1 : Int32) (x2 : Int32) (x3 : Int32) : ∀ o, fHb_partIs a0 x1 x2 x3 M n = some o → MetX l G yX11_partIs cX11_partIs 5 (some .int) 8 300 [.inr (.inl (some a0)), .inl x1, .inl x2, .inl x3] (σ, M, n) ((eC rvI σ) o) :=
  c_ofX (by decide) kHb_partIs htr rfl rfl fun X _ _ C htab => wHb_partIs C htab a0 x1 x2 x3 _ _

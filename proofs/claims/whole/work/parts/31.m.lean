def pPart_manyGood : List BR := [(0, .iconst 0, 1, 0, 1), (1, .istore_n 1, 1, 0, 2), (2, .iconst 0, 1, 0, 3), (3, .istore_n 2, 1, 0, 4), (4, .iload_n 2, 1, 0, 5), (5, .iconst 5, 1, 5, 6), (6, .if_icmp .ge (20), 3, 0, 26), (9, .aload_n 0, 1, 0, 10), (10, .iload_n 2, 1, 0, 11), (11, .invokevirtual 48, 3, 0, 14), (14, .ifCond .eq (6), 3, 0, 20), (17, .iinc 1 (1), 3, 1, 20), (20, .iinc 2 (1), 3, 1, 23), (23, .goto (-19), 3, 0, 4), (26, .iload_n 1, 1, 0, 27), (27, .ireturn, 1, 0, 28)]
theorem kPart_manyGood : bOK cX5_manyGood 3 pPart_manyGood = true := by decide +kernel
def fPart_manyGood_j20 (a0 : Nat) (k4 : Int32 → Int32 → Mm → Option (Int32)) (x1 : Int32) (x2 : Int32) (M : Mm) : Option (Int32) :=
  k4 x1 (x2 + 1) M
theorem wPart_manyGood_j20 {X : MC} {G : GE} {n0 : Nat} (C : CX X G RX5 cX5_manyGood pPart_manyGood 3 (some .int) n0) (htab : ∀ z ∈ X.2.2.2.2.2.2.2.2.exceptionTable.toList, False) {σ : Sg} {M : Mm} {n : Nat} (a0 : Nat) (k4 : Int32 → Int32 → Mm → Option (Int32)) (H4 : ∀ (x1 : Int32) (x2 : Int32), JS X G 3 300 0 n0 (EM X G n0 4 300 (eR rvI σ M n)) (k4 x1 x2 M) (σ, M, n) 4 [(0, .inr (.inl (some a0))), (1, .inl x1), (2, .inl x2)] []) (x1 : Int32) (x2 : Int32) : JS X G 3 300 0 n0 (EM X G n0 4 300 (eR rvI σ M n)) (fPart_manyGood_j20 a0 k4 x1 x2 M) (σ, M, n) 20 [(0, .inr (.inl (some a0))), (1, .inl x1), (2, .inl x2)] [] := by
  unfold fPart_manyGood_j20
  refine s_blk C 12 2 [0, 1, 2] (pc' := 4) (lv' := [(0, .inr (.inl (some a0))), (1, .inl x1), (2, .inl (x2 + 1))]) (st' := []) rfl ?_
  exact H4 _ _
def fPart_manyGood_b4 (a0 : Nat) (k4 : Int32 → Int32 → Mm → Option (Int32)) (x1 : Int32) (x2 : Int32) (M : Mm) : Option (Int32) :=
  if 5 ≤ x2 then
    some x1
  else
    rk 5 (some a0) M fun _ =>
    bdR (fPart_isGood a0 x2 M) fun v2 =>
    if v2 = 0 then
      fPart_manyGood_j20 a0 k4 x1 x2 M
    else
      fPart_manyGood_j20 a0 k4 (x1 + 1) x2 M
theorem wPart_manyGood_b4 {X : MC} {G : GE} {n0 : Nat} (C : CX X G RX5 cX5_manyGood pPart_manyGood 3 (some .int) n0) (htab : ∀ z ∈ X.2.2.2.2.2.2.2.2.exceptionTable.toList, False) {σ : Sg} {M : Mm} {n : Nat} (a0 : Nat) (k4 : Int32 → Int32 → Mm → Option (Int32)) (H4 : ∀ (x1 : Int32) (x2 : Int32), JS X G 3 300 0 n0 (EM X G n0 4 300 (eR rvI σ M n)) (k4 x1 x2 M) (σ, M, n) 4 [(0, .inr (.inl (some a0))), (1, .inl x1), (2, .inl x2)] []) (x1 : Int32) (x2 : Int32) : JS X G 3 300 0 n0 (EM X G n0 4 300 (eR rvI σ M n)) (fPart_manyGood_b4 a0 k4 x1 x2 M) (σ, M, n) 4 [(0, .inr (.inl (some a0))), (1, .inl x1), (2, .inl x2)] [] := by
  unfold fPart_manyGood_b4
  refine s_blk C 4 2 [0, 1, 2] (pc' := 6) (lv' := [(0, .inr (.inl (some a0))), (1, .inl x1), (2, .inl x2)]) (st' := [.inl 5, .inl x2]) rfl ?_
  refine s_icge C 6 rfl (fun _ => ?_) (fun _ => ?_)
  · refine s_blk C 14 1 [] (pc' := 27) (lv' := []) (st' := [.inl x1]) rfl ?_
    exact s_iret C 15 rfl rfl
  refine s_blk C 7 2 [0, 1, 2] (pc' := 11) (lv' := [(0, .inr (.inl (some a0))), (1, .inl x1), (2, .inl x2)]) (st' := [.inl x2, .inr (.inl (some a0))]) rfl ?_
  refine s_rks (fun hk1 => ?_)
  refine s_RI (CE_EM _ _ _ _ _ _) (st := []) (fun o ho => j_callV (As := [.inl x2]) (st := []) (b := a0) C 9 rfl mf_Part_isGood ml_X5_48 rfl (recv_K C (by decide) (by decide) rfl hk1) (by decide) (by decide) (Nat.le_refl _) rfl (cPart_isGood (CX_tr C) σ M n a0 x2 o ho)) (fun v2 => ?_)
  refine s_ieq C 10 rfl (fun _ => ?_) (fun _ => ?_)
  · exact wPart_manyGood_j20 C htab a0 k4 H4 _ _
  refine s_blk C 11 1 [0, 1, 2] (pc' := 20) (lv' := [(0, .inr (.inl (some a0))), (1, .inl (x1 + 1)), (2, .inl x2)]) (st' := []) rfl ?_
  exact wPart_manyGood_j20 C htab a0 k4 H4 _ _
def fPart_manyGood_l4 (a0 : Nat) (fu : Nat) : Int32 → Int32 → Mm → Option (Int32) := Nat.rec (fun x1 x2 M => none) (fun _ k => fPart_manyGood_b4 a0 k) fu
theorem wPart_manyGood_l4 {X : MC} {G : GE} {n0 : Nat} (C : CX X G RX5 cX5_manyGood pPart_manyGood 3 (some .int) n0) (htab : ∀ z ∈ X.2.2.2.2.2.2.2.2.exceptionTable.toList, False) {σ : Sg} {M : Mm} {n : Nat} (a0 : Nat) : ∀ (fu : Nat) (x1 : Int32) (x2 : Int32), JS X G 3 300 0 n0 (EM X G n0 4 300 (eR rvI σ M n)) (fPart_manyGood_l4 a0 fu x1 x2 M) (σ, M, n) 4 [(0, .inr (.inl (some a0))), (1, .inl x1), (2, .inl x2)] [] := by
  intro fu
  induction fu with
  | zero => intro x1 x2; exact s_none
  | succ fu ih => intro x1 x2; exact wPart_manyGood_b4 C htab a0 (fPart_manyGood_l4 a0 fu) ih _ _
def fPart_manyGood (a0 : Nat) (M : Mm) : Option (Int32) :=
  fPart_manyGood_l4 a0 FU 0 0 M
theorem wPart_manyGood {X : MC} {G : GE} {n0 : Nat} (C : CX X G RX5 cX5_manyGood pPart_manyGood 3 (some .int) n0) (htab : ∀ z ∈ X.2.2.2.2.2.2.2.2.exceptionTable.toList, False) {σ : Sg} {M : Mm} {n : Nat} (a0 : Nat) : JS X G 3 300 0 n0 (EM X G n0 4 300 (eR rvI σ M n)) (fPart_manyGood a0 M) (σ, M, n) 0 [(0, .inr (.inl (some a0)))] [] := by
  unfold fPart_manyGood
  refine s_blk C 0 4 [0, 1, 2] (pc' := 4) (lv' := [(0, .inr (.inl (some a0))), (1, .inl 0), (2, .inl 0)]) (st' := []) rfl ?_
  exact wPart_manyGood_l4 C htab a0 FU _ _
theorem cPart_manyGood {l : Launch} {G : GE} (htr : l.stackTraces = false) (σ : Sg) (M : Mm) (n : Nat) (a0 : Nat) : ∀ o, fPart_manyGood a0 M = some o → MetX l G yX5_manyGood cX5_manyGood 3 (some .int) 4 300 [.inr (.inl (some a0))] (σ, M, n) ((eR rvI σ M n) o) :=
  c_ofX (by decide) kPart_manyGood htr rfl rfl fun X _ _ C htab => wPart_manyGood C htab a0
def pPart_canBeRead : List BR := [(0, .aload_n 0, 1, 0, 1), (1, .invokevirtual 52, 3, 0, 4), (4, .iconst 3, 1, 3, 5), (5, .if_icmp .lt (7), 3, 0, 12), (8, .iconst 1, 1, 1, 9), (9, .goto (4), 3, 0, 13), (12, .iconst 0, 1, 0, 13), (13, .ireturn, 1, 0, 14)]
theorem kPart_canBeRead : bOK cX5_canBeRead 1 pPart_canBeRead = true := by decide +kernel
def fPart_canBeRead (a0 : Nat) (M : Mm) : Option (Int32) :=
  rk 5 (some a0) M fun _ =>
  bdR (fPart_manyGood a0 M) fun v2 =>
  if v2 < 3 then
    rZ 0 (some 0)
  else
    rZ 1 (some 1)
theorem wPart_canBeRead {X : MC} {G : GE} {n0 : Nat} (C : CX X G RX5 cX5_canBeRead pPart_canBeRead 1 (some .boolean) n0) (htab : ∀ z ∈ X.2.2.2.2.2.2.2.2.exceptionTable.toList, False) {σ : Sg} {M : Mm} {n : Nat} (a0 : Nat) : JS X G 1 300 0 n0 (EM X G n0 5 300 (eR rvI σ M n)) (fPart_canBeRead a0 M) (σ, M, n) 0 [(0, .inr (.inl (some a0)))] [] := by
  unfold fPart_canBeRead
  refine s_blk C 0 1 [] (pc' := 1) (lv' := []) (st' := [.inr (.inl (some a0))]) rfl ?_
  refine s_rks (fun hk1 => ?_)
  refine s_RI (CE_EM _ _ _ _ _ _) (st := []) (fun o ho => j_callV (As := []) (st := []) (b := a0) C 1 rfl mf_Part_manyGood ml_X5_52 rfl (recv_K C (by decide) (by decide) rfl hk1) (by decide) (by decide) (Nat.le_refl _) rfl (cPart_manyGood (CX_tr C) σ M n a0 o ho)) (fun v2 => ?_)
  refine s_blk C 2 1 [] (pc' := 5) (lv' := []) (st' := [.inl 3, .inl v2]) rfl ?_
  refine s_iclt C 3 rfl (fun _ => ?_) (fun _ => ?_)
  · refine s_blk C 6 1 [] (pc' := 13) (lv' := []) (st' := [.inl 0]) rfl ?_
    exact s_zret C 7 rfl rfl
  refine s_blk C 4 2 [] (pc' := 13) (lv' := []) (st' := [.inl 1]) rfl ?_
  exact s_zret C 7 rfl rfl
theorem cPart_canBeRead {l : Launch} {G : GE} (htr : l.stackTraces = false) (σ : Sg) (M : Mm) (n : Nat) (a0 : Nat) : ∀ o, fPart_canBeRead a0 M = some o → MetX l G yX5_canBeRead cX5_canBeRead 1 (some .boolean) 5 300 [.inr (.inl (some a0))] (σ, M, n) ((eR rvI σ M n) o) :=
  c_ofX (by decide) kPart_canBeRead htr rfl rfl fun X _ _ C htab => wPart_canBeRead C htab a0
def pPart_loseAll : List BR := [(0, .aload_n 0, 1, 0, 1), (1, .getfield 18, 3, 0, 4), (4, .iconst (-1), 1, -1, 5), (5, .invokestatic 39, 3, 0, 8), (8, .return_, 1, 0, 9)]
theorem kPart_loseAll : bOK cX5_loseAll 1 pPart_loseAll = true := by decide +kernel
def fPart_loseAll (a0 : Nat) (M : Mm) : Option (Unit × Mm) :=
  fgR 5 504 (some a0) M fun v1 =>
  bdW (fAr_fill v1 (-1) M) fun v2 M3 =>
  some ((), M3)
theorem wPart_loseAll {X : MC} {G : GE} {n0 : Nat} (C : CX X G RX5 cX5_loseAll pPart_loseAll 1 none n0) (htab : ∀ z ∈ X.2.2.2.2.2.2.2.2.exceptionTable.toList, False) {σ : Sg} {n : Nat} (a0 : Nat) (M : Mm) : JS X G 1 300 0 n0 (EM X G n0 3 300 (eW rvU σ n)) (fPart_loseAll a0 M) (σ, M, n) 0 [(0, .inr (.inl (some a0)))] [] := by
  unfold fPart_loseAll
  refine s_blk C 0 1 [] (pc' := 1) (lv' := []) (st' := [.inr (.inl (some a0))]) rfl ?_
  refine s_gR C 1 rfl fl_X5_18 rfl rfl (fun v1 => ?_)
  refine s_blk C 2 1 [] (pc' := 5) (lv' := []) (st' := [.inl (-1), .inr (.inl v1)]) rfl ?_
  refine s_WU (CE_EM _ _ _ _ _ _) (st := []) (fun o ho => j_callS (As := [.inr (.inl v1), .inl (-1)]) (st := []) C 3 rfl mf_Ar_fill ml_X5_39 rfl (by decide) (by decide) (Nat.le_refl _) rfl (cAr_fill (CX_tr C) σ M n v1 (-1) o ho)) (fun v2 M3 => ?_)
  exact s_vret C 4 rfl rfl
theorem cPart_loseAll {l : Launch} {G : GE} (htr : l.stackTraces = false) (σ : Sg) (M : Mm) (n : Nat) (a0 : Nat) : ∀ o, fPart_loseAll a0 M = some o → MetX l G yX5_loseAll cX5_loseAll 1 none 3 300 [.inr (.inl (some a0))] (σ, M, n) ((eW rvU σ n) o) :=
  c_ofX (by decide) kPart_loseAll htr rfl rfl fun X _ _ C htab => wPart_loseAll C htab a0 _
def pCode_takePlain : List BR := [(0, .iconst 0, 1, 0, 1), (1, .istore_n 2, 1, 0, 2), (2, .iload_n 2, 1, 0, 3), (3, .aload_n 0, 1, 0, 4), (4, .getfield 9, 3, 0, 7), (7, .arraylength, 1, 0, 8), (8, .if_icmp .ge (30), 3, 0, 38), (11, .iload_n 2, 1, 0, 12), (12, .aload_n 1, 1, 0, 13), (13, .getfield 32, 3, 0, 16), (16, .arraylength, 1, 0, 17), (17, .if_icmp .ge (21), 3, 0, 38), (20, .aload_n 0, 1, 0, 21), (21, .getfield 9, 3, 0, 24), (24, .iload_n 2, 1, 0, 25), (25, .aload_n 1, 1, 0, 26), (26, .getfield 32, 3, 0, 29), (29, .iload_n 2, 1, 0, 30), (30, .baload, 1, 0, 31), (31, .bastore, 1, 0, 32), (32, .iinc 2 (1), 3, 1, 35), (35, .goto (-33), 3, 0, 2), (38, .return_, 1, 0, 39)]
theorem kCode_takePlain : bOK cX1_takePlain 3 pCode_takePlain = true := by decide +kernel
def fCode_takePlain_b2 (a0 : Nat) (k2 : Option Nat → Int32 → Mm → Option (Unit × Mm)) (r1 : Option Nat) (x2 : Int32) (M : Mm) : Option (Unit × Mm) :=
  fgR 2 200 (some a0) M fun v1 =>
  aln v1 M fun v2 =>
  if v2 ≤ x2 then
    some ((), M)
  else
    fgR 5 502 r1 M fun v3 =>
    aln v3 M fun v4 =>
    if v4 ≤ x2 then
      some ((), M)
    else
      fgR 2 200 (some a0) M fun v5 =>
      fgR 5 502 r1 M fun v6 =>
      alI 20 v6 x2 M fun v7 =>
      asB v5 x2 v7 M fun M8 =>
      k2 r1 (x2 + 1) M8
theorem wCode_takePlain_b2 {X : MC} {G : GE} {n0 : Nat} (C : CX X G RX1 cX1_takePlain pCode_takePlain 3 none n0) (htab : ∀ z ∈ X.2.2.2.2.2.2.2.2.exceptionTable.toList, False) {σ : Sg} {n : Nat} (a0 : Nat) (k2 : Option Nat → Int32 → Mm → Option (Unit × Mm)) (H2 : ∀ (r1 : Option Nat) (x2 : Int32) (M : Mm), JS X G 3 300 0 n0 (EM X G n0 2 300 (eW rvU σ n)) (k2 r1 x2 M) (σ, M, n) 2 [(0, .inr (.inl (some a0))), (1, .inr (.inl r1)), (2, .inl x2)] []) (r1 : Option Nat) (x2 : Int32) (M : Mm) : JS X G 3 300 0 n0 (EM X G n0 2 300 (eW rvU σ n)) (fCode_takePlain_b2 a0 k2 r1 x2 M) (σ, M, n) 2 [(0, .inr (.inl (some a0))), (1, .inr (.inl r1)), (2, .inl x2)] [] := by
  unfold fCode_takePlain_b2
  refine s_blk C 2 2 [0, 1, 2] (pc' := 4) (lv' := [(0, .inr (.inl (some a0))), (1, .inr (.inl r1)), (2, .inl x2)]) (st' := [.inr (.inl (some a0)), .inl x2]) rfl ?_
  refine s_gR C 4 rfl fl_X1_9 rfl rfl (fun v1 => ?_)
  refine s_len C 5 rfl (fun v2 => ?_)
  refine s_icge C 6 rfl (fun _ => ?_) (fun _ => ?_)
  · exact s_vret C 22 rfl rfl
  refine s_blk C 7 2 [0, 1, 2] (pc' := 13) (lv' := [(0, .inr (.inl (some a0))), (1, .inr (.inl r1)), (2, .inl x2)]) (st' := [.inr (.inl r1), .inl x2]) rfl ?_
  refine s_gR C 9 rfl fl_X1_32 rfl rfl (fun v3 => ?_)
  refine s_len C 10 rfl (fun v4 => ?_)
  refine s_icge C 11 rfl (fun _ => ?_) (fun _ => ?_)
  · exact s_vret C 22 rfl rfl
  refine s_blk C 12 1 [0, 1, 2] (pc' := 21) (lv' := [(0, .inr (.inl (some a0))), (1, .inr (.inl r1)), (2, .inl x2)]) (st' := [.inr (.inl (some a0))]) rfl ?_
  refine s_gR C 13 rfl fl_X1_9 rfl rfl (fun v5 => ?_)
  refine s_blk C 14 2 [0, 1, 2] (pc' := 26) (lv' := [(0, .inr (.inl (some a0))), (1, .inr (.inl r1)), (2, .inl x2)]) (st' := [.inr (.inl r1), .inl x2, .inr (.inl v5)]) rfl ?_
  refine s_gR C 16 rfl fl_X1_32 rfl rfl (fun v6 => ?_)
  refine s_blk C 17 1 [0, 1, 2] (pc' := 30) (lv' := [(0, .inr (.inl (some a0))), (1, .inr (.inl r1)), (2, .inl x2)]) (st' := [.inl x2, .inr (.inl v6), .inl x2, .inr (.inl v5)]) rfl ?_
  refine s_ldB C 18 rfl (fun v7 => ?_)
  refine s_stB C 19 rfl (fun M8 _ => ?_)
  refine s_blk C 20 2 [0, 1, 2] (pc' := 2) (lv' := [(0, .inr (.inl (some a0))), (1, .inr (.inl r1)), (2, .inl (x2 + 1))]) (st' := []) rfl ?_
  exact H2 _ _ _
def fCode_takePlain_l2 (a0 : Nat) (fu : Nat) : Option Nat → Int32 → Mm → Option (Unit × Mm) := Nat.rec (fun r1 x2 M => none) (fun _ k => fCode_takePlain_b2 a0 k) fu
theorem wCode_takePlain_l2 {X : MC} {G : GE} {n0 : Nat} (C : CX X G RX1 cX1_takePlain pCode_takePlain 3 none n0) (htab : ∀ z ∈ X.2.2.2.2.2.2.2.2.exceptionTable.toList, False) {σ : Sg} {n : Nat} (a0 : Nat) : ∀ (fu : Nat) (r1 : Option Nat) (x2 : Int32) (M : Mm), JS X G 3 300 0 n0 (EM X G n0 2 300 (eW rvU σ n)) (fCode_takePlain_l2 a0 fu r1 x2 M) (σ, M, n) 2 [(0, .inr (.inl (some a0))), (1, .inr (.inl r1)), (2, .inl x2)] [] := by
  intro fu
  induction fu with
  | zero => intro r1 x2 M; exact s_none
  | succ fu ih => intro r1 x2 M; exact wCode_takePlain_b2 C htab a0 (fCode_takePlain_l2 a0 fu) ih _ _ _
def fCode_takePlain (a0 : Nat) (r1 : Option Nat) (M : Mm) : Option (Unit × Mm) :=
  fCode_takePlain_l2 a0 FU r1 0 M
theorem wCode_takePlain {X : MC} {G : GE} {n0 : Nat} (C : CX X G RX1 cX1_takePlain pCode_takePlain 3 none n0) (htab : ∀ z ∈ X.2.2.2.2.2.2.2.2.exceptionTable.toList, False) {σ : Sg} {n : Nat} (a0 : Nat) (r1 : Option Nat) (M : Mm) : JS X G 3 300 0 n0 (EM X G n0 2 300 (eW rvU σ n)) (fCode_takePlain a0 r1 M) (σ, M, n) 0 [(0, .inr (.inl (some a0))), (1, .inr (.inl r1))] [] := by
  unfold fCode_takePlain
  refine s_blk C 0 2 [0, 1, 2] (pc' := 2) (lv' := [(0, .inr (.inl (some a0))), (1, .inr (.inl r1)), (2, .inl 0)]) (st' := []) rfl ?_
  exact wCode_takePlain_l2 C htab a0 FU _ _ _
theorem cCode_takePlain {l : Launch} {G : GE} (htr : l.stackTraces = false) (σ : Sg) (M : Mm) (n : Nat) (a0 : Nat) (r1 : Option Nat) : ∀ o, fCode_takePlain a0 r1 M = some o → MetX l G yX1_takePlain cX1_takePlain 3 none 2 300 [.inr (.inl (some a0)), .inr (.inl r1)] (σ, M, n) ((eW rvU σ n) o) :=
  c_ofX (by decide) kCode_takePlain htr rfl rfl fun X _ _ C htab => wCode_takePlain C htab a0 r1 _
def pCode_encodePlain_0 : List BR := [(0, .iconst 0, 1, 0, 1), (1, .istore_n 1, 1, 0, 2), (2, .iload_n 1, 1, 0, 3), (3, .aload_n 0, 1, 0, 4), (4, .getfield 15, 3, 0, 7), (7, .arraylength, 1, 0, 8), (8, .if_icmp .ge (60), 3, 0, 68), (11, .iconst 0, 1, 0, 12), (12, .istore_n 2, 1, 0, 13), (13, .iconst 0, 1, 0, 14), (14, .istore_n 3, 1, 0, 15), (15, .iload_n 3, 1, 0, 16), (16, .iconst 3, 1, 3, 17), (17, .if_icmp .ge (37), 3, 0, 54), (20, .aload_n 0, 1, 0, 21), (21, .iload_n 3, 1, 0, 22), (22, .iconst 2, 1, 2, 23), (23, .imul, 1, 0, 24), (24, .iload_n 1, 1, 0, 25), (25, .iconst 2, 1, 2, 26), (26, .irem, 1, 0, 27), (27, .iadd, 1, 0, 28), (28, .invokevirtual 37, 3, 0, 31), (31, .istore 4, 2, 0, 33), (33, .iload_n 2, 1, 0, 34), (34, .iload_n 1, 1, 0, 35), (35, .iconst 2, 1, 2, 36), (36, .idiv, 1, 0, 37), (37, .iload_n 3, 1, 0, 38), (38, .invokestatic 41, 3, 0, 41), (41, .iload 4, 2, 0, 43), (43, .invokestatic 25, 3, 0, 46), (46, .ixor, 1, 0, 47), (47, .istore_n 2, 1, 0, 48), (48, .iinc 3 (1), 3, 1, 51), (51, .goto (-36), 3, 0, 15), (54, .aload_n 0, 1, 0, 55), (55, .getfield 15, 3, 0, 58), (58, .iload_n 1, 1, 0, 59), (59, .iload_n 2, 1, 0, 60)]
theorem kCode_encodePlain_0 : bOK cX1_encodePlain 5 pCode_encodePlain_0 = true := by decide +kernel
def pCode_encodePlain_1 : List BR := [(60, .i2b, 1, 0, 61), (61, .bastore, 1, 0, 62), (62, .iinc 1 (1), 3, 1, 65), (65, .goto (-63), 3, 0, 2), (68, .return_, 1, 0, 69)]
theorem kCode_encodePlain_1 : bOK cX1_encodePlain 5 pCode_encodePlain_1 = true := by decide +kernel
def pCode_encodePlain : List BR := (pCode_encodePlain_0 ++ pCode_encodePlain_1)
theorem kCode_encodePlain : bOK cX1_encodePlain 5 pCode_encodePlain = true := (bOK_app kCode_encodePlain_0 kCode_encodePlain_1)
def fCode_encodePlain_b15 (a0 : Nat) (k2 : Int32 → Mm → Option (Unit × Mm)) (k15 : Int32 → Int32 → Int32 → Mm → Option (Unit × Mm)) (x1 : Int32) (x2 : Int32) (x3 : Int32) (M : Mm) : Option (Unit × Mm) :=
  if 3 ≤ x3 then
    fgR 2 201 (some a0) M fun v1 =>
    asB v1 x1 ((x2).toInt8.toInt32) M fun M2 =>
    k2 (x1 + 1) M2
  else
    rk 2 (some a0) M fun _ =>
    bdR (fCode_plainByte a0 ((x3 * 2) + (x1 - x1 / 2 * 2)) M) fun v4 =>
    bdR (fCode_factor (x1 / 2) x3) fun v5 =>
    bdR (fCode_times v5 v4) fun v6 =>
    k15 x1 (x2 ^^^ v6) (x3 + 1) M
theorem wCode_encodePlain_b15 {X : MC} {G : GE} {n0 : Nat} (C : CX X G RX1 cX1_encodePlain pCode_encodePlain 5 none n0) (htab : ∀ z ∈ X.2.2.2.2.2.2.2.2.exceptionTable.toList, False) {σ : Sg} {n : Nat} (a0 : Nat) (k2 : Int32 → Mm → Option (Unit × Mm)) (H2 : ∀ (x1 : Int32) (M : Mm), JS X G 5 300 0 n0 (EM X G n0 3 300 (eW rvU σ n)) (k2 x1 M) (σ, M, n) 2 [(0, .inr (.inl (some a0))), (1, .inl x1)] []) (k15 : Int32 → Int32 → Int32 → Mm → Option (Unit × Mm)) (H15 : ∀ (x1 : Int32) (x2 : Int32) (x3 : Int32) (M : Mm), JS X G 5 300 0 n0 (EM X G n0 3 300 (eW rvU σ n)) (k15 x1 x2 x3 M) (σ, M, n) 15 [(0, .inr (.inl (some a0))), (1, .inl x1), (2, .inl x2), (3, .inl x3)] []) (x1 : Int32) (x2 : Int32) (x3 : Int32) (M : Mm) : JS X G 5 300 0 n0 (EM X G n0 3 300 (eW rvU σ n)) (fCode_encodePlain_b15 a0 k2 k15 x1 x2 x3 M) (σ, M, n) 15 [(0, .inr (.inl (some a0))), (1, .inl x1), (2, .inl x2), (3, .inl x3)] [] := by
  unfold fCode_encodePlain_b15
  refine s_blk C 11 2 [0, 1, 2, 3] (pc' := 17) (lv' := [(0, .inr (.inl (some a0))), (1, .inl x1), (2, .inl x2), (3, .inl x3)]) (st' := [.inl 3, .inl x3]) rfl ?_
  refine s_icge C 13 rfl (fun _ => ?_) (fun _ => ?_)
  · refine s_blk C 36 1 [0, 1, 2] (pc' := 55) (lv' := [(0, .inr (.inl (some a0))), (1, .inl x1), (2, .inl x2)]) (st' := [.inr (.inl (some a0))]) rfl ?_
    refine s_gR C 37 rfl fl_X1_15 rfl rfl (fun v1 => ?_)
    refine s_blk C 38 3 [0, 1] (pc' := 61) (lv' := [(0, .inr (.inl (some a0))), (1, .inl x1)]) (st' := [.inl ((x2).toInt8.toInt32), .inl x1, .inr (.inl v1)]) rfl ?_
    refine s_stB C 41 rfl (fun M2 _ => ?_)
    refine s_blk C 42 2 [0, 1] (pc' := 2) (lv' := [(0, .inr (.inl (some a0))), (1, .inl (x1 + 1))]) (st' := []) rfl ?_
    exact H2 _ _
  refine s_blk C 14 6 [0, 1, 2, 3] (pc' := 26) (lv' := [(0, .inr (.inl (some a0))), (1, .inl x1), (2, .inl x2), (3, .inl x3)]) (st' := [.inl 2, .inl x1, .inl (x3 * 2), .inr (.inl (some a0))]) rfl ?_
  refine s_irem C 20 rfl (by decide) ?_
  refine s_blk C 21 1 [0, 1, 2, 3] (pc' := 28) (lv' := [(0, .inr (.inl (some a0))), (1, .inl x1), (2, .inl x2), (3, .inl x3)]) (st' := [.inl ((x3 * 2) + (x1 - x1 / 2 * 2)), .inr (.inl (some a0))]) rfl ?_
  refine s_rks (fun hk3 => ?_)
  refine s_RI (CE_EM _ _ _ _ _ _) (st := []) (fun o ho => j_callV (As := [.inl ((x3 * 2) + (x1 - x1 / 2 * 2))]) (st := []) (b := a0) C 22 rfl mf_Code_plainByte ml_X1_37 rfl (recv_K C (by decide) (by decide) rfl hk3) (by decide) (by decide) (Nat.le_refl _) rfl (cCode_plainByte (CX_tr C) σ M n a0 ((x3 * 2) + (x1 - x1 / 2 * 2)) o ho)) (fun v4 => ?_)
  refine s_blk C 23 4 [0, 1, 3, 4] (pc' := 36) (lv' := [(0, .inr (.inl (some a0))), (1, .inl x1), (3, .inl x3), (4, .inl v4)]) (st' := [.inl 2, .inl x1, .inl x2]) rfl ?_
  refine s_idiv C 27 rfl (by decide) ?_
  refine s_blk C 28 1 [0, 1, 3, 4] (pc' := 38) (lv' := [(0, .inr (.inl (some a0))), (1, .inl x1), (3, .inl x3), (4, .inl v4)]) (st' := [.inl x3, .inl (x1 / 2), .inl x2]) rfl ?_
  refine s_RI (CE_EM _ _ _ _ _ _) (st := [.inl x2]) (fun o ho => j_callS (As := [.inl (x1 / 2), .inl x3]) (st := [.inl x2]) C 29 rfl mf_Code_factor ml_X1_41 rfl (by decide) (by decide) (Nat.le_refl _) rfl (cCode_factor (CX_tr C) σ M n (x1 / 2) x3 o ho)) (fun v5 => ?_)
  refine s_blk C 30 1 [0, 1, 3] (pc' := 43) (lv' := [(0, .inr (.inl (some a0))), (1, .inl x1), (3, .inl x3)]) (st' := [.inl v4, .inl v5, .inl x2]) rfl ?_
  refine s_RI (CE_EM _ _ _ _ _ _) (st := [.inl x2]) (fun o ho => j_callS (As := [.inl v5, .inl v4]) (st := [.inl x2]) C 31 rfl mf_Code_times ml_X1_25 rfl (by decide) (by decide) (Nat.le_refl _) rfl (cCode_times (CX_tr C) σ M n v5 v4 o ho)) (fun v6 => ?_)
  refine s_blk C 32 4 [0, 1, 2, 3] (pc' := 15) (lv' := [(0, .inr (.inl (some a0))), (1, .inl x1), (2, .inl (x2 ^^^ v6)), (3, .inl (x3 + 1))]) (st' := []) rfl ?_
  exact H15 _ _ _ _
def fCode_encodePlain_l15 (a0 : Nat) (k2 : Int32 → Mm → Option (Unit × Mm)) (fu : Nat) : Int32 → Int32 → Int32 → Mm → Option (Unit × Mm) := Nat.rec (fun x1 x2 x3 M => none) (fun _ k => fCode_encodePlain_b15 a0 k2 k) fu
theorem wCode_encodePlain_l15 {X : MC} {G : GE} {n0 : Nat} (C : CX X G RX1 cX1_encodePlain pCode_encodePlain 5 none n0) (htab : ∀ z ∈ X.2.2.2.2.2.2.2.2.exceptionTable.toList, False) {σ : Sg} {n : Nat} (a0 : Nat) (k2 : Int32 → Mm → Option (Unit × Mm)) (H2 : ∀ (x1 : Int32) (M : Mm), JS X G 5 300 0 n0 (EM X G n0 3 300 (eW rvU σ n)) (k2 x1 M) (σ, M, n) 2 [(0, .inr (.inl (some a0))), (1, .inl x1)] []) : ∀ (fu : Nat) (x1 : Int32) (x2 : Int32) (x3 : Int32) (M : Mm), JS X G 5 300 0 n0 (EM X G n0 3 300 (eW rvU σ n)) (fCode_encodePlain_l15 a0 k2 fu x1 x2 x3 M) (σ, M, n) 15 [(0, .inr (.inl (some a0))), (1, .inl x1), (2, .inl x2), (3, .inl x3)] [] := by
  intro fu
  induction fu with
  | zero => intro x1 x2 x3 M; exact s_none
  | succ fu ih => intro x1 x2 x3 M; exact wCode_encodePlain_b15 C htab a0 k2 H2 (fCode_encodePlain_l15 a0 k2 fu) ih _ _ _ _
def fCode_encodePlain_b2 (a0 : Nat) (k2 : Int32 → Mm → Option (Unit × Mm)) (x1 : Int32) (M : Mm) : Option (Unit × Mm) :=
  fgR 2 201 (some a0) M fun v1 =>
  aln v1 M fun v2 =>
  if v2 ≤ x1 then
    some ((), M)
  else
    fCode_encodePlain_l15 a0 k2 FU x1 0 0 M
theorem wCode_encodePlain_b2 {X : MC} {G : GE} {n0 : Nat} (C : CX X G RX1 cX1_encodePlain pCode_encodePlain 5 none n0) (htab : ∀ z ∈ X.2.2.2.2.2.2.2.2.exceptionTable.toList, False) {σ : Sg} {n : Nat} (a0 : Nat) (k2 : Int32 → Mm → Option (Unit × Mm)) (H2 : ∀ (x1 : Int32) (M : Mm), JS X G 5 300 0 n0 (EM X G n0 3 300 (eW rvU σ n)) (k2 x1 M) (σ, M, n) 2 [(0, .inr (.inl (some a0))), (1, .inl x1)] []) (x1 : Int32) (M : Mm) : JS X G 5 300 0 n0 (EM X G n0 3 300 (eW rvU σ n)) (fCode_encodePlain_b2 a0 k2 x1 M) (σ, M, n) 2 [(0, .inr (.inl (some a0))), (1, .inl x1)] [] := by
  unfold fCode_encodePlain_b2
  refine s_blk C 2 2 [0, 1] (pc' := 4) (lv' := [(0, .inr (.inl (some a0))), (1, .inl x1)]) (st' := [.inr (.inl (some a0)), .inl x1]) rfl ?_
  refine s_gR C 4 rfl fl_X1_15 rfl rfl (fun v1 => ?_)
  refine s_len C 5 rfl (fun v2 => ?_)
  refine s_icge C 6 rfl (fun _ => ?_) (fun _ => ?_)
  · exact s_vret C 44 rfl rfl
  refine s_blk C 7 4 [0, 1, 2, 3] (pc' := 15) (lv' := [(0, .inr (.inl (some a0))), (1, .inl x1), (2, .inl 0), (3, .inl 0)]) (st' := []) rfl ?_
  exact wCode_encodePlain_l15 C htab a0 k2 H2 FU _ _ _ _
def fCode_encodePlain_l2 (a0 : Nat) (fu : Nat) : Int32 → Mm → Option (Unit × Mm) := Nat.rec (fun x1 M => none) (fun _ k => fCode_encodePlain_b2 a0 k) fu
theorem wCode_encodePlain_l2 {X : MC} {G : GE} {n0 : Nat} (C : CX X G RX1 cX1_encodePlain pCode_encodePlain 5 none n0) (htab : ∀ z ∈ X.2.2.2.2.2.2.2.2.exceptionTable.toList, False) {σ : Sg} {n : Nat} (a0 : Nat) : ∀ (fu : Nat) (x1 : Int32) (M : Mm), JS X G 5 300 0 n0 (EM X G n0 3 300 (eW rvU σ n)) (fCode_encodePlain_l2 a0 fu x1 M) (σ, M, n) 2 [(0, .inr (.inl (some a0))), (1, .inl x1)] [] := by
  intro fu
  induction fu with
  | zero => intro x1 M; exact s_none
  | succ fu ih => intro x1 M; exact wCode_encodePlain_b2 C htab a0 (fCode_encodePlain_l2 a0 fu) ih _ _
def fCode_encodePlain (a0 : Nat) (M : Mm) : Option (Unit × Mm) :=
  fCode_encodePlain_l2 a0 FU 0 M
theorem wCode_encodePlain {X : MC} {G : GE} {n0 : Nat} (C : CX X G RX1 cX1_encodePlain pCode_encodePlain 5 none n0) (htab : ∀ z ∈ X.2.2.2.2.2.2.2.2.exceptionTable.toList, False) {σ : Sg} {n : Nat} (a0 : Nat) (M : Mm) : JS X G 5 300 0 n0 (EM X G n0 3 300 (eW rvU σ n)) (fCode_encodePlain a0 M) (σ, M, n) 0 [(0, .inr (.inl (some a0)))] [] := by
  unfold fCode_encodePlain
  refine s_blk C 0 2 [0, 1] (pc' := 2) (lv' := [(0, .inr (.inl (some a0))), (1, .inl 0)]) (st' := []) rfl ?_
  exact wCode_encodePlain_l2 C htab a0 FU _ _
theorem cCode_encodePlain {l : Launch} {G : GE} (htr : l.stackTraces = false) (σ : Sg) (M : Mm) (n : Nat) (a0 : Nat) : ∀ o, fCode_encodePlain a0 M = some o → MetX l G yX1_encodePlain cX1_encodePlain 5 none 3 300 [.inr (.inl (some a0))] (σ, M, n) ((eW rvU σ n) o) :=
  c_ofX (by decide) kCode_encodePlain htr rfl rfl fun X _ _ C htab => wCode_encodePlain C htab a0 _
def pPart_isOn : List BR := [(0, .iconst 0, 1, 0, 1), (1, .istore_n 2, 1, 0, 2), (2, .iload_n 2, 1, 0, 3), (3, .aload_n 0, 1, 0, 4), (4, .getfield 18, 3, 0, 7), (7, .arraylength, 1, 0, 8), (8, .if_icmp .ge (21), 3, 0, 29), (11, .aload_n 0, 1, 0, 12), (12, .getfield 18, 3, 0, 15), (15, .iload_n 2, 1, 0, 16), (16, .iaload, 1, 0, 17), (17, .iload_n 1, 1, 0, 18), (18, .if_icmp .ne (5), 3, 0, 23), (21, .iconst 1, 1, 1, 22), (22, .ireturn, 1, 0, 23), (23, .iinc 2 (1), 3, 1, 26), (26, .goto (-24), 3, 0, 2), (29, .iconst 0, 1, 0, 30), (30, .ireturn, 1, 0, 31)]
theorem kPart_isOn : bOK cX5_isOn 3 pPart_isOn = true := by decide +kernel
def fPart_isOn_b2 (a0 : Nat) (k2 : Int32 → Int32 → Mm → Option (Int32)) (x1 : Int32) (x2 : Int32) (M : Mm) : Option (Int32) :=
  fgR 5 504 (some a0) M fun v1 =>
  aln v1 M fun v2 =>
  if v2 ≤ x2 then
    rZ 0 (some 0)
  else
    fgR 5 504 (some a0) M fun v3 =>
    alI 21 v3 x2 M fun v4 =>
    if v4 = x1 then
      rZ 1 (some 1)
    else
      k2 x1 (x2 + 1) M
theorem wPart_isOn_b2 {X : MC} {G : GE} {n0 : Nat} (C : CX X G RX5 cX5_isOn pPart_isOn 3 (some .boolean) n0) (htab : ∀ z ∈ X.2.2.2.2.2.2.2.2.exceptionTable.toList, False) {σ : Sg} {M : Mm} {n : Nat} (a0 : Nat) (k2 : Int32 → Int32 → Mm → Option (Int32)) (H2 : ∀ (x1 : Int32) (x2 : Int32), JS X G 3 300 0 n0 (EM X G n0 2 300 (eR rvI σ M n)) (k2 x1 x2 M) (σ, M, n) 2 [(0, .inr (.inl (some a0))), (1, .inl x1), (2, .inl x2)] []) (x1 : Int32) (x2 : Int32) : JS X G 3 300 0 n0 (EM X G n0 2 300 (eR rvI σ M n)) (fPart_isOn_b2 a0 k2 x1 x2 M) (σ, M, n) 2 [(0, .inr (.inl (some a0))), (1, .inl x1), (2, .inl x2)] [] := by
  unfold fPart_isOn_b2
  refine s_blk C 2 2 [0, 1, 2] (pc' := 4) (lv' := [(0, .inr (.inl (some a0))), (1, .inl x1), (2, .inl x2)]) (st' := [.inr (.inl (some a0)), .inl x2]) rfl ?_
  refine s_gR C 4 rfl fl_X5_18 rfl rfl (fun v1 => ?_)
  refine s_len C 5 rfl (fun v2 => ?_)
  refine s_icge C 6 rfl (fun _ => ?_) (fun _ => ?_)
  · refine s_blk C 17 1 [] (pc' := 30) (lv' := []) (st' := [.inl 0]) rfl ?_
    exact s_zret C 18 rfl rfl
  refine s_blk C 7 1 [0, 1, 2] (pc' := 12) (lv' := [(0, .inr (.inl (some a0))), (1, .inl x1), (2, .inl x2)]) (st' := [.inr (.inl (some a0))]) rfl ?_
  refine s_gR C 8 rfl fl_X5_18 rfl rfl (fun v3 => ?_)
  refine s_blk C 9 1 [0, 1, 2] (pc' := 16) (lv' := [(0, .inr (.inl (some a0))), (1, .inl x1), (2, .inl x2)]) (st' := [.inl x2, .inr (.inl v3)]) rfl ?_
  refine s_ldI C 10 rfl (fun v4 => ?_)
  refine s_blk C 11 1 [0, 1, 2] (pc' := 18) (lv' := [(0, .inr (.inl (some a0))), (1, .inl x1), (2, .inl x2)]) (st' := [.inl x1, .inl v4]) rfl ?_
  refine s_icne C 12 rfl (fun _ => ?_) (fun _ => ?_)
  · refine s_blk C 13 1 [] (pc' := 22) (lv' := []) (st' := [.inl 1]) rfl ?_
    exact s_zret C 14 rfl rfl
  refine s_blk C 15 2 [0, 1, 2] (pc' := 2) (lv' := [(0, .inr (.inl (some a0))), (1, .inl x1), (2, .inl (x2 + 1))]) (st' := []) rfl ?_
  exact H2 _ _
def fPart_isOn_l2 (a0 : Nat) (fu : Nat) : Int32 → Int32 → Mm → Option (Int32) := Nat.rec (fun x1 x2 M => none) (fun _ k => fPart_isOn_b2 a0 k) fu
theorem wPart_isOn_l2 {X : MC} {G : GE} {n0 : Nat} (C : CX X G RX5 cX5_isOn pPart_isOn 3 (some .boolean) n0) (htab : ∀ z ∈ X.2.2.2.2.2.2.2.2.exceptionTable.toList, False) {σ : Sg} {M : Mm} {n : Nat} (a0 : Nat) : ∀ (fu : Nat) (x1 : Int32) (x2 : Int32), JS X G 3 300 0 n0 (EM X G n0 2 300 (eR rvI σ M n)) (fPart_isOn_l2 a0 fu x1 x2 M) (σ, M, n) 2 [(0, .inr (.inl (some a0))), (1, .inl x1), (2, .inl x2)] [] := by
  intro fu
  induction fu with
  | zero => intro x1 x2; exact s_none
  | succ fu ih => intro x1 x2; exact wPart_isOn_b2 C htab a0 (fPart_isOn_l2 a0 fu) ih _ _
def fPart_isOn (a0 : Nat) (x1 : Int32) (M : Mm) : Option (Int32) :=
  fPart_isOn_l2 a0 FU x1 0 M
theorem wPart_isOn {X : MC} {G : GE} {n0 : Nat} (C : CX X G RX5 cX5_isOn pPart_isOn 3 (some .boolean) n0) (htab : ∀ z ∈ X.2.2.2.2.2.2.2.2.exceptionTable.toList, False) {σ : Sg} {M : Mm} {n : Nat} (a0 : Nat) (x1 : Int32) : JS X G 3 300 0 n0 (EM X G n0 2 300 (eR rvI σ M n)) (fPart_isOn a0 x1 M) (σ, M, n) 0 [(0, .inr (.inl (some a0))), (1, .inl x1)] [] := by
  unfold fPart_isOn
  refine s_blk C 0 2 [0, 1, 2] (pc' := 2) (lv' := [(0, .inr (.inl (some a0))), (1, .inl x1), (2, .inl 0)]) (st' := []) rfl ?_
  exact wPart_isOn_l2 C htab a0 FU _ _
theorem cPart_isOn {l : Launch} {G : GE} (htr : l.stackTraces = false) (σ : Sg) (M : Mm) (n : Nat) (a0 : Nat) (x1 : Int32) : ∀ o, fPart_isOn a0 x1 M = some o → MetX l G yX5_isOn cX5_isOn 3 (some .boolean) 2 300 [.inr (.inl (some a0)), .inl x1] (σ, M, n) ((eR rvI σ M n) o) :=
  c_ofX (by decide) kPart_isOn htr rfl rfl fun X _ _ C htab => wPart_isOn C htab a0 x1
def pStore_freeNode_0 : List BR := [(0, .iconst (-1), 1, -1, 1), (1, .istore_n 2, 1, 0, 2), (2, .iconst (-1), 1, -1, 3), (3, .istore_n 3, 1, 0, 4), (4, .iconst 0, 1, 0, 5), (5, .istore 4, 2, 0, 7), (7, .iload 4, 2, 0, 9), (9, .bipush 6, 2, 6, 11), (11, .if_icmp .ge (67), 3, 0, 78), (14, .bipush 7, 2, 7, 16), (16, .aload_n 1, 1, 0, 17), (17, .getfield 115, 3, 0, 20), (20, .imul, 1, 0, 21), (21, .bipush 13, 2, 13, 23), (23, .iload 4, 2, 0, 25), (25, .imul, 1, 0, 26), (26, .iadd, 1, 0, 27), (27, .iconst 5, 1, 5, 28), (28, .aload_n 1, 1, 0, 29), (29, .getfield 115, 3, 0, 32), (32, .imul, 1, 0, 33), (33, .iload 4, 2, 0, 35), (35, .imul, 1, 0, 36), (36, .iadd, 1, 0, 37), (37, .bipush 31, 2, 31, 39), (39, .irem, 1, 0, 40), (40, .istore 5, 2, 0, 42), (42, .aload_n 0, 1, 0, 43), (43, .iload 4, 2, 0, 45), (45, .invokevirtual 58, 3, 0, 48), (48, .ifCond .eq (24), 3, 0, 72), (51, .aload_n 1, 1, 0, 52), (52, .iload 4, 2, 0, 54), (54, .invokevirtual 142, 3, 0, 57), (57, .ifCond .ne (15), 3, 0, 72), (60, .iload 5, 2, 0, 62), (62, .iload_n 3, 1, 0, 63), (63, .if_icmp .le (9), 3, 0, 72), (66, .iload 4, 2, 0, 68), (68, .istore_n 2, 1, 0, 69)]
theorem kStore_freeNode_0 : bOK cX8_freeNode 6 pStore_freeNode_0 = true := by decide +kernel
def pStore_freeNode_1 : List BR := [(69, .iload 5, 2, 0, 71), (71, .istore_n 3, 1, 0, 72), (72, .iinc 4 (1), 3, 1, 75), (75, .goto (-68), 3, 0, 7), (78, .iload_n 2, 1, 0, 79), (79, .ireturn, 1, 0, 80)]
theorem kStore_freeNode_1 : bOK cX8_freeNode 6 pStore_freeNode_1 = true := by decide +kernel
def pStore_freeNode : List BR := (pStore_freeNode_0 ++ pStore_freeNode_1)
theorem kStore_freeNode : bOK cX8_freeNode 6 pStore_freeNode = true := (bOK_app kStore_freeNode_0 kStore_freeNode_1)
def fStore_freeNode_j72 (a0 : Nat) (k7 : Option Nat → Int32 → Int32 → Int32 → Mm → Option (Int32)) (r1 : Option Nat) (x2 : Int32) (x3 : Int32) (x4 : Int32) (M : Mm) : Option (Int32) :=
  k7 r1 x2 x3 (x4 + 1) M
theorem wStore_freeNode_j72 {X : MC} {G : GE} {n0 : Nat} (C : CX X G RX8 cX8_freeNode pStore_freeNode 6 (some .int) n0) (htab : ∀ z ∈ X.2.2.2.2.2.2.2.2.exceptionTable.toList, False) {σ : Sg} {M : Mm} {n : Nat} (a0 : Nat) (k7 : Option Nat → Int32 → Int32 → Int32 → Mm → Option (Int32)) (H7 : ∀ (r1 : Option Nat) (x2 : Int32) (x3 : Int32) (x4 : Int32), JS X G 6 300 0 n0 (EM X G n0 3 300 (eR rvI σ M n)) (k7 r1 x2 x3 x4 M) (σ, M, n) 7 [(0, .inr (.inl (some a0))), (1, .inr (.inl r1)), (2, .inl x2), (3, .inl x3), (4, .inl x4)] []) (r1 : Option Nat) (x2 : Int32) (x3 : Int32) (x4 : Int32) : JS X G 6 300 0 n0 (EM X G n0 3 300 (eR rvI σ M n)) (fStore_freeNode_j72 a0 k7 r1 x2 x3 x4 M) (σ, M, n) 72 [(0, .inr (.inl (some a0))), (1, .inr (.inl r1)), (2, .inl x2), (3, .inl x3), (4, .inl x4)] [] := by
  unfold fStore_freeNode_j72
  refine s_blk C 42 2 [0, 1, 2, 3, 4] (pc' := 7) (lv' := [(0, .inr (.inl (some a0))), (1, .inr (.inl r1)), (2, .inl x2), (3, .inl x3), (4, .inl (x4 + 1))]) (st' := []) rfl ?_
  exact H7 _ _ _ _
def fStore_freeNode_b7 (a0 : Nat) (k7 : Option Nat → Int32 → Int32 → Int32 → Mm → Option (Int32)) (r1 : Option Nat) (x2 : Int32) (x3 : Int32) (x4 : Int32) (M : Mm) : Option (Int32) :=
  if 6 ≤ x4 then
    some x2
  else
    fgI 5 500 r1 M fun v1 =>
    fgI 5 500 r1 M fun v2 =>
    rk 8 (some a0) M fun _ =>
    bdR (fStore_isUp a0 x4 M) fun v4 =>
    if v4 = 0 then
      fStore_freeNode_j72 a0 k7 r1 x2 x3 x4 M
    else
      rk 5 r1 M fun a5 =>
      bdR (fPart_isOn a5 x4 M) fun v8 =>
      if v8 = 0 then
        if ((((7 * v1) + (13 * x4)) + ((5 * v2) * x4)) - (((7 * v1) + (13 * x4)) + ((5 * v2) * x4)) / 31 * 31) ≤ x3 then
          fStore_freeNode_j72 a0 k7 r1 x2 x3 x4 M
        else
          fStore_freeNode_j72 a0 k7 r1 x4 ((((7 * v1) + (13 * x4)) + ((5 * v2) * x4)) - (((7 * v1) + (13 * x4)) + ((5 * v2) * x4)) / 31 * 31) x4 M
      else
        fStore_freeNode_j72 a0 k7 r1 x2 x3 x4 M
theorem wStore_freeNode_b7 {X : MC} {G : GE} {n0 : Nat} (C : CX X G RX8 cX8_freeNode pStore_freeNode 6 (some .int) n0) (htab : ∀ z ∈ X.2.2.2.2.2.2.2.2.exceptionTable.toList, False) {σ : Sg} {M : Mm} {n : Nat} (a0 : Nat) (k7 : Option Nat → Int32 → Int32 → Int32 → Mm → Option (Int32)) (H7 : ∀ (r1 : Option Nat) (x2 : Int32) (x3 : Int32) (x4 : Int32), JS X G 6 300 0 n0 (EM X G n0 3 300 (eR rvI σ M n)) (k7 r1 x2 x3 x4 M) (σ, M, n) 7 [(0, .inr (.inl (some a0))), (1, .inr (.inl r1)), (2, .inl x2), (3, .inl x3), (4, .inl x4)] []) (r1 : Option Nat) (x2 : Int32) (x3 : Int32) (x4 : Int32) : JS X G 6 300 0 n0 (EM X G n0 3 300 (eR rvI σ M n)) (fStore_freeNode_b7 a0 k7 r1 x2 x3 x4 M) (σ, M, n) 7 [(0, .inr (.inl (some a0))), (1, .inr (.inl r1)), (2, .inl x2), (3, .inl x3), (4, .inl x4)] [] := by
  unfold fStore_freeNode_b7
  refine s_blk C 6 2 [0, 1, 2, 3, 4] (pc' := 11) (lv' := [(0, .inr (.inl (some a0))), (1, .inr (.inl r1)), (2, .inl x2), (3, .inl x3), (4, .inl x4)]) (st' := [.inl 6, .inl x4]) rfl ?_
  refine s_icge C 8 rfl (fun _ => ?_) (fun _ => ?_)
  · refine s_blk C 44 1 [] (pc' := 79) (lv' := []) (st' := [.inl x2]) rfl ?_
    exact s_iret C 45 rfl rfl
  refine s_blk C 9 2 [0, 1, 2, 3, 4] (pc' := 17) (lv' := [(0, .inr (.inl (some a0))), (1, .inr (.inl r1)), (2, .inl x2), (3, .inl x3), (4, .inl x4)]) (st' := [.inr (.inl r1), .inl 7]) rfl ?_
  refine s_gI C 11 rfl fl_X8_115 rfl rfl (fun v1 => ?_)
  refine s_blk C 12 7 [0, 1, 2, 3, 4] (pc' := 29) (lv' := [(0, .inr (.inl (some a0))), (1, .inr (.inl r1)), (2, .inl x2), (3, .inl x3), (4, .inl x4)]) (st' := [.inr (.inl r1), .inl 5, .inl ((7 * v1) + (13 * x4))]) rfl ?_
  refine s_gI C 19 rfl fl_X8_115 rfl rfl (fun v2 => ?_)
  refine s_blk C 20 5 [0, 1, 2, 3, 4] (pc' := 39) (lv' := [(0, .inr (.inl (some a0))), (1, .inr (.inl r1)), (2, .inl x2), (3, .inl x3), (4, .inl x4)]) (st' := [.inl 31, .inl (((7 * v1) + (13 * x4)) + ((5 * v2) * x4))]) rfl ?_
  refine s_irem C 25 rfl (by decide) ?_
  refine s_blk C 26 3 [0, 1, 2, 3, 4, 5] (pc' := 45) (lv' := [(0, .inr (.inl (some a0))), (1, .inr (.inl r1)), (2, .inl x2), (3, .inl x3), (4, .inl x4), (5, .inl ((((7 * v1) + (13 * x4)) + ((5 * v2) * x4)) - (((7 * v1) + (13 * x4)) + ((5 * v2) * x4)) / 31 * 31))]) (st' := [.inl x4, .inr (.inl (some a0))]) rfl ?_
  refine s_rks (fun hk3 => ?_)
  refine s_RI (CE_EM _ _ _ _ _ _) (st := []) (fun o ho => j_callV (As := [.inl x4]) (st := []) (b := a0) C 29 rfl mf_Store_isUp ml_X8_58 rfl (recv_K C (by decide) (by decide) rfl hk3) (by decide) (by decide) (Nat.le_refl _) rfl (cStore_isUp (CX_tr C) σ M n a0 x4 o ho)) (fun v4 => ?_)
  refine s_ieq C 30 rfl (fun _ => ?_) (fun _ => ?_)
  · refine s_blk C 0 0 [0, 1, 2, 3, 4] (pc' := 72) (lv' := [(0, .inr (.inl (some a0))), (1, .inr (.inl r1)), (2, .inl x2), (3, .inl x3), (4, .inl x4)]) (st' := []) rfl ?_
    exact wStore_freeNode_j72 C htab a0 k7 H7 _ _ _ _
  refine s_blk C 31 2 [0, 1, 2, 3, 4, 5] (pc' := 54) (lv' := [(0, .inr (.inl (some a0))), (1, .inr (.inl r1)), (2, .inl x2), (3, .inl x3), (4, .inl x4), (5, .inl ((((7 * v1) + (13 * x4)) + ((5 * v2) * x4)) - (((7 * v1) + (13 * x4)) + ((5 * v2) * x4)) / 31 * 31))]) (st' := [.inl x4, .inr (.inl r1)]) rfl ?_
  refine s_rk (fun a5 ha6 hk7 => ?_)
  subst ha6
  refine s_RI (CE_EM _ _ _ _ _ _) (st := []) (fun o ho => j_callV (As := [.inl x4]) (st := []) (b := a5) C 33 rfl mf_Part_isOn ml_X8_142 rfl (recv_K C (by decide) (by decide) rfl hk7) (by decide) (by decide) (Nat.le_refl _) rfl (cPart_isOn (CX_tr C) σ M n a5 x4 o ho)) (fun v8 => ?_)
  refine s_ine C 34 rfl (fun _ => ?_) (fun _ => ?_)
  · refine s_blk C 35 2 [0, 1, 2, 3, 4, 5] (pc' := 63) (lv' := [(0, .inr (.inl (some a0))), (1, .inr (.inl (some a5))), (2, .inl x2), (3, .inl x3), (4, .inl x4), (5, .inl ((((7 * v1) + (13 * x4)) + ((5 * v2) * x4)) - (((7 * v1) + (13 * x4)) + ((5 * v2) * x4)) / 31 * 31))]) (st' := [.inl x3, .inl ((((7 * v1) + (13 * x4)) + ((5 * v2) * x4)) - (((7 * v1) + (13 * x4)) + ((5 * v2) * x4)) / 31 * 31)]) rfl ?_
    refine s_icle C 37 rfl (fun _ => ?_) (fun _ => ?_)
    · refine s_blk C 0 0 [0, 1, 2, 3, 4] (pc' := 72) (lv' := [(0, .inr (.inl (some a0))), (1, .inr (.inl (some a5))), (2, .inl x2), (3, .inl x3), (4, .inl x4)]) (st' := []) rfl ?_
      exact wStore_freeNode_j72 C htab a0 k7 H7 _ _ _ _
    refine s_blk C 38 4 [0, 1, 2, 3, 4] (pc' := 72) (lv' := [(0, .inr (.inl (some a0))), (1, .inr (.inl (some a5))), (2, .inl x4), (3, .inl ((((7 * v1) + (13 * x4)) + ((5 * v2) * x4)) - (((7 * v1) + (13 * x4)) + ((5 * v2) * x4)) / 31 * 31)), (4, .inl x4)]) (st' := []) rfl ?_
    exact wStore_freeNode_j72 C htab a0 k7 H7 _ _ _ _
  refine s_blk C 0 0 [0, 1, 2, 3, 4] (pc' := 72) (lv' := [(0, .inr (.inl (some a0))), (1, .inr (.inl (some a5))), (2, .inl x2), (3, .inl x3), (4, .inl x4)]) (st' := []) rfl ?_
  exact wStore_freeNode_j72 C htab a0 k7 H7 _ _ _ _
def fStore_freeNode_l7 (a0 : Nat) (fu : Nat) : Option Nat → Int32 → Int32 → Int32 → Mm → Option (Int32) := Nat.rec (fun r1 x2 x3 x4 M => none) (fun _ k => fStore_freeNode_b7 a0 k) fu
theorem wStore_freeNode_l7 {X : MC} {G : GE} {n0 : Nat} (C : CX X G RX8 cX8_freeNode pStore_freeNode 6 (some .int) n0) (htab : ∀ z ∈ X.2.2.2.2.2.2.2.2.exceptionTable.toList, False) {σ : Sg} {M : Mm} {n : Nat} (a0 : Nat) : ∀ (fu : Nat) (r1 : Option Nat) (x2 : Int32) (x3 : Int32) (x4 : Int32), JS X G 6 300 0 n0 (EM X G n0 3 300 (eR rvI σ M n)) (fStore_freeNode_l7 a0 fu r1 x2 x3 x4 M) (σ, M, n) 7 [(0, .inr (.inl (some a0))), (1, .inr (.inl r1)), (2, .inl x2), (3, .inl x3), (4, .inl x4)] [] := by
  intro fu
  induction fu with
  | zero => intro r1 x2 x3 x4; exact s_none
  | succ fu ih => intro r1 x2 x3 x4; exact wStore_freeNode_b7 C htab a0 (fStore_freeNode_l7 a0 fu) ih _ _ _ _
def fStore_freeNode (a0 : Nat) (r1 : Option Nat) (M : Mm) : Option (Int32) :=
  fStore_freeNode_l7 a0 FU r1 (-1) (-1) 0 M
theorem wStore_freeNode {X : MC} {G : GE} {n0 : Nat} (C : CX X G RX8 cX8_freeNode pStore_freeNode 6 (some .int) n0) (htab : ∀ z ∈ X.2.2.2.2.2.2.2.2.exceptionTable.toList, False) {σ : Sg} {M : Mm} {n : Nat} (a0 : Nat) (r1 : Option Nat) : JS X G 6 300 0 n0 (EM X G n0 3 300 (eR rvI σ M n)) (fStore_freeNode a0 r1 M) (σ, M, n) 0 [(0, .inr (.inl (some a0))), (1, .inr (.inl r1))] [] := by
  unfold fStore_freeNode
  refine s_blk C 0 6 [0, 1, 2, 3, 4] (pc' := 7) (lv' := [(0, .inr (.inl (some a0))), (1, .inr (.inl r1)), (2, .inl (-1)), (3, .inl (-1)), (4, .inl 0)]) (st' := []) rfl ?_
  exact wStore_freeNode_l7 C htab a0 FU _ _ _ _
theorem cStore_freeNode {l : Launch} {G : GE} (htr : l.stackTraces = false) (σ : Sg) (M : Mm) (n : Nat) (a0 : Nat) (r1 : Option Nat) : ∀ o, fStore_freeNode a0 r1 M = some o → MetX l G yX8_freeNode cX8_freeNode 6 (some .int) 3 300 [.inr (.inl (some a0)), .inr (.inl r1)] (σ, M, n) ((eR rvI σ M n) o) :=
  c_ofX (by decide) kStore_freeNode htr rfl rfl fun X _ _ C htab => wStore_freeNode C htab a0 r1
def pCode_codedByte : List BR := [(0, .iload_n 1, 1, 0, 1), (1, .iconst 2, 1, 2, 2), (2, .imul, 1, 0, 3), (3, .iload_n 2, 1, 0, 4), (4, .iadd, 1, 0, 5), (5, .istore_n 3, 1, 0, 6), (6, .iload_n 3, 1, 0, 7), (7, .ifCond .lt (21), 3, 0, 28), (10, .iload_n 3, 1, 0, 11), (11, .aload_n 0, 1, 0, 12), (12, .getfield 15, 3, 0, 15), (15, .arraylength, 1, 0, 16), (16, .if_icmp .ge (12), 3, 0, 28), (19, .aload_n 0, 1, 0, 20), (20, .getfield 15, 3, 0, 23), (23, .iload_n 3, 1, 0, 24), (24, .baload, 1, 0, 25), (25, .goto (4), 3, 0, 29), (28, .iconst 0, 1, 0, 29), (29, .ireturn, 1, 0, 30)]
theorem kCode_codedByte : bOK cX1_codedByte 4 pCode_codedByte = true := by decide +kernel
def fCode_codedByte (a0 : Nat) (x1 : Int32) (x2 : Int32) (M : Mm) : Option (Int32) :=
  if ((x1 * 2) + x2) < 0 then
    some 0
  else
    fgR 2 201 (some a0) M fun v1 =>
    aln v1 M fun v2 =>
    if v2 ≤ ((x1 * 2) + x2) then
      some 0
    else
      fgR 2 201 (some a0) M fun v3 =>
      alI 20 v3 ((x1 * 2) + x2) M fun v4 =>
      some v4
theorem wCode_codedByte {X : MC} {G : GE} {n0 : Nat} (C : CX X G RX1 cX1_codedByte pCode_codedByte 4 (some .int) n0) (htab : ∀ z ∈ X.2.2.2.2.2.2.2.2.exceptionTable.toList, False) {σ : Sg} {M : Mm} {n : Nat} (a0 : Nat) (x1 : Int32) (x2 : Int32) : JS X G 4 300 0 n0 (EM X G n0 2 300 (eR rvI σ M n)) (fCode_codedByte a0 x1 x2 M) (σ, M, n) 0 [(0, .inr (.inl (some a0))), (1, .inl x1), (2, .inl x2)] [] := by
  unfold fCode_codedByte
  refine s_blk C 0 7 [0, 3] (pc' := 7) (lv' := [(0, .inr (.inl (some a0))), (3, .inl ((x1 * 2) + x2))]) (st' := [.inl ((x1 * 2) + x2)]) rfl ?_
  refine s_ilt C 7 rfl (fun _ => ?_) (fun _ => ?_)
  · refine s_blk C 18 1 [] (pc' := 29) (lv' := []) (st' := [.inl 0]) rfl ?_
    exact s_iret C 19 rfl rfl
  refine s_blk C 8 2 [0, 3] (pc' := 12) (lv' := [(0, .inr (.inl (some a0))), (3, .inl ((x1 * 2) + x2))]) (st' := [.inr (.inl (some a0)), .inl ((x1 * 2) + x2)]) rfl ?_
  refine s_gR C 10 rfl fl_X1_15 rfl rfl (fun v1 => ?_)
  refine s_len C 11 rfl (fun v2 => ?_)
  refine s_icge C 12 rfl (fun _ => ?_) (fun _ => ?_)
  · refine s_blk C 18 1 [] (pc' := 29) (lv' := []) (st' := [.inl 0]) rfl ?_
    exact s_iret C 19 rfl rfl
  refine s_blk C 13 1 [3] (pc' := 20) (lv' := [(3, .inl ((x1 * 2) + x2))]) (st' := [.inr (.inl (some a0))]) rfl ?_
  refine s_gR C 14 rfl fl_X1_15 rfl rfl (fun v3 => ?_)
  refine s_blk C 15 1 [] (pc' := 24) (lv' := []) (st' := [.inl ((x1 * 2) + x2), .inr (.inl v3)]) rfl ?_
  refine s_ldB C 16 rfl (fun v4 => ?_)
  refine s_blk C 17 1 [] (pc' := 29) (lv' := []) (st' := [.inl v4]) rfl ?_
  exact s_iret C 19 rfl rfl
theorem cCode_codedByte {l : Launch} {G : GE} (htr : l.stackTraces = false) (σ : Sg) (M : Mm) (n : Nat) (a0 : Nat) (x1 : Int32) (x2 : Int32) : ∀ o, fCode_codedByte a0 x1 x2 M = some o → MetX l G yX1_codedByte cX1_codedByte 4 (some .int) 2 300 [.inr (.inl (some a0)), .inl x1, .inl x2] (σ, M, n) ((eR rvI σ M n) o) :=
  c_ofX (by decide) kCode_codedByte htr rfl rfl fun X _ _ C htab => wCode_codedByte C htab a0 x1 x2

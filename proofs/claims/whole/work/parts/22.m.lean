def pPart_nodeOf : List BR := [(0, .iload_n 1, 1, 0, 1), (1, .ifCond .lt (21), 3, 0, 22), (4, .iload_n 1, 1, 0, 5), (5, .aload_n 0, 1, 0, 6), (6, .getfield 18, 3, 0, 9), (9, .arraylength, 1, 0, 10), (10, .if_icmp .ge (12), 3, 0, 22), (13, .aload_n 0, 1, 0, 14), (14, .getfield 18, 3, 0, 17), (17, .iload_n 1, 1, 0, 18), (18, .iaload, 1, 0, 19), (19, .goto (4), 3, 0, 23), (22, .iconst (-1), 1, -1, 23), (23, .ireturn, 1, 0, 24)]
theorem kPart_nodeOf : bOK cX5_nodeOf 2 pPart_nodeOf = true := by decide +kernel
def fPart_nodeOf (a0 : Nat) (x1 : Int32) (M : Mm) : Option (Int32) :=
  if x1 < 0 then
    some (-1)
  else
    fgR 5 504 (some a0) M fun v1 =>
    aln v1 M fun v2 =>
    if v2 ≤ x1 then
      some (-1)
    else
      fgR 5 504 (some a0) M fun v3 =>
      alI 21 v3 x1 M fun v4 =>
      some v4
theorem wPart_nodeOf {X : MC} {G : GE} {n0 : Nat} (C : CX X G RX5 cX5_nodeOf pPart_nodeOf 2 (some .int) n0) (htab : ∀ z ∈ X.2.2.2.2.2.2.2.2.exceptionTable.toList, False) {σ : Sg} {M : Mm} {n : Nat} (a0 : Nat) (x1 : Int32) : JS X G 2 300 0 n0 (EM X G n0 2 300 (eR rvI σ M n)) (fPart_nodeOf a0 x1 M) (σ, M, n) 0 [(0, .inr (.inl (some a0))), (1, .inl x1)] [] := by
  unfold fPart_nodeOf
  refine s_blk C 0 1 [0, 1] (pc' := 1) (lv' := [(0, .inr (.inl (some a0))), (1, .inl x1)]) (st' := [.inl x1]) rfl ?_
  refine s_ilt C 1 rfl (fun _ => ?_) (fun _ => ?_)
  · refine s_blk C 12 1 [] (pc' := 23) (lv' := []) (st' := [.inl (-1)]) rfl ?_
    exact s_iret C 13 rfl rfl
  refine s_blk C 2 2 [0, 1] (pc' := 6) (lv' := [(0, .inr (.inl (some a0))), (1, .inl x1)]) (st' := [.inr (.inl (some a0)), .inl x1]) rfl ?_
  refine s_gR C 4 rfl fl_X5_18 rfl rfl (fun v1 => ?_)
  refine s_len C 5 rfl (fun v2 => ?_)
  refine s_icge C 6 rfl (fun _ => ?_) (fun _ => ?_)
  · refine s_blk C 12 1 [] (pc' := 23) (lv' := []) (st' := [.inl (-1)]) rfl ?_
    exact s_iret C 13 rfl rfl
  refine s_blk C 7 1 [1] (pc' := 14) (lv' := [(1, .inl x1)]) (st' := [.inr (.inl (some a0))]) rfl ?_
  refine s_gR C 8 rfl fl_X5_18 rfl rfl (fun v3 => ?_)
  refine s_blk C 9 1 [] (pc' := 18) (lv' := []) (st' := [.inl x1, .inr (.inl v3)]) rfl ?_
  refine s_ldI C 10 rfl (fun v4 => ?_)
  refine s_blk C 11 1 [] (pc' := 23) (lv' := []) (st' := [.inl v4]) rfl ?_
  exact s_iret C 13 rfl rfl
theorem cPart_nodeOf {l : Launch} {G : GE} (htr : l.stackTraces = false) (σ : Sg) (M : Mm) (n : Nat) (a0 : Nat) (x1 : Int32) : ∀ o, fPart_nodeOf a0 x1 M = some o → MetX l G yX5_nodeOf cX5_nodeOf 2 (some .int) 2 300 [.inr (.inl (some a0)), .inl x1] (σ, M, n) ((eR rvI σ M n) o) :=
  c_ofX (by decide) kPart_nodeOf htr rfl rfl fun X _ _ C htab => wPart_nodeOf C htab a0 x1
def pPart_isGood : List BR := [(0, .aload_n 0, 1, 0, 1), (1, .iload_n 1, 1, 0, 2), (2, .invokevirtual 45, 3, 0, 5), (5, .iconst (-1), 1, -1, 6), (6, .if_icmp .eq (25), 3, 0, 31), (9, .iload_n 1, 1, 0, 10), (10, .aload_n 0, 1, 0, 11), (11, .getfield 22, 3, 0, 14), (14, .arraylength, 1, 0, 15), (15, .if_icmp .ge (16), 3, 0, 31), (18, .aload_n 0, 1, 0, 19), (19, .getfield 22, 3, 0, 22), (22, .iload_n 1, 1, 0, 23), (23, .baload, 1, 0, 24), (24, .ifCond .ne (7), 3, 0, 31), (27, .iconst 1, 1, 1, 28), (28, .goto (4), 3, 0, 32), (31, .iconst 0, 1, 0, 32), (32, .ireturn, 1, 0, 33)]
theorem kPart_isGood : bOK cX5_isGood 2 pPart_isGood = true := by decide +kernel
def fPart_isGood (a0 : Nat) (x1 : Int32) (M : Mm) : Option (Int32) :=
  rk 5 (some a0) M fun _ =>
  bdR (fPart_nodeOf a0 x1 M) fun v2 =>
  if v2 = (-1) then
    rZ 0 (some 0)
  else
    fgR 5 505 (some a0) M fun v3 =>
    aln v3 M fun v4 =>
    if v4 ≤ x1 then
      rZ 0 (some 0)
    else
      fgR 5 505 (some a0) M fun v5 =>
      alI 22 v5 x1 M fun v6 =>
      if v6 = 0 then
        rZ 1 (some 1)
      else
        rZ 0 (some 0)
theorem wPart_isGood {X : MC} {G : GE} {n0 : Nat} (C : CX X G RX5 cX5_isGood pPart_isGood 2 (some .boolean) n0) (htab : ∀ z ∈ X.2.2.2.2.2.2.2.2.exceptionTable.toList, False) {σ : Sg} {M : Mm} {n : Nat} (a0 : Nat) (x1 : Int32) : JS X G 2 300 0 n0 (EM X G n0 3 300 (eR rvI σ M n)) (fPart_isGood a0 x1 M) (σ, M, n) 0 [(0, .inr (.inl (some a0))), (1, .inl x1)] [] := by
  unfold fPart_isGood
  refine s_blk C 0 2 [0, 1] (pc' := 2) (lv' := [(0, .inr (.inl (some a0))), (1, .inl x1)]) (st' := [.inl x1, .inr (.inl (some a0))]) rfl ?_
  refine s_rks (fun hk1 => ?_)
  refine s_RI (CE_EM _ _ _ _ _ _) (st := []) (fun o ho => j_callV (As := [.inl x1]) (st := []) (b := a0) C 2 rfl mf_Part_nodeOf ml_X5_45 rfl (recv_K C (by decide) (by decide) rfl hk1) (by decide) (by decide) (Nat.le_refl _) rfl (cPart_nodeOf (CX_tr C) σ M n a0 x1 o ho)) (fun v2 => ?_)
  refine s_blk C 3 1 [0, 1] (pc' := 6) (lv' := [(0, .inr (.inl (some a0))), (1, .inl x1)]) (st' := [.inl (-1), .inl v2]) rfl ?_
  refine s_iceq C 4 rfl (fun _ => ?_) (fun _ => ?_)
  · refine s_blk C 17 1 [] (pc' := 32) (lv' := []) (st' := [.inl 0]) rfl ?_
    exact s_zret C 18 rfl rfl
  refine s_blk C 5 2 [0, 1] (pc' := 11) (lv' := [(0, .inr (.inl (some a0))), (1, .inl x1)]) (st' := [.inr (.inl (some a0)), .inl x1]) rfl ?_
  refine s_gR C 7 rfl fl_X5_22 rfl rfl (fun v3 => ?_)
  refine s_len C 8 rfl (fun v4 => ?_)
  refine s_icge C 9 rfl (fun _ => ?_) (fun _ => ?_)
  · refine s_blk C 17 1 [] (pc' := 32) (lv' := []) (st' := [.inl 0]) rfl ?_
    exact s_zret C 18 rfl rfl
  refine s_blk C 10 1 [1] (pc' := 19) (lv' := [(1, .inl x1)]) (st' := [.inr (.inl (some a0))]) rfl ?_
  refine s_gR C 11 rfl fl_X5_22 rfl rfl (fun v5 => ?_)
  refine s_blk C 12 1 [] (pc' := 23) (lv' := []) (st' := [.inl x1, .inr (.inl v5)]) rfl ?_
  refine s_ldZ C 13 rfl (fun v6 => ?_)
  refine s_ine C 14 rfl (fun _ => ?_) (fun _ => ?_)
  · refine s_blk C 15 2 [] (pc' := 32) (lv' := []) (st' := [.inl 1]) rfl ?_
    exact s_zret C 18 rfl rfl
  refine s_blk C 17 1 [] (pc' := 32) (lv' := []) (st' := [.inl 0]) rfl ?_
  exact s_zret C 18 rfl rfl
theorem cPart_isGood {l : Launch} {G : GE} (htr : l.stackTraces = false) (σ : Sg) (M : Mm) (n : Nat) (a0 : Nat) (x1 : Int32) : ∀ o, fPart_isGood a0 x1 M = some o → MetX l G yX5_isGood cX5_isGood 2 (some .boolean) 3 300 [.inr (.inl (some a0)), .inl x1] (σ, M, n) ((eR rvI σ M n) o) :=
  c_ofX (by decide) kPart_isGood htr rfl rfl fun X _ _ C htab => wPart_isGood C htab a0 x1
def pCode_findLowest : List BR := [(0, .iconst 0, 1, 0, 1), (1, .istore_n 2, 1, 0, 2), (2, .iconst 0, 1, 0, 3), (3, .istore_n 3, 1, 0, 4), (4, .iload_n 3, 1, 0, 5), (5, .iconst 5, 1, 5, 6), (6, .if_icmp .ge (36), 3, 0, 42), (9, .iload_n 2, 1, 0, 10), (10, .aload_n 0, 1, 0, 11), (11, .getfield 18, 3, 0, 14), (14, .arraylength, 1, 0, 15), (15, .if_icmp .ge (27), 3, 0, 42), (18, .aload_n 1, 1, 0, 19), (19, .iload_n 3, 1, 0, 20), (20, .invokevirtual 48, 3, 0, 23), (23, .ifCond .eq (13), 3, 0, 36), (26, .aload_n 0, 1, 0, 27), (27, .getfield 18, 3, 0, 30), (30, .iload_n 2, 1, 0, 31), (31, .iload_n 3, 1, 0, 32), (32, .iastore, 1, 0, 33), (33, .iinc 2 (1), 3, 1, 36), (36, .iinc 3 (1), 3, 1, 39), (39, .goto (-35), 3, 0, 4), (42, .iload_n 2, 1, 0, 43), (43, .aload_n 0, 1, 0, 44), (44, .getfield 18, 3, 0, 47), (47, .arraylength, 1, 0, 48), (48, .if_icmp .ne (7), 3, 0, 55), (51, .iconst 1, 1, 1, 52), (52, .goto (4), 3, 0, 56), (55, .iconst 0, 1, 0, 56), (56, .ireturn, 1, 0, 57)]
theorem kCode_findLowest : bOK cX1_findLowest 4 pCode_findLowest = true := by decide +kernel
def fCode_findLowest_j42 (a0 : Nat) (x2 : Int32) (M : Mm) : Option (Int32 × Mm) :=
  fgR 2 202 (some a0) M fun v1 =>
  aln v1 M fun v2 =>
  if x2 = v2 then
    rZ 1 (some (1, M))
  else
    rZ 0 (some (0, M))
theorem wCode_findLowest_j42 {X : MC} {G : GE} {n0 : Nat} (C : CX X G RX1 cX1_findLowest pCode_findLowest 4 (some .boolean) n0) (htab : ∀ z ∈ X.2.2.2.2.2.2.2.2.exceptionTable.toList, False) {σ : Sg} {n : Nat} (a0 : Nat) (x2 : Int32) (M : Mm) : JS X G 4 300 0 n0 (EM X G n0 4 300 (eW rvI σ n)) (fCode_findLowest_j42 a0 x2 M) (σ, M, n) 42 [(0, .inr (.inl (some a0))), (2, .inl x2)] [] := by
  unfold fCode_findLowest_j42
  refine s_blk C 24 2 [] (pc' := 44) (lv' := []) (st' := [.inr (.inl (some a0)), .inl x2]) rfl ?_
  refine s_gR C 26 rfl fl_X1_18 rfl rfl (fun v1 => ?_)
  refine s_len C 27 rfl (fun v2 => ?_)
  refine s_icne C 28 rfl (fun _ => ?_) (fun _ => ?_)
  · refine s_blk C 29 2 [] (pc' := 56) (lv' := []) (st' := [.inl 1]) rfl ?_
    exact s_zret C 32 rfl rfl
  refine s_blk C 31 1 [] (pc' := 56) (lv' := []) (st' := [.inl 0]) rfl ?_
  exact s_zret C 32 rfl rfl
def fCode_findLowest_j36 (a0 : Nat) (k4 : Option Nat → Int32 → Int32 → Mm → Option (Int32 × Mm)) (r1 : Option Nat) (x2 : Int32) (x3 : Int32) (M : Mm) : Option (Int32 × Mm) :=
  k4 r1 x2 (x3 + 1) M
theorem wCode_findLowest_j36 {X : MC} {G : GE} {n0 : Nat} (C : CX X G RX1 cX1_findLowest pCode_findLowest 4 (some .boolean) n0) (htab : ∀ z ∈ X.2.2.2.2.2.2.2.2.exceptionTable.toList, False) {σ : Sg} {n : Nat} (a0 : Nat) (k4 : Option Nat → Int32 → Int32 → Mm → Option (Int32 × Mm)) (H4 : ∀ (r1 : Option Nat) (x2 : Int32) (x3 : Int32) (M : Mm), JS X G 4 300 0 n0 (EM X G n0 4 300 (eW rvI σ n)) (k4 r1 x2 x3 M) (σ, M, n) 4 [(0, .inr (.inl (some a0))), (1, .inr (.inl r1)), (2, .inl x2), (3, .inl x3)] []) (r1 : Option Nat) (x2 : Int32) (x3 : Int32) (M : Mm) : JS X G 4 300 0 n0 (EM X G n0 4 300 (eW rvI σ n)) (fCode_findLowest_j36 a0 k4 r1 x2 x3 M) (σ, M, n) 36 [(0, .inr (.inl (some a0))), (1, .inr (.inl r1)), (2, .inl x2), (3, .inl x3)] [] := by
  unfold fCode_findLowest_j36
  refine s_blk C 22 2 [0, 1, 2, 3] (pc' := 4) (lv' := [(0, .inr (.inl (some a0))), (1, .inr (.inl r1)), (2, .inl x2), (3, .inl (x3 + 1))]) (st' := []) rfl ?_
  exact H4 _ _ _ _
def fCode_findLowest_b4 (a0 : Nat) (k4 : Option Nat → Int32 → Int32 → Mm → Option (Int32 × Mm)) (r1 : Option Nat) (x2 : Int32) (x3 : Int32) (M : Mm) : Option (Int32 × Mm) :=
  if 5 ≤ x3 then
    fCode_findLowest_j42 a0 x2 M
  else
    fgR 2 202 (some a0) M fun v1 =>
    aln v1 M fun v2 =>
    if v2 ≤ x2 then
      fCode_findLowest_j42 a0 x2 M
    else
      rk 5 r1 M fun a3 =>
      bdR (fPart_isGood a3 x3 M) fun v6 =>
      if v6 = 0 then
        fCode_findLowest_j36 a0 k4 r1 x2 x3 M
      else
        fgR 2 202 (some a0) M fun v7 =>
        asI v7 x2 x3 M fun M8 =>
        fCode_findLowest_j36 a0 k4 r1 (x2 + 1) x3 M8
theorem wCode_findLowest_b4 {X : MC} {G : GE} {n0 : Nat} (C : CX X G RX1 cX1_findLowest pCode_findLowest 4 (some .boolean) n0) (htab : ∀ z ∈ X.2.2.2.2.2.2.2.2.exceptionTable.toList, False) {σ : Sg} {n : Nat} (a0 : Nat) (k4 : Option Nat → Int32 → Int32 → Mm → Option (Int32 × Mm)) (H4 : ∀ (r1 : Option Nat) (x2 : Int32) (x3 : Int32) (M : Mm), JS X G 4 300 0 n0 (EM X G n0 4 300 (eW rvI σ n)) (k4 r1 x2 x3 M) (σ, M, n) 4 [(0, .inr (.inl (some a0))), (1, .inr (.inl r1)), (2, .inl x2), (3, .inl x3)] []) (r1 : Option Nat) (x2 : Int32) (x3 : Int32) (M : Mm) : JS X G 4 300 0 n0 (EM X G n0 4 300 (eW rvI σ n)) (fCode_findLowest_b4 a0 k4 r1 x2 x3 M) (σ, M, n) 4 [(0, .inr (.inl (some a0))), (1, .inr (.inl r1)), (2, .inl x2), (3, .inl x3)] [] := by
  unfold fCode_findLowest_b4
  refine s_blk C 4 2 [0, 1, 2, 3] (pc' := 6) (lv' := [(0, .inr (.inl (some a0))), (1, .inr (.inl r1)), (2, .inl x2), (3, .inl x3)]) (st' := [.inl 5, .inl x3]) rfl ?_
  refine s_icge C 6 rfl (fun _ => ?_) (fun _ => ?_)
  · refine s_blk C 0 0 [0, 2] (pc' := 42) (lv' := [(0, .inr (.inl (some a0))), (2, .inl x2)]) (st' := []) rfl ?_
    exact wCode_findLowest_j42 C htab a0 _ _
  refine s_blk C 7 2 [0, 1, 2, 3] (pc' := 11) (lv' := [(0, .inr (.inl (some a0))), (1, .inr (.inl r1)), (2, .inl x2), (3, .inl x3)]) (st' := [.inr (.inl (some a0)), .inl x2]) rfl ?_
  refine s_gR C 9 rfl fl_X1_18 rfl rfl (fun v1 => ?_)
  refine s_len C 10 rfl (fun v2 => ?_)
  refine s_icge C 11 rfl (fun _ => ?_) (fun _ => ?_)
  · refine s_blk C 0 0 [0, 2] (pc' := 42) (lv' := [(0, .inr (.inl (some a0))), (2, .inl x2)]) (st' := []) rfl ?_
    exact wCode_findLowest_j42 C htab a0 _ _
  refine s_blk C 12 2 [0, 1, 2, 3] (pc' := 20) (lv' := [(0, .inr (.inl (some a0))), (1, .inr (.inl r1)), (2, .inl x2), (3, .inl x3)]) (st' := [.inl x3, .inr (.inl r1)]) rfl ?_
  refine s_rk (fun a3 ha4 hk5 => ?_)
  subst ha4
  refine s_RI (CE_EM _ _ _ _ _ _) (st := []) (fun o ho => j_callV (As := [.inl x3]) (st := []) (b := a3) C 14 rfl mf_Part_isGood ml_X1_48 rfl (recv_K C (by decide) (by decide) rfl hk5) (by decide) (by decide) (Nat.le_refl _) rfl (cPart_isGood (CX_tr C) σ M n a3 x3 o ho)) (fun v6 => ?_)
  refine s_ieq C 15 rfl (fun _ => ?_) (fun _ => ?_)
  · exact wCode_findLowest_j36 C htab a0 k4 H4 _ _ _ _
  refine s_blk C 16 1 [0, 1, 2, 3] (pc' := 27) (lv' := [(0, .inr (.inl (some a0))), (1, .inr (.inl (some a3))), (2, .inl x2), (3, .inl x3)]) (st' := [.inr (.inl (some a0))]) rfl ?_
  refine s_gR C 17 rfl fl_X1_18 rfl rfl (fun v7 => ?_)
  refine s_blk C 18 2 [0, 1, 2, 3] (pc' := 32) (lv' := [(0, .inr (.inl (some a0))), (1, .inr (.inl (some a3))), (2, .inl x2), (3, .inl x3)]) (st' := [.inl x3, .inl x2, .inr (.inl v7)]) rfl ?_
  refine s_stI C 20 rfl (fun M8 _ => ?_)
  refine s_blk C 21 1 [0, 1, 2, 3] (pc' := 36) (lv' := [(0, .inr (.inl (some a0))), (1, .inr (.inl (some a3))), (2, .inl (x2 + 1)), (3, .inl x3)]) (st' := []) rfl ?_
  exact wCode_findLowest_j36 C htab a0 k4 H4 _ _ _ _
def fCode_findLowest_l4 (a0 : Nat) (fu : Nat) : Option Nat → Int32 → Int32 → Mm → Option (Int32 × Mm) := Nat.rec (fun r1 x2 x3 M => none) (fun _ k => fCode_findLowest_b4 a0 k) fu
theorem wCode_findLowest_l4 {X : MC} {G : GE} {n0 : Nat} (C : CX X G RX1 cX1_findLowest pCode_findLowest 4 (some .boolean) n0) (htab : ∀ z ∈ X.2.2.2.2.2.2.2.2.exceptionTable.toList, False) {σ : Sg} {n : Nat} (a0 : Nat) : ∀ (fu : Nat) (r1 : Option Nat) (x2 : Int32) (x3 : Int32) (M : Mm), JS X G 4 300 0 n0 (EM X G n0 4 300 (eW rvI σ n)) (fCode_findLowest_l4 a0 fu r1 x2 x3 M) (σ, M, n) 4 [(0, .inr (.inl (some a0))), (1, .inr (.inl r1)), (2, .inl x2), (3, .inl x3)] [] := by
  intro fu
  induction fu with
  | zero => intro r1 x2 x3 M; exact s_none
  | succ fu ih => intro r1 x2 x3 M; exact wCode_findLowest_b4 C htab a0 (fCode_findLowest_l4 a0 fu) ih _ _ _ _
def fCode_findLowest (a0 : Nat) (r1 : Option Nat) (M : Mm) : Option (Int32 × Mm) :=
  fCode_findLowest_l4 a0 FU r1 0 0 M
theorem wCode_findLowest {X : MC} {G : GE} {n0 : Nat} (C : CX X G RX1 cX1_findLowest pCode_findLowest 4 (some .boolean) n0) (htab : ∀ z ∈ X.2.2.2.2.2.2.2.2.exceptionTable.toList, False) {σ : Sg} {n : Nat} (a0 : Nat) (r1 : Option Nat) (M : Mm) : JS X G 4 300 0 n0 (EM X G n0 4 300 (eW rvI σ n)) (fCode_findLowest a0 r1 M) (σ, M, n) 0 [(0, .inr (.inl (some a0))), (1, .inr (.inl r1))] [] := by
  unfold fCode_findLowest
  refine s_blk C 0 4 [0, 1, 2, 3] (pc' := 4) (lv' := [(0, .inr (.inl (some a0))), (1, .inr (.inl r1)), (2, .inl 0), (3, .inl 0)]) (st' := []) rfl ?_
  exact wCode_findLowest_l4 C htab a0 FU _ _ _ _
theorem cCode_findLowest {l : Launch} {G : GE} (htr : l.stackTraces = false) (σ : Sg) (M : Mm) (n : Nat) (a0 : Nat) (r1 : Option Nat) : ∀ o, fCode_findLowest a0 r1 M = some o → MetX l G yX1_findLowest cX1_findLowest 4 (some .boolean) 4 300 [.inr (.inl (some a0)), .inr (.inl r1)] (σ, M, n) ((eW rvI σ n) o) :=
  c_ofX (by decide) kCode_findLowest htr rfl rfl fun X _ _ C htab => wCode_findLowest C htab a0 r1 _
def pPart_shardByte : List BR := [(0, .iload_n 1, 1, 0, 1), (1, .iconst 2, 1, 2, 2), (2, .imul, 1, 0, 3), (3, .iload_n 2, 1, 0, 4), (4, .iadd, 1, 0, 5), (5, .istore_n 3, 1, 0, 6), (6, .iload_n 3, 1, 0, 7), (7, .ifCond .lt (21), 3, 0, 28), (10, .iload_n 3, 1, 0, 11), (11, .aload_n 0, 1, 0, 12), (12, .getfield 15, 3, 0, 15), (15, .arraylength, 1, 0, 16), (16, .if_icmp .ge (12), 3, 0, 28), (19, .aload_n 0, 1, 0, 20), (20, .getfield 15, 3, 0, 23), (23, .iload_n 3, 1, 0, 24), (24, .baload, 1, 0, 25), (25, .goto (4), 3, 0, 29), (28, .iconst 0, 1, 0, 29), (29, .ireturn, 1, 0, 30)]
theorem kPart_shardByte : bOK cX5_shardByte 4 pPart_shardByte = true := by decide +kernel
def fPart_shardByte (a0 : Nat) (x1 : Int32) (x2 : Int32) (M : Mm) : Option (Int32) :=
  if ((x1 * 2) + x2) < 0 then
    some 0
  else
    fgR 5 503 (some a0) M fun v1 =>
    aln v1 M fun v2 =>
    if v2 ≤ ((x1 * 2) + x2) then
      some 0
    else
      fgR 5 503 (some a0) M fun v3 =>
      alI 20 v3 ((x1 * 2) + x2) M fun v4 =>
      some v4
theorem wPart_shardByte {X : MC} {G : GE} {n0 : Nat} (C : CX X G RX5 cX5_shardByte pPart_shardByte 4 (some .int) n0) (htab : ∀ z ∈ X.2.2.2.2.2.2.2.2.exceptionTable.toList, False) {σ : Sg} {M : Mm} {n : Nat} (a0 : Nat) (x1 : Int32) (x2 : Int32) : JS X G 4 300 0 n0 (EM X G n0 2 300 (eR rvI σ M n)) (fPart_shardByte a0 x1 x2 M) (σ, M, n) 0 [(0, .inr (.inl (some a0))), (1, .inl x1), (2, .inl x2)] [] := by
  unfold fPart_shardByte
  refine s_blk C 0 7 [0, 3] (pc' := 7) (lv' := [(0, .inr (.inl (some a0))), (3, .inl ((x1 * 2) + x2))]) (st' := [.inl ((x1 * 2) + x2)]) rfl ?_
  refine s_ilt C 7 rfl (fun _ => ?_) (fun _ => ?_)
  · refine s_blk C 18 1 [] (pc' := 29) (lv' := []) (st' := [.inl 0]) rfl ?_
    exact s_iret C 19 rfl rfl
  refine s_blk C 8 2 [0, 3] (pc' := 12) (lv' := [(0, .inr (.inl (some a0))), (3, .inl ((x1 * 2) + x2))]) (st' := [.inr (.inl (some a0)), .inl ((x1 * 2) + x2)]) rfl ?_
  refine s_gR C 10 rfl fl_X5_15 rfl rfl (fun v1 => ?_)
  refine s_len C 11 rfl (fun v2 => ?_)
  refine s_icge C 12 rfl (fun _ => ?_) (fun _ => ?_)
  · refine s_blk C 18 1 [] (pc' := 29) (lv' := []) (st' := [.inl 0]) rfl ?_
    exact s_iret C 19 rfl rfl
  refine s_blk C 13 1 [3] (pc' := 20) (lv' := [(3, .inl ((x1 * 2) + x2))]) (st' := [.inr (.inl (some a0))]) rfl ?_
  refine s_gR C 14 rfl fl_X5_15 rfl rfl (fun v3 => ?_)
  refine s_blk C 15 1 [] (pc' := 24) (lv' := []) (st' := [.inl ((x1 * 2) + x2), .inr (.inl v3)]) rfl ?_
  refine s_ldB C 16 rfl (fun v4 => ?_)
  refine s_blk C 17 1 [] (pc' := 29) (lv' := []) (st' := [.inl v4]) rfl ?_
  exact s_iret C 19 rfl rfl
theorem cPart_shardByte {l : Launch} {G : GE} (htr : l.stackTraces = false) (σ : Sg) (M : Mm) (n : Nat) (a0 : Nat) (x1 : Int32) (x2 : Int32) : ∀ o, fPart_shardByte a0 x1 x2 M = some o → MetX l G yX5_shardByte cX5_shardByte 4 (some .int) 2 300 [.inr (.inl (some a0)), .inl x1, .inl x2] (σ, M, n) ((eR rvI σ M n) o) :=
  c_ofX (by decide) kPart_shardByte htr rfl rfl fun X _ _ C htab => wPart_shardByte C htab a0 x1 x2
def pCode_factor : List BR := [(0, .iload_n 0, 1, 0, 1), (1, .iconst 3, 1, 3, 2), (2, .imul, 1, 0, 3), (3, .iload_n 1, 1, 0, 4), (4, .iadd, 1, 0, 5), (5, .istore_n 2, 1, 0, 6), (6, .iload_n 2, 1, 0, 7), (7, .ifCond .lt (19), 3, 0, 26), (10, .iload_n 2, 1, 0, 11), (11, .getstatic 29, 3, 0, 14), (14, .arraylength, 1, 0, 15), (15, .if_icmp .ge (11), 3, 0, 26), (18, .getstatic 29, 3, 0, 21), (21, .iload_n 2, 1, 0, 22), (22, .iaload, 1, 0, 23), (23, .goto (4), 3, 0, 27), (26, .iconst 0, 1, 0, 27), (27, .ireturn, 1, 0, 28)]
theorem kCode_factor : bOK cX1_factor 3 pCode_factor = true := by decide +kernel
def fCode_factor (x0 : Int32) (x1 : Int32) : Option (Int32) :=
  if ((x0 * 3) + x1) < 0 then
    some 0
  else
    if 15 ≤ ((x0 * 3) + x1) then
      some 0
    else
      kfa ((x0 * 3) + x1) fun v1 =>
      some v1
theorem wCode_factor {X : MC} {G : GE} {n0 : Nat} (C : CX X G RX1 cX1_factor pCode_factor 3 (some .int) n0) (htab : ∀ z ∈ X.2.2.2.2.2.2.2.2.exceptionTable.toList, False) {σ : Sg} {M : Mm} {n : Nat} (x0 : Int32) (x1 : Int32) : JS X G 3 300 0 n0 (EM X G n0 2 300 (eR rvI σ M n)) (fCode_factor x0 x1) (σ, M, n) 0 [(0, .inl x0), (1, .inl x1)] [] := by
  unfold fCode_factor
  refine s_blk C 0 7 [2] (pc' := 7) (lv' := [(2, .inl ((x0 * 3) + x1))]) (st' := [.inl ((x0 * 3) + x1)]) rfl ?_
  refine s_ilt C 7 rfl (fun _ => ?_) (fun _ => ?_)
  · refine s_blk C 16 1 [] (pc' := 27) (lv' := []) (st' := [.inl 0]) rfl ?_
    exact s_iret C 17 rfl rfl
  refine s_blk C 8 1 [2] (pc' := 11) (lv' := [(2, .inl ((x0 * 3) + x1))]) (st' := [.inl ((x0 * 3) + x1)]) rfl ?_
  refine s_getF C 9 rfl fs_X1_29 ?_
  refine s_lenF C 10 rfl ?_
  refine s_icge C 11 rfl (fun _ => ?_) (fun _ => ?_)
  · refine s_blk C 16 1 [] (pc' := 27) (lv' := []) (st' := [.inl 0]) rfl ?_
    exact s_iret C 17 rfl rfl
  refine s_getF C 12 rfl fs_X1_29 ?_
  refine s_blk C 13 1 [] (pc' := 22) (lv' := []) (st' := [.inl ((x0 * 3) + x1), .inr (.inl (some (gF G)))]) rfl ?_
  refine s_ldF C 14 rfl (fun v1 => ?_)
  refine s_blk C 15 1 [] (pc' := 27) (lv' := []) (st' := [.inl v1]) rfl ?_
  exact s_iret C 17 rfl rfl
theorem cCode_factor {l : Launch} {G : GE} (htr : l.stackTraces = false) (σ : Sg) (M : Mm) (n : Nat) (x0 : Int32) (x1 : Int32) : ∀ o, fCode_factor x0 x1 = some o → MetX l G yX1_factor cX1_factor 3 (some .int) 2 300 [.inl x0, .inl x1] (σ, M, n) ((eR rvI σ M n) o) :=
  c_ofX (by decide) kCode_factor htr rfl rfl fun X _ _ C htab => wCode_factor C htab x0 x1
def pCode_cell : List BR := [(0, .iload_n 1, 1, 0, 1), (1, .ifCond .lt (8), 3, 0, 9), (4, .iload_n 1, 1, 0, 5), (5, .iconst 3, 1, 3, 6), (6, .if_icmp .lt (5), 3, 0, 11), (9, .iconst 0, 1, 0, 10), (10, .ireturn, 1, 0, 11), (11, .iload_n 2, 1, 0, 12), (12, .iload_n 3, 1, 0, 13), (13, .if_icmp .ne (12), 3, 0, 25), (16, .aload_n 0, 1, 0, 17), (17, .getfield 22, 3, 0, 20), (20, .iload_n 1, 1, 0, 21), (21, .iaload, 1, 0, 22), (22, .goto (13), 3, 0, 35), (25, .aload_n 0, 1, 0, 26), (26, .getfield 18, 3, 0, 29), (29, .iload_n 1, 1, 0, 30), (30, .iaload, 1, 0, 31), (31, .iload_n 2, 1, 0, 32), (32, .invokestatic 41, 3, 0, 35), (35, .ireturn, 1, 0, 36)]
theorem kCode_cell : bOK cX1_cell 4 pCode_cell = true := by decide +kernel
def fCode_cell (a0 : Nat) (x1 : Int32) (x2 : Int32) (x3 : Int32) (M : Mm) : Option (Int32) :=
  if x1 < 0 then
    some 0
  else
    if x1 < 3 then
      if x2 = x3 then
        fgR 2 203 (some a0) M fun v1 =>
        alI 21 v1 x1 M fun v2 =>
        some v2
      else
        fgR 2 202 (some a0) M fun v3 =>
        alI 21 v3 x1 M fun v4 =>
        bdR (fCode_factor v4 x2) fun v5 =>
        some v5
    else
      some 0
theorem wCode_cell {X : MC} {G : GE} {n0 : Nat} (C : CX X G RX1 cX1_cell pCode_cell 4 (some .int) n0) (htab : ∀ z ∈ X.2.2.2.2.2.2.2.2.exceptionTable.toList, False) {σ : Sg} {M : Mm} {n : Nat} (a0 : Nat) (x1 : Int32) (x2 : Int32) (x3 : Int32) : JS X G 4 300 0 n0 (EM X G n0 3 300 (eR rvI σ M n)) (fCode_cell a0 x1 x2 x3 M) (σ, M, n) 0 [(0, .inr (.inl (some a0))), (1, .inl x1), (2, .inl x2), (3, .inl x3)] [] := by
  unfold fCode_cell
  refine s_blk C 0 1 [0, 1, 2, 3] (pc' := 1) (lv' := [(0, .inr (.inl (some a0))), (1, .inl x1), (2, .inl x2), (3, .inl x3)]) (st' := [.inl x1]) rfl ?_
  refine s_ilt C 1 rfl (fun _ => ?_) (fun _ => ?_)
  · refine s_blk C 5 1 [] (pc' := 10) (lv' := []) (st' := [.inl 0]) rfl ?_
    exact s_iret C 6 rfl rfl
  refine s_blk C 2 2 [0, 1, 2, 3] (pc' := 6) (lv' := [(0, .inr (.inl (some a0))), (1, .inl x1), (2, .inl x2), (3, .inl x3)]) (st' := [.inl 3, .inl x1]) rfl ?_
  refine s_iclt C 4 rfl (fun _ => ?_) (fun _ => ?_)
  · refine s_blk C 7 2 [0, 1, 2] (pc' := 13) (lv' := [(0, .inr (.inl (some a0))), (1, .inl x1), (2, .inl x2)]) (st' := [.inl x3, .inl x2]) rfl ?_
    refine s_icne C 9 rfl (fun _ => ?_) (fun _ => ?_)
    · refine s_blk C 10 1 [1] (pc' := 17) (lv' := [(1, .inl x1)]) (st' := [.inr (.inl (some a0))]) rfl ?_
      refine s_gR C 11 rfl fl_X1_22 rfl rfl (fun v1 => ?_)
      refine s_blk C 12 1 [] (pc' := 21) (lv' := []) (st' := [.inl x1, .inr (.inl v1)]) rfl ?_
      refine s_ldI C 13 rfl (fun v2 => ?_)
      refine s_blk C 14 1 [] (pc' := 35) (lv' := []) (st' := [.inl v2]) rfl ?_
      exact s_iret C 21 rfl rfl
    refine s_blk C 15 1 [1, 2] (pc' := 26) (lv' := [(1, .inl x1), (2, .inl x2)]) (st' := [.inr (.inl (some a0))]) rfl ?_
    refine s_gR C 16 rfl fl_X1_18 rfl rfl (fun v3 => ?_)
    refine s_blk C 17 1 [2] (pc' := 30) (lv' := [(2, .inl x2)]) (st' := [.inl x1, .inr (.inl v3)]) rfl ?_
    refine s_ldI C 18 rfl (fun v4 => ?_)
    refine s_blk C 19 1 [] (pc' := 32) (lv' := []) (st' := [.inl x2, .inl v4]) rfl ?_
    refine s_RI (CE_EM _ _ _ _ _ _) (st := []) (fun o ho => j_callS (As := [.inl v4, .inl x2]) (st := []) C 20 rfl mf_Code_factor ml_X1_41 rfl (by decide) (by decide) (Nat.le_refl _) rfl (cCode_factor (CX_tr C) σ M n v4 x2 o ho)) (fun v5 => ?_)
    exact s_iret C 21 rfl rfl
  refine s_blk C 5 1 [] (pc' := 10) (lv' := []) (st' := [.inl 0]) rfl ?_
  exact s_iret C 6 rfl rfl
theorem cCode_cell {l : Launch} {G : GE} (htr : l.stackTraces = false) (σ : Sg) (M : Mm) (n : Nat) (a0 : Nat) (x1 : Int32) (x2 : Int32) (x3 : Int32) : ∀ o, fCode_cell a0 x1 x2 x3 M = some o → MetX l G yX1_cell cX1_cell 4 (some .int) 3 300 [.inr (.inl (some a0)), .inl x1, .inl x2, .inl x3] (σ, M, n) ((eR rvI σ M n) o) :=
  c_ofX (by decide) kCode_cell htr rfl rfl fun X _ _ C htab => wCode_cell C htab a0 x1 x2 x3
def pCode_times_0 : List BR := [(0, .iconst 0, 1, 0, 1), (1, .istore_n 2, 1, 0, 2), (2, .iconst 0, 1, 0, 3), (3, .istore_n 3, 1, 0, 4), (4, .iload_n 3, 1, 0, 5), (5, .iconst 4, 1, 4, 6), (6, .if_icmp .ge (24), 3, 0, 30), (9, .iload_n 1, 1, 0, 10), (10, .iload_n 3, 1, 0, 11), (11, .ishr, 1, 0, 12), (12, .iconst 1, 1, 1, 13), (13, .iand, 1, 0, 14), (14, .iconst 1, 1, 1, 15), (15, .if_icmp .ne (9), 3, 0, 24), (18, .iload_n 2, 1, 0, 19), (19, .iload_n 0, 1, 0, 20), (20, .iload_n 3, 1, 0, 21), (21, .ishl, 1, 0, 22), (22, .ixor, 1, 0, 23), (23, .istore_n 2, 1, 0, 24), (24, .iinc 3 (1), 3, 1, 27), (27, .goto (-23), 3, 0, 4), (30, .iconst 2, 1, 2, 31), (31, .istore_n 3, 1, 0, 32), (32, .iload_n 3, 1, 0, 33), (33, .ifCond .lt (27), 3, 0, 60), (36, .iload_n 2, 1, 0, 37), (37, .iload_n 3, 1, 0, 38), (38, .iconst 4, 1, 4, 39), (39, .iadd, 1, 0, 40), (40, .ishr, 1, 0, 41), (41, .iconst 1, 1, 1, 42), (42, .iand, 1, 0, 43), (43, .iconst 1, 1, 1, 44), (44, .if_icmp .ne (10), 3, 0, 54), (47, .iload_n 2, 1, 0, 48), (48, .bipush 19, 2, 19, 50), (50, .iload_n 3, 1, 0, 51), (51, .ishl, 1, 0, 52), (52, .ixor, 1, 0, 53)]
theorem kCode_times_0 : bOK cX1_times 4 pCode_times_0 = true := by decide +kernel
def pCode_times_1 : List BR := [(53, .istore_n 2, 1, 0, 54), (54, .iinc 3 (-1), 3, -1, 57), (57, .goto (-25), 3, 0, 32), (60, .iload_n 2, 1, 0, 61), (61, .ireturn, 1, 0, 62)]
theorem kCode_times_1 : bOK cX1_times 4 pCode_times_1 = true := by decide +kernel
def pCode_times : List BR := (pCode_times_0 ++ pCode_times_1)
theorem kCode_times : bOK cX1_times 4 pCode_times = true := (bOK_app kCode_times_0 kCode_times_1)
def fCode_times_j54 (k32 : Int32 → Int32 → Option (Int32)) (x2 : Int32) (x3 : Int32) : Option (Int32) :=
  k32 x2 (x3 + (-1))
theorem wCode_times_j54 {X : MC} {G : GE} {n0 : Nat} (C : CX X G RX1 cX1_times pCode_times 4 (some .int) n0) (htab : ∀ z ∈ X.2.2.2.2.2.2.2.2.exceptionTable.toList, False) {σ : Sg} {M : Mm} {n : Nat} (k32 : Int32 → Int32 → Option (Int32)) (H32 : ∀ (x2 : Int32) (x3 : Int32), JS X G 4 300 0 n0 (EM X G n0 2 300 (eR rvI σ M n)) (k32 x2 x3) (σ, M, n) 32 [(2, .inl x2), (3, .inl x3)] []) (x2 : Int32) (x3 : Int32) : JS X G 4 300 0 n0 (EM X G n0 2 300 (eR rvI σ M n)) (fCode_times_j54 k32 x2 x3) (σ, M, n) 54 [(2, .inl x2), (3, .inl x3)] [] := by
  unfold fCode_times_j54
  refine s_blk C 41 2 [2, 3] (pc' := 32) (lv' := [(2, .inl x2), (3, .inl (x3 + (-1)))]) (st' := []) rfl ?_
  exact H32 _ _
def fCode_times_b32 (k32 : Int32 → Int32 → Option (Int32)) (x2 : Int32) (x3 : Int32) : Option (Int32) :=
  if x3 < 0 then
    some x2
  else
    if ((x2 >>> ((x3 + 4) &&& 31)) &&& 1) = 1 then
      fCode_times_j54 k32 (x2 ^^^ (19 <<< (x3 &&& 31))) x3
    else
      fCode_times_j54 k32 x2 x3
theorem wCode_times_b32 {X : MC} {G : GE} {n0 : Nat} (C : CX X G RX1 cX1_times pCode_times 4 (some .int) n0) (htab : ∀ z ∈ X.2.2.2.2.2.2.2.2.exceptionTable.toList, False) {σ : Sg} {M : Mm} {n : Nat} (k32 : Int32 → Int32 → Option (Int32)) (H32 : ∀ (x2 : Int32) (x3 : Int32), JS X G 4 300 0 n0 (EM X G n0 2 300 (eR rvI σ M n)) (k32 x2 x3) (σ, M, n) 32 [(2, .inl x2), (3, .inl x3)] []) (x2 : Int32) (x3 : Int32) : JS X G 4 300 0 n0 (EM X G n0 2 300 (eR rvI σ M n)) (fCode_times_b32 k32 x2 x3) (σ, M, n) 32 [(2, .inl x2), (3, .inl x3)] [] := by
  unfold fCode_times_b32
  refine s_blk C 24 1 [2, 3] (pc' := 33) (lv' := [(2, .inl x2), (3, .inl x3)]) (st' := [.inl x3]) rfl ?_
  refine s_ilt C 25 rfl (fun _ => ?_) (fun _ => ?_)
  · refine s_blk C 43 1 [] (pc' := 61) (lv' := []) (st' := [.inl x2]) rfl ?_
    exact s_iret C 44 rfl rfl
  refine s_blk C 26 8 [2, 3] (pc' := 44) (lv' := [(2, .inl x2), (3, .inl x3)]) (st' := [.inl 1, .inl ((x2 >>> ((x3 + 4) &&& 31)) &&& 1)]) rfl ?_
  refine s_icne C 34 rfl (fun _ => ?_) (fun _ => ?_)
  · refine s_blk C 35 6 [2, 3] (pc' := 54) (lv' := [(2, .inl (x2 ^^^ (19 <<< (x3 &&& 31)))), (3, .inl x3)]) (st' := []) rfl ?_
    exact wCode_times_j54 C htab k32 H32 _ _
  exact wCode_times_j54 C htab k32 H32 _ _
def fCode_times_l32 (fu : Nat) : Int32 → Int32 → Option (Int32) := Nat.rec (fun x2 x3 => none) (fun _ k => fCode_times_b32 k) fu
theorem wCode_times_l32 {X : MC} {G : GE} {n0 : Nat} (C : CX X G RX1 cX1_times pCode_times 4 (some .int) n0) (htab : ∀ z ∈ X.2.2.2.2.2.2.2.2.exceptionTable.toList, False) {σ : Sg} {M : Mm} {n : Nat} : ∀ (fu : Nat) (x2 : Int32) (x3 : Int32), JS X G 4 300 0 n0 (EM X G n0 2 300 (eR rvI σ M n)) (fCode_times_l32 fu x2 x3) (σ, M, n) 32 [(2, .inl x2), (3, .inl x3)] [] := by
  intro fu
  induction fu with
  | zero => intro x2 x3; exact s_none
  | succ fu ih => intro x2 x3; exact wCode_times_b32 C htab (fCode_times_l32 fu) ih _ _
def fCode_times_j24 (k4 : Int32 → Int32 → Int32 → Int32 → Option (Int32)) (x0 : Int32) (x1 : Int32) (x2 : Int32) (x3 : Int32) : Option (Int32) :=
  k4 x0 x1 x2 (x3 + 1)
theorem wCode_times_j24 {X : MC} {G : GE} {n0 : Nat} (C : CX X G RX1 cX1_times pCode_times 4 (some .int) n0) (htab : ∀ z ∈ X.2.2.2.2.2.2.2.2.exceptionTable.toList, False) {σ : Sg} {M : Mm} {n : Nat} (k4 : Int32 → Int32 → Int32 → Int32 → Option (Int32)) (H4 : ∀ (x0 : Int32) (x1 : Int32) (x2 : Int32) (x3 : Int32), JS X G 4 300 0 n0 (EM X G n0 2 300 (eR rvI σ M n)) (k4 x0 x1 x2 x3) (σ, M, n) 4 [(0, .inl x0), (1, .inl x1), (2, .inl x2), (3, .inl x3)] []) (x0 : Int32) (x1 : Int32) (x2 : Int32) (x3 : Int32) : JS X G 4 300 0 n0 (EM X G n0 2 300 (eR rvI σ M n)) (fCode_times_j24 k4 x0 x1 x2 x3) (σ, M, n) 24 [(0, .inl x0), (1, .inl x1), (2, .inl x2), (3, .inl x3)] [] := by
  unfold fCode_times_j24
  refine s_blk C 20 2 [0, 1, 2, 3] (pc' := 4) (lv' := [(0, .inl x0), (1, .inl x1), (2, .inl x2), (3, .inl (x3 + 1))]) (st' := []) rfl ?_
  exact H4 _ _ _ _
def fCode_times_b4 (k4 : Int32 → Int32 → Int32 → Int32 → Option (Int32)) (x0 : Int32) (x1 : Int32) (x2 : Int32) (x3 : Int32) : Option (Int32) :=
  if 4 ≤ x3 then
    fCode_times_l32 FU x2 2
  else
    if ((x1 >>> (x3 &&& 31)) &&& 1) = 1 then
      fCode_times_j24 k4 x0 x1 (x2 ^^^ (x0 <<< (x3 &&& 31))) x3
    else
      fCode_times_j24 k4 x0 x1 x2 x3
theorem wCode_times_b4 {X : MC} {G : GE} {n0 : Nat} (C : CX X G RX1 cX1_times pCode_times 4 (some .int) n0) (htab : ∀ z ∈ X.2.2.2.2.2.2.2.2.exceptionTable.toList, False) {σ : Sg} {M : Mm} {n : Nat} (k4 : Int32 → Int32 → Int32 → Int32 → Option (Int32)) (H4 : ∀ (x0 : Int32) (x1 : Int32) (x2 : Int32) (x3 : Int32), JS X G 4 300 0 n0 (EM X G n0 2 300 (eR rvI σ M n)) (k4 x0 x1 x2 x3) (σ, M, n) 4 [(0, .inl x0), (1, .inl x1), (2, .inl x2), (3, .inl x3)] []) (x0 : Int32) (x1 : Int32) (x2 : Int32) (x3 : Int32) : JS X G 4 300 0 n0 (EM X G n0 2 300 (eR rvI σ M n)) (fCode_times_b4 k4 x0 x1 x2 x3) (σ, M, n) 4 [(0, .inl x0), (1, .inl x1), (2, .inl x2), (3, .inl x3)] [] := by
  unfold fCode_times_b4
  refine s_blk C 4 2 [0, 1, 2, 3] (pc' := 6) (lv' := [(0, .inl x0), (1, .inl x1), (2, .inl x2), (3, .inl x3)]) (st' := [.inl 4, .inl x3]) rfl ?_
  refine s_icge C 6 rfl (fun _ => ?_) (fun _ => ?_)
  · refine s_blk C 22 2 [2, 3] (pc' := 32) (lv' := [(2, .inl x2), (3, .inl 2)]) (st' := []) rfl ?_
    exact wCode_times_l32 C htab FU _ _
  refine s_blk C 7 6 [0, 1, 2, 3] (pc' := 15) (lv' := [(0, .inl x0), (1, .inl x1), (2, .inl x2), (3, .inl x3)]) (st' := [.inl 1, .inl ((x1 >>> (x3 &&& 31)) &&& 1)]) rfl ?_
  refine s_icne C 13 rfl (fun _ => ?_) (fun _ => ?_)
  · refine s_blk C 14 6 [0, 1, 2, 3] (pc' := 24) (lv' := [(0, .inl x0), (1, .inl x1), (2, .inl (x2 ^^^ (x0 <<< (x3 &&& 31)))), (3, .inl x3)]) (st' := []) rfl ?_
    exact wCode_times_j24 C htab k4 H4 _ _ _ _
  exact wCode_times_j24 C htab k4 H4 _ _ _ _
def fCode_times_l4 (fu : Nat) : Int32 → Int32 → Int32 → Int32 → Option (Int32) := Nat.rec (fun x0 x1 x2 x3 => none) (fun _ k => fCode_times_b4 k) fu
theorem wCode_times_l4 {X : MC} {G : GE} {n0 : Nat} (C : CX X G RX1 cX1_times pCode_times 4 (some .int) n0) (htab : ∀ z ∈ X.2.2.2.2.2.2.2.2.exceptionTable.toList, False) {σ : Sg} {M : Mm} {n : Nat} : ∀ (fu : Nat) (x0 : Int32) (x1 : Int32) (x2 : Int32) (x3 : Int32), JS X G 4 300 0 n0 (EM X G n0 2 300 (eR rvI σ M n)) (fCode_times_l4 fu x0 x1 x2 x3) (σ, M, n) 4 [(0, .inl x0), (1, .inl x1), (2, .inl x2), (3, .inl x3)] [] := by
  intro fu
  induction fu with
  | zero => intro x0 x1 x2 x3; exact s_none
  | succ fu ih => intro x0 x1 x2 x3; exact wCode_times_b4 C htab (fCode_times_l4 fu) ih _ _ _ _
def fCode_times (x0 : Int32) (x1 : Int32) : Option (Int32) :=
  fCode_times_l4 FU x0 x1 0 0
theorem wCode_times {X : MC} {G : GE} {n0 : Nat} (C : CX X G RX1 cX1_times pCode_times 4 (some .int) n0) (htab : ∀ z ∈ X.2.2.2.2.2.2.2.2.exceptionTable.toList, False) {σ : Sg} {M : Mm} {n : Nat} (x0 : Int32) (x1 : Int32) : JS X G 4 300 0 n0 (EM X G n0 2 300 (eR rvI σ M n)) (fCode_times x0 x1) (σ, M, n) 0 [(0, .inl x0), (1, .inl x1)] [] := by
  unfold fCode_times
  refine s_blk C 0 4 [0, 1, 2, 3] (pc' := 4) (lv' := [(0, .inl x0), (1, .inl x1), (2, .inl 0), (3, .inl 0)]) (st' := []) rfl ?_
  exact wCode_times_l4 C htab FU _ _ _ _
theorem cCode_times {l : Launch} {G : GE} (htr : l.stackTraces = false) (σ : Sg) (M : Mm) (n : Nat) (x0 : Int32) (x1 : Int32) : ∀ o, fCode_times x0 x1 = some o → MetX l G yX1_times cX1_times 4 (some .int) 2 300 [.inl x0, .inl x1] (σ, M, n) ((eR rvI σ M n) o) :=
  c_ofX (by decide) kCode_times htr rfl rfl fun X _ _ C htab => wCode_times C htab x0 x1
def pCode_determinant_0 : List BR := [(0, .iconst 0, 1, 0, 1), (1, .istore_n 2, 1, 0, 2), (2, .iconst 0, 1, 0, 3), (3, .istore_n 3, 1, 0, 4), (4, .iload_n 3, 1, 0, 5), (5, .iconst 3, 1, 3, 6), (6, .if_icmp .ge (79), 3, 0, 85), (9, .iload_n 3, 1, 0, 10), (10, .iconst 1, 1, 1, 11), (11, .iadd, 1, 0, 12), (12, .iconst 3, 1, 3, 13), (13, .irem, 1, 0, 14), (14, .istore 4, 2, 0, 16), (16, .iload_n 3, 1, 0, 17), (17, .iconst 2, 1, 2, 18), (18, .iadd, 1, 0, 19), (19, .iconst 3, 1, 3, 20), (20, .irem, 1, 0, 21), (21, .istore 5, 2, 0, 23), (23, .aload_n 0, 1, 0, 24), (24, .iload 4, 2, 0, 26), (26, .iconst 1, 1, 1, 27), (27, .iload_n 1, 1, 0, 28), (28, .invokevirtual 65, 3, 0, 31), (31, .aload_n 0, 1, 0, 32), (32, .iload 5, 2, 0, 34), (34, .iconst 2, 1, 2, 35), (35, .iload_n 1, 1, 0, 36), (36, .invokevirtual 65, 3, 0, 39), (39, .invokestatic 25, 3, 0, 42), (42, .aload_n 0, 1, 0, 43), (43, .iload 5, 2, 0, 45), (45, .iconst 1, 1, 1, 46), (46, .iload_n 1, 1, 0, 47), (47, .invokevirtual 65, 3, 0, 50), (50, .aload_n 0, 1, 0, 51), (51, .iload 4, 2, 0, 53), (53, .iconst 2, 1, 2, 54), (54, .iload_n 1, 1, 0, 55), (55, .invokevirtual 65, 3, 0, 58)]
theorem kCode_determinant_0 : bOK cX1_determinant 7 pCode_determinant_0 = true := by decide +kernel
def pCode_determinant_1 : List BR := [(58, .invokestatic 25, 3, 0, 61), (61, .ixor, 1, 0, 62), (62, .istore 6, 2, 0, 64), (64, .iload_n 2, 1, 0, 65), (65, .aload_n 0, 1, 0, 66), (66, .iload_n 3, 1, 0, 67), (67, .iconst 0, 1, 0, 68), (68, .iload_n 1, 1, 0, 69), (69, .invokevirtual 65, 3, 0, 72), (72, .iload 6, 2, 0, 74), (74, .invokestatic 25, 3, 0, 77), (77, .ixor, 1, 0, 78), (78, .istore_n 2, 1, 0, 79), (79, .iinc 3 (1), 3, 1, 82), (82, .goto (-78), 3, 0, 4), (85, .iload_n 2, 1, 0, 86), (86, .ireturn, 1, 0, 87)]
theorem kCode_determinant_1 : bOK cX1_determinant 7 pCode_determinant_1 = true := by decide +kernel
def pCode_determinant : List BR := (pCode_determinant_0 ++ pCode_determinant_1)
theorem kCode_determinant : bOK cX1_determinant 7 pCode_determinant = true := (bOK_app kCode_determinant_0 kCode_determinant_1)
def fCode_determinant_b4 (a0 : Nat) (k4 : Int32 → Int32 → Int32 → Mm → Option (Int32)) (x1 : Int32) (x2 : Int32) (x3 : Int32) (M : Mm) : Option (Int32) :=
  if 3 ≤ x3 then
    some x2
  else
    rk 2 (some a0) M fun _ =>
    bdR (fCode_cell a0 ((x3 + 1) - (x3 + 1) / 3 * 3) 1 x1 M) fun v2 =>
    rk 2 (some a0) M fun _ =>
    bdR (fCode_cell a0 ((x3 + 2) - (x3 + 2) / 3 * 3) 2 x1 M) fun v4 =>
    bdR (fCode_times v2 v4) fun v5 =>
    rk 2 (some a0) M fun _ =>
    bdR (fCode_cell a0 ((x3 + 2) - (x3 + 2) / 3 * 3) 1 x1 M) fun v7 =>
    rk 2 (some a0) M fun _ =>
    bdR (fCode_cell a0 ((x3 + 1) - (x3 + 1) / 3 * 3) 2 x1 M) fun v9 =>
    bdR (fCode_times v7 v9) fun v10 =>
    rk 2 (some a0) M fun _ =>
    bdR (fCode_cell a0 x3 0 x1 M) fun v12 =>
    bdR (fCode_times v12 (v5 ^^^ v10)) fun v13 =>
    k4 x1 (x2 ^^^ v13) (x3 + 1) M
theorem wCode_determinant_b4 {X : MC} {G : GE} {n0 : Nat} (C : CX X G RX1 cX1_determinant pCode_determinant 7 (some .int) n0) (htab : ∀ z ∈ X.2.2.2.2.2.2.2.2.exceptionTable.toList, False) {σ : Sg} {M : Mm} {n : Nat} (a0 : Nat) (k4 : Int32 → Int32 → Int32 → Mm → Option (Int32)) (H4 : ∀ (x1 : Int32) (x2 : Int32) (x3 : Int32), JS X G 7 300 0 n0 (EM X G n0 4 300 (eR rvI σ M n)) (k4 x1 x2 x3 M) (σ, M, n) 4 [(0, .inr (.inl (some a0))), (1, .inl x1), (2, .inl x2), (3, .inl x3)] []) (x1 : Int32) (x2 : Int32) (x3 : Int32) : JS X G 7 300 0 n0 (EM X G n0 4 300 (eR rvI σ M n)) (fCode_determinant_b4 a0 k4 x1 x2 x3 M) (σ, M, n) 4 [(0, .inr (.inl (some a0))), (1, .inl x1), (2, .inl x2), (3, .inl x3)] [] := by
  unfold fCode_determinant_b4
  refine s_blk C 4 2 [0, 1, 2, 3] (pc' := 6) (lv' := [(0, .inr (.inl (some a0))), (1, .inl x1), (2, .inl x2), (3, .inl x3)]) (st' := [.inl 3, .inl x3]) rfl ?_
  refine s_icge C 6 rfl (fun _ => ?_) (fun _ => ?_)
  · refine s_blk C 55 1 [] (pc' := 86) (lv' := []) (st' := [.inl x2]) rfl ?_
    exact s_iret C 56 rfl rfl
  refine s_blk C 7 4 [0, 1, 2, 3] (pc' := 13) (lv' := [(0, .inr (.inl (some a0))), (1, .inl x1), (2, .inl x2), (3, .inl x3)]) (st' := [.inl 3, .inl (x3 + 1)]) rfl ?_
  refine s_irem C 11 rfl (by decide) ?_
  refine s_blk C 12 5 [0, 1, 2, 3, 4] (pc' := 20) (lv' := [(0, .inr (.inl (some a0))), (1, .inl x1), (2, .inl x2), (3, .inl x3), (4, .inl ((x3 + 1) - (x3 + 1) / 3 * 3))]) (st' := [.inl 3, .inl (x3 + 2)]) rfl ?_
  refine s_irem C 17 rfl (by decide) ?_
  refine s_blk C 18 5 [0, 1, 2, 3, 4, 5] (pc' := 28) (lv' := [(0, .inr (.inl (some a0))), (1, .inl x1), (2, .inl x2), (3, .inl x3), (4, .inl ((x3 + 1) - (x3 + 1) / 3 * 3)), (5, .inl ((x3 + 2) - (x3 + 2) / 3 * 3))]) (st' := [.inl x1, .inl 1, .inl ((x3 + 1) - (x3 + 1) / 3 * 3), .inr (.inl (some a0))]) rfl ?_
  refine s_rks (fun hk1 => ?_)
  refine s_RI (CE_EM _ _ _ _ _ _) (st := []) (fun o ho => j_callV (As := [.inl ((x3 + 1) - (x3 + 1) / 3 * 3), .inl 1, .inl x1]) (st := []) (b := a0) C 23 rfl mf_Code_cell ml_X1_65 rfl (recv_K C (by decide) (by decide) rfl hk1) (by decide) (by decide) (Nat.le_refl _) rfl (cCode_cell (CX_tr C) σ M n a0 ((x3 + 1) - (x3 + 1) / 3 * 3) 1 x1 o ho)) (fun v2 => ?_)
  refine s_blk C 24 4 [0, 1, 2, 3, 4, 5] (pc' := 36) (lv' := [(0, .inr (.inl (some a0))), (1, .inl x1), (2, .inl x2), (3, .inl x3), (4, .inl ((x3 + 1) - (x3 + 1) / 3 * 3)), (5, .inl ((x3 + 2) - (x3 + 2) / 3 * 3))]) (st' := [.inl x1, .inl 2, .inl ((x3 + 2) - (x3 + 2) / 3 * 3), .inr (.inl (some a0)), .inl v2]) rfl ?_
  refine s_rks (fun hk3 => ?_)
  refine s_RI (CE_EM _ _ _ _ _ _) (st := [.inl v2]) (fun o ho => j_callV (As := [.inl ((x3 + 2) - (x3 + 2) / 3 * 3), .inl 2, .inl x1]) (st := [.inl v2]) (b := a0) C 28 rfl mf_Code_cell ml_X1_65 rfl (recv_K C (by decide) (by decide) rfl hk3) (by decide) (by decide) (Nat.le_refl _) rfl (cCode_cell (CX_tr C) σ M n a0 ((x3 + 2) - (x3 + 2) / 3 * 3) 2 x1 o ho)) (fun v4 => ?_)
  refine s_RI (CE_EM _ _ _ _ _ _) (st := []) (fun o ho => j_callS (As := [.inl v2, .inl v4]) (st := []) C 29 rfl mf_Code_times ml_X1_25 rfl (by decide) (by decide) (Nat.le_refl _) rfl (cCode_times (CX_tr C) σ M n v2 v4 o ho)) (fun v5 => ?_)
  refine s_blk C 30 4 [0, 1, 2, 3, 4] (pc' := 47) (lv' := [(0, .inr (.inl (some a0))), (1, .inl x1), (2, .inl x2), (3, .inl x3), (4, .inl ((x3 + 1) - (x3 + 1) / 3 * 3))]) (st' := [.inl x1, .inl 1, .inl ((x3 + 2) - (x3 + 2) / 3 * 3), .inr (.inl (some a0)), .inl v5]) rfl ?_
  refine s_rks (fun hk6 => ?_)
  refine s_RI (CE_EM _ _ _ _ _ _) (st := [.inl v5]) (fun o ho => j_callV (As := [.inl ((x3 + 2) - (x3 + 2) / 3 * 3), .inl 1, .inl x1]) (st := [.inl v5]) (b := a0) C 34 rfl mf_Code_cell ml_X1_65 rfl (recv_K C (by decide) (by decide) rfl hk6) (by decide) (by decide) (Nat.le_refl _) rfl (cCode_cell (CX_tr C) σ M n a0 ((x3 + 2) - (x3 + 2) / 3 * 3) 1 x1 o ho)) (fun v7 => ?_)
  refine s_blk C 35 4 [0, 1, 2, 3] (pc' := 55) (lv' := [(0, .inr (.inl (some a0))), (1, .inl x1), (2, .inl x2), (3, .inl x3)]) (st' := [.inl x1, .inl 2, .inl ((x3 + 1) - (x3 + 1) / 3 * 3), .inr (.inl (some a0)), .inl v7, .inl v5]) rfl ?_
  refine s_rks (fun hk8 => ?_)
  refine s_RI (CE_EM _ _ _ _ _ _) (st := [.inl v7, .inl v5]) (fun o ho => j_callV (As := [.inl ((x3 + 1) - (x3 + 1) / 3 * 3), .inl 2, .inl x1]) (st := [.inl v7, .inl v5]) (b := a0) C 39 rfl mf_Code_cell ml_X1_65 rfl (recv_K C (by decide) (by decide) rfl hk8) (by decide) (by decide) (Nat.le_refl _) rfl (cCode_cell (CX_tr C) σ M n a0 ((x3 + 1) - (x3 + 1) / 3 * 3) 2 x1 o ho)) (fun v9 => ?_)
  refine s_RI (CE_EM _ _ _ _ _ _) (st := [.inl v5]) (fun o ho => j_callS (As := [.inl v7, .inl v9]) (st := [.inl v5]) C 40 rfl mf_Code_times ml_X1_25 rfl (by decide) (by decide) (Nat.le_refl _) rfl (cCode_times (CX_tr C) σ M n v7 v9 o ho)) (fun v10 => ?_)
  refine s_blk C 41 7 [0, 1, 3, 6] (pc' := 69) (lv' := [(0, .inr (.inl (some a0))), (1, .inl x1), (3, .inl x3), (6, .inl (v5 ^^^ v10))]) (st' := [.inl x1, .inl 0, .inl x3, .inr (.inl (some a0)), .inl x2]) rfl ?_
  refine s_rks (fun hk11 => ?_)
  refine s_RI (CE_EM _ _ _ _ _ _) (st := [.inl x2]) (fun o ho => j_callV (As := [.inl x3, .inl 0, .inl x1]) (st := [.inl x2]) (b := a0) C 48 rfl mf_Code_cell ml_X1_65 rfl (recv_K C (by decide) (by decide) rfl hk11) (by decide) (by decide) (Nat.le_refl _) rfl (cCode_cell (CX_tr C) σ M n a0 x3 0 x1 o ho)) (fun v12 => ?_)
  refine s_blk C 49 1 [0, 1, 3] (pc' := 74) (lv' := [(0, .inr (.inl (some a0))), (1, .inl x1), (3, .inl x3)]) (st' := [.inl (v5 ^^^ v10), .inl v12, .inl x2]) rfl ?_
  refine s_RI (CE_EM _ _ _ _ _ _) (st := [.inl x2]) (fun o ho => j_callS (As := [.inl v12, .inl (v5 ^^^ v10)]) (st := [.inl x2]) C 50 rfl mf_Code_times ml_X1_25 rfl (by decide) (by decide) (Nat.le_refl _) rfl (cCode_times (CX_tr C) σ M n v12 (v5 ^^^ v10) o ho)) (fun v13 => ?_)
  refine s_blk C 51 4 [0, 1, 2, 3] (pc' := 4) (lv' := [(0, .inr (.inl (some a0))), (1, .inl x1), (2, .inl (x2 ^^^ v13)), (3, .inl (x3 + 1))]) (st' := []) rfl ?_
  exact H4 _ _ _
def fCode_determinant_l4 (a0 : Nat) (fu : Nat) : Int32 → Int32 → Int32 → Mm → Option (Int32) := Nat.rec (fun x1 x2 x3 M => none) (fun _ k => fCode_determinant_b4 a0 k) fu
theorem wCode_determinant_l4 {X : MC} {G : GE} {n0 : Nat} (C : CX X G RX1 cX1_determinant pCode_determinant 7 (some .int) n0) (htab : ∀ z ∈ X.2.2.2.2.2.2.2.2.exceptionTable.toList, False) {σ : Sg} {M : Mm} {n : Nat} (a0 : Nat) : ∀ (fu : Nat) (x1 : Int32) (x2 : Int32) (x3 : Int32), JS X G 7 300 0 n0 (EM X G n0 4 300 (eR rvI σ M n)) (fCode_determinant_l4 a0 fu x1 x2 x3 M) (σ, M, n) 4 [(0, .inr (.inl (some a0))), (1, .inl x1), (2, .inl x2), (3, .inl x3)] [] := by
  intro fu
  induction fu with
  | zero => intro x1 x2 x3; exact s_none
  | succ fu ih => intro x1 x2 x3; exact wCode_determinant_b4 C htab a0 (fCode_determinant_l4 a0 fu) ih _ _ _
def fCode_determinant (a0 : Nat) (x1 : Int32) (M : Mm) : Option (Int32) :=
  fCode_determinant_l4 a0 FU x1 0 0 M
theorem wCode_determinant {X : MC} {G : GE} {n0 : Nat} (C : CX X G RX1 cX1_determinant pCode_determinant 7 (some .int) n0) (htab : ∀ z ∈ X.2.2.2.2.2.2.2.2.exceptionTable.toList, False) {σ : Sg} {M : Mm} {n : Nat} (a0 : Nat) (x1 : Int32) : JS X G 7 300 0 n0 (EM X G n0 4 300 (eR rvI σ M n)) (fCode_determinant a0 x1 M) (σ, M, n) 0 [(0, .inr (.inl (some a0))), (1, .inl x1)] [] := by
  unfold fCode_determinant
  refine s_blk C 0 4 [0, 1, 2, 3] (pc' := 4) (lv' := [(0, .inr (.inl (some a0))), (1, .inl x1), (2, .inl 0), (3, .inl 0)]) (st' := []) rfl ?_
  exact wCode_determinant_l4 C htab a0 FU _ _ _
theorem cCode_determinant {l : Launch} {G : GE} (htr : l.stackTraces = false) (σ : Sg) (M : Mm) (n : Nat) (a0 : Nat) (x1 : Int32) : ∀ o, fCode_determinant a0 x1 M = some o → MetX l G yX1_determinant cX1_determinant 7 (some .int) 4 300 [.inr (.inl (some a0)), .inl x1] (σ, M, n) ((eR rvI σ M n) o) :=
  c_ofX (by decide) kCode_determinant htr rfl rfl fun X _ _ C htab => wCode_determinant C htab a0 x1

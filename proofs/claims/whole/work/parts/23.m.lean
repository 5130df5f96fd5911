def pCode_inverse : List BR := [(0, .iconst 1, 1, 1, 1), (1, .istore_n 1, 1, 0, 2), (2, .iconst 0, 1, 0, 3), (3, .istore_n 2, 1, 0, 4), (4, .iload_n 2, 1, 0, 5), (5, .bipush 14, 2, 14, 7), (7, .if_icmp .ge (15), 3, 0, 22), (10, .iload_n 1, 1, 0, 11), (11, .iload_n 0, 1, 0, 12), (12, .invokestatic 25, 3, 0, 15), (15, .istore_n 1, 1, 0, 16), (16, .iinc 2 (1), 3, 1, 19), (19, .goto (-15), 3, 0, 4), (22, .iload_n 1, 1, 0, 23), (23, .ireturn, 1, 0, 24)]
theorem kCode_inverse : bOK cX1_inverse 3 pCode_inverse = true := by decide +kernel
def fCode_inverse_b4 (k4 : Int32 → Int32 → Int32 → Option (Int32)) (x0 : Int32) (x1 : Int32) (x2 : Int32) : Option (Int32) :=
  if 14 ≤ x2 then
    some x1
  else
    bdR (fCode_times x1 x0) fun v1 =>
    k4 x0 v1 (x2 + 1)
theorem wCode_inverse_b4 {X : MC} {G : GE} {n0 : Nat} (C : CX X G RX1 cX1_inverse pCode_inverse 3 (some .int) n0) (htab : ∀ z ∈ X.2.2.2.2.2.2.2.2.exceptionTable.toList, False) {σ : Sg} {M : Mm} {n : Nat} (k4 : Int32 → Int32 → Int32 → Option (Int32)) (H4 : ∀ (x0 : Int32) (x1 : Int32) (x2 : Int32), JS X G 3 300 0 n0 (EM X G n0 3 300 (eR rvI σ M n)) (k4 x0 x1 x2) (σ, M, n) 4 [(0, .inl x0), (1, .inl x1), (2, .inl x2)] []) (x0 : Int32) (x1 : Int32) (x2 : Int32) : JS X G 3 300 0 n0 (EM X G n0 3 300 (eR rvI σ M n)) (fCode_inverse_b4 k4 x0 x1 x2) (σ, M, n) 4 [(0, .inl x0), (1, .inl x1), (2, .inl x2)] [] := by
  unfold fCode_inverse_b4
  refine s_blk C 4 2 [0, 1, 2] (pc' := 7) (lv' := [(0, .inl x0), (1, .inl x1), (2, .inl x2)]) (st' := [.inl 14, .inl x2]) rfl ?_
  refine s_icge C 6 rfl (fun _ => ?_) (fun _ => ?_)
  · refine s_blk C 13 1 [] (pc' := 23) (lv' := []) (st' := [.inl x1]) rfl ?_
    exact s_iret C 14 rfl rfl
  refine s_blk C 7 2 [0, 2] (pc' := 12) (lv' := [(0, .inl x0), (2, .inl x2)]) (st' := [.inl x0, .inl x1]) rfl ?_
  refine s_RI (CE_EM _ _ _ _ _ _) (st := []) (fun o ho => j_callS (As := [.inl x1, .inl x0]) (st := []) C 9 rfl mf_Code_times ml_X1_25 rfl (by decide) (by decide) (Nat.le_refl _) rfl (cCode_times (CX_tr C) σ M n x1 x0 o ho)) (fun v1 => ?_)
  refine s_blk C 10 3 [0, 1, 2] (pc' := 4) (lv' := [(0, .inl x0), (1, .inl v1), (2, .inl (x2 + 1))]) (st' := []) rfl ?_
  exact H4 _ _ _
def fCode_inverse_l4 (fu : Nat) : Int32 → Int32 → Int32 → Option (Int32) := Nat.rec (fun x0 x1 x2 => none) (fun _ k => fCode_inverse_b4 k) fu
theorem wCode_inverse_l4 {X : MC} {G : GE} {n0 : Nat} (C : CX X G RX1 cX1_inverse pCode_inverse 3 (some .int) n0) (htab : ∀ z ∈ X.2.2.2.2.2.2.2.2.exceptionTable.toList, False) {σ : Sg} {M : Mm} {n : Nat} : ∀ (fu : Nat) (x0 : Int32) (x1 : Int32) (x2 : Int32), JS X G 3 300 0 n0 (EM X G n0 3 300 (eR rvI σ M n)) (fCode_inverse_l4 fu x0 x1 x2) (σ, M, n) 4 [(0, .inl x0), (1, .inl x1), (2, .inl x2)] [] := by
  intro fu
  induction fu with
  | zero => intro x0 x1 x2; exact s_none
  | succ fu ih => intro x0 x1 x2; exact wCode_inverse_b4 C htab (fCode_inverse_l4 fu) ih _ _ _
def fCode_inverse (x0 : Int32) : Option (Int32) :=
  fCode_inverse_l4 FU x0 1 0
theorem wCode_inverse {X : MC} {G : GE} {n0 : Nat} (C : CX X G RX1 cX1_inverse pCode_inverse 3 (some .int) n0) (htab : ∀ z ∈ X.2.2.2.2.2.2.2.2.exceptionTable.toList, False) {σ : Sg} {M : Mm} {n : Nat} (x0 : Int32) : JS X G 3 300 0 n0 (EM X G n0 3 300 (eR rvI σ M n)) (fCode_inverse x0) (σ, M, n) 0 [(0, .inl x0)] [] := by
  unfold fCode_inverse
  refine s_blk C 0 4 [0, 1, 2] (pc' := 4) (lv' := [(0, .inl x0), (1, .inl 1), (2, .inl 0)]) (st' := []) rfl ?_
  exact wCode_inverse_l4 C htab FU _ _ _
theorem cCode_inverse {l : Launch} {G : GE} (htr : l.stackTraces = false) (σ : Sg) (M : Mm) (n : Nat) (x0 : Int32) : ∀ o, fCode_inverse x0 = some o → MetX l G yX1_inverse cX1_inverse 3 (some .int) 3 300 [.inl x0] (σ, M, n) ((eR rvI σ M n) o) :=
  c_ofX (by decide) kCode_inverse htr rfl rfl fun X _ _ C htab => wCode_inverse C htab x0
def pCode_solve : List BR := [(0, .iconst 0, 1, 0, 1), (1, .istore 4, 2, 0, 3), (3, .iload 4, 2, 0, 5), (5, .aload_n 0, 1, 0, 6), (6, .getfield 22, 3, 0, 9), (9, .arraylength, 1, 0, 10), (10, .if_icmp .ge (28), 3, 0, 38), (13, .aload_n 0, 1, 0, 14), (14, .getfield 22, 3, 0, 17), (17, .iload 4, 2, 0, 19), (19, .aload_n 1, 1, 0, 20), (20, .aload_n 0, 1, 0, 21), (21, .getfield 18, 3, 0, 24), (24, .iload 4, 2, 0, 26), (26, .iaload, 1, 0, 27), (27, .iload_n 3, 1, 0, 28), (28, .invokevirtual 52, 3, 0, 31), (31, .iastore, 1, 0, 32), (32, .iinc 4 (1), 3, 1, 35), (35, .goto (-32), 3, 0, 3), (38, .aload_n 0, 1, 0, 39), (39, .iload_n 2, 1, 0, 40), (40, .invokevirtual 59, 3, 0, 43), (43, .aload_n 0, 1, 0, 44), (44, .iconst (-1), 1, -1, 45), (45, .invokevirtual 59, 3, 0, 48), (48, .invokestatic 62, 3, 0, 51), (51, .invokestatic 25, 3, 0, 54), (54, .ireturn, 1, 0, 55)]
theorem kCode_solve : bOK cX1_solve 5 pCode_solve = true := by decide +kernel
def fCode_solve_b3 (a0 : Nat) (k3 : Option Nat → Int32 → Int32 → Int32 → Mm → Option (Int32 × Mm)) (r1 : Option Nat) (x2 : Int32) (x3 : Int32) (x4 : Int32) (M : Mm) : Option (Int32 × Mm) :=
  fgR 2 203 (some a0) M fun v1 =>
  aln v1 M fun v2 =>
  if v2 ≤ x4 then
    rk 2 (some a0) M fun _ =>
    bdR (fCode_determinant a0 x2 M) fun v4 =>
    rk 2 (some a0) M fun _ =>
    bdR (fCode_determinant a0 (-1) M) fun v6 =>
    bdR (fCode_inverse v6) fun v7 =>
    bdR (fCode_times v4 v7) fun v8 =>
    some (v8, M)
  else
    fgR 2 203 (some a0) M fun v9 =>
    fgR 2 202 (some a0) M fun v10 =>
    alI 21 v10 x4 M fun v11 =>
    rk 5 r1 M fun a12 =>
    bdR (fPart_shardByte a12 v11 x3 M) fun v15 =>
    asI v9 x4 v15 M fun M16 =>
    k3 r1 x2 x3 (x4 + 1) M16
theorem wCode_solve_b3 {X : MC} {G : GE} {n0 : Nat} (C : CX X G RX1 cX1_solve pCode_solve 5 (some .int) n0) (htab : ∀ z ∈ X.2.2.2.2.2.2.2.2.exceptionTable.toList, False) {σ : Sg} {n : Nat} (a0 : Nat) (k3 : Option Nat → Int32 → Int32 → Int32 → Mm → Option (Int32 × Mm)) (H3 : ∀ (r1 : Option Nat) (x2 : Int32) (x3 : Int32) (x4 : Int32) (M : Mm), JS X G 5 300 0 n0 (EM X G n0 5 300 (eW rvI σ n)) (k3 r1 x2 x3 x4 M) (σ, M, n) 3 [(0, .inr (.inl (some a0))), (1, .inr (.inl r1)), (2, .inl x2), (3, .inl x3), (4, .inl x4)] []) (r1 : Option Nat) (x2 : Int32) (x3 : Int32) (x4 : Int32) (M : Mm) : JS X G 5 300 0 n0 (EM X G n0 5 300 (eW rvI σ n)) (fCode_solve_b3 a0 k3 r1 x2 x3 x4 M) (σ, M, n) 3 [(0, .inr (.inl (some a0))), (1, .inr (.inl r1)), (2, .inl x2), (3, .inl x3), (4, .inl x4)] [] := by
  unfold fCode_solve_b3
  refine s_blk C 2 2 [0, 1, 2, 3, 4] (pc' := 6) (lv' := [(0, .inr (.inl (some a0))), (1, .inr (.inl r1)), (2, .inl x2), (3, .inl x3), (4, .inl x4)]) (st' := [.inr (.inl (some a0)), .inl x4]) rfl ?_
  refine s_gR C 4 rfl fl_X1_22 rfl rfl (fun v1 => ?_)
  refine s_len C 5 rfl (fun v2 => ?_)
  refine s_icge C 6 rfl (fun _ => ?_) (fun _ => ?_)
  · refine s_blk C 20 2 [0] (pc' := 40) (lv' := [(0, .inr (.inl (some a0)))]) (st' := [.inl x2, .inr (.inl (some a0))]) rfl ?_
    refine s_rks (fun hk3 => ?_)
    refine s_RI (CE_EM _ _ _ _ _ _) (st := []) (fun o ho => j_callV (As := [.inl x2]) (st := []) (b := a0) C 22 rfl mf_Code_determinant ml_X1_59 rfl (recv_K C (by decide) (by decide) rfl hk3) (by decide) (by decide) (Nat.le_refl _) rfl (cCode_determinant (CX_tr C) σ M n a0 x2 o ho)) (fun v4 => ?_)
    refine s_blk C 23 2 [] (pc' := 45) (lv' := []) (st' := [.inl (-1), .inr (.inl (some a0)), .inl v4]) rfl ?_
    refine s_rks (fun hk5 => ?_)
    refine s_RI (CE_EM _ _ _ _ _ _) (st := [.inl v4]) (fun o ho => j_callV (As := [.inl (-1)]) (st := [.inl v4]) (b := a0) C 25 rfl mf_Code_determinant ml_X1_59 rfl (recv_K C (by decide) (by decide) rfl hk5) (by decide) (by decide) (Nat.le_refl _) rfl (cCode_determinant (CX_tr C) σ M n a0 (-1) o ho)) (fun v6 => ?_)
    refine s_RI (CE_EM _ _ _ _ _ _) (st := [.inl v4]) (fun o ho => j_callS (As := [.inl v6]) (st := [.inl v4]) C 26 rfl mf_Code_inverse ml_X1_62 rfl (by decide) (by decide) (Nat.le_refl _) rfl (cCode_inverse (CX_tr C) σ M n v6 o ho)) (fun v7 => ?_)
    refine s_RI (CE_EM _ _ _ _ _ _) (st := []) (fun o ho => j_callS (As := [.inl v4, .inl v7]) (st := []) C 27 rfl mf_Code_times ml_X1_25 rfl (by decide) (by decide) (Nat.le_refl _) rfl (cCode_times (CX_tr C) σ M n v4 v7 o ho)) (fun v8 => ?_)
    exact s_iret C 28 rfl rfl
  refine s_blk C 7 1 [0, 1, 2, 3, 4] (pc' := 14) (lv' := [(0, .inr (.inl (some a0))), (1, .inr (.inl r1)), (2, .inl x2), (3, .inl x3), (4, .inl x4)]) (st' := [.inr (.inl (some a0))]) rfl ?_
  refine s_gR C 8 rfl fl_X1_22 rfl rfl (fun v9 => ?_)
  refine s_blk C 9 3 [0, 1, 2, 3, 4] (pc' := 21) (lv' := [(0, .inr (.inl (some a0))), (1, .inr (.inl r1)), (2, .inl x2), (3, .inl x3), (4, .inl x4)]) (st' := [.inr (.inl (some a0)), .inr (.inl r1), .inl x4, .inr (.inl v9)]) rfl ?_
  refine s_gR C 12 rfl fl_X1_18 rfl rfl (fun v10 => ?_)
  refine s_blk C 13 1 [0, 1, 2, 3, 4] (pc' := 26) (lv' := [(0, .inr (.inl (some a0))), (1, .inr (.inl r1)), (2, .inl x2), (3, .inl x3), (4, .inl x4)]) (st' := [.inl x4, .inr (.inl v10), .inr (.inl r1), .inl x4, .inr (.inl v9)]) rfl ?_
  refine s_ldI C 14 rfl (fun v11 => ?_)
  refine s_blk C 15 1 [0, 1, 2, 3, 4] (pc' := 28) (lv' := [(0, .inr (.inl (some a0))), (1, .inr (.inl r1)), (2, .inl x2), (3, .inl x3), (4, .inl x4)]) (st' := [.inl x3, .inl v11, .inr (.inl r1), .inl x4, .inr (.inl v9)]) rfl ?_
  refine s_rk (fun a12 ha13 hk14 => ?_)
  subst ha13
  refine s_RI (CE_EM _ _ _ _ _ _) (st := [.inl x4, .inr (.inl v9)]) (fun o ho => j_callV (As := [.inl v11, .inl x3]) (st := [.inl x4, .inr (.inl v9)]) (b := a12) C 16 rfl mf_Part_shardByte ml_X1_52 rfl (recv_K C (by decide) (by decide) rfl hk14) (by decide) (by decide) (Nat.le_refl _) rfl (cPart_shardByte (CX_tr C) σ M n a12 v11 x3 o ho)) (fun v15 => ?_)
  refine s_stI C 17 rfl (fun M16 _ => ?_)
  refine s_blk C 18 2 [0, 1, 2, 3, 4] (pc' := 3) (lv' := [(0, .inr (.inl (some a0))), (1, .inr (.inl (some a12))), (2, .inl x2), (3, .inl x3), (4, .inl (x4 + 1))]) (st' := []) rfl ?_
  exact H3 _ _ _ _ _
def fCode_solve_l3 (a0 : Nat) (fu : Nat) : Option Nat → Int32 → Int32 → Int32 → Mm → Option (Int32 × Mm) := Nat.rec (fun r1 x2 x3 x4 M => none) (fun _ k => fCode_solve_b3 a0 k) fu
theorem wCode_solve_l3 {X : MC} {G : GE} {n0 : Nat} (C : CX X G RX1 cX1_solve pCode_solve 5 (some .int) n0) (htab : ∀ z ∈ X.2.2.2.2.2.2.2.2.exceptionTable.toList, False) {σ : Sg} {n : Nat} (a0 : Nat) : ∀ (fu : Nat) (r1 : Option Nat) (x2 : Int32) (x3 : Int32) (x4 : Int32) (M : Mm), JS X G 5 300 0 n0 (EM X G n0 5 300 (eW rvI σ n)) (fCode_solve_l3 a0 fu r1 x2 x3 x4 M) (σ, M, n) 3 [(0, .inr (.inl (some a0))), (1, .inr (.inl r1)), (2, .inl x2), (3, .inl x3), (4, .inl x4)] [] := by
  intro fu
  induction fu with
  | zero => intro r1 x2 x3 x4 M; exact s_none
  | succ fu ih => intro r1 x2 x3 x4 M; exact wCode_solve_b3 C htab a0 (fCode_solve_l3 a0 fu) ih _ _ _ _ _
def fCode_solve (a0 : Nat) (r1 : Option Nat) (x2 : Int32) (x3 : Int32) (M : Mm) : Option (Int32 × Mm) :=
  fCode_solve_l3 a0 FU r1 x2 x3 0 M
theorem wCode_solve {X : MC} {G : GE} {n0 : Nat} (C : CX X G RX1 cX1_solve pCode_solve 5 (some .int) n0) (htab : ∀ z ∈ X.2.2.2.2.2.2.2.2.exceptionTable.toList, False) {σ : Sg} {n : Nat} (a0 : Nat) (r1 : Option Nat) (x2 : Int32) (x3 : Int32) (M : Mm) : JS X G 5 300 0 n0 (EM X G n0 5 300 (eW rvI σ n)) (fCode_solve a0 r1 x2 x3 M) (σ, M, n) 0 [(0, .inr (.inl (some a0))), (1, .inr (.inl r1)), (2, .inl x2), (3, .inl x3)] [] := by
  unfold fCode_solve
  refine s_blk C 0 2 [0, 1, 2, 3, 4] (pc' := 3) (lv' := [(0, .inr (.inl (some a0))), (1, .inr (.inl r1)), (2, .inl x2), (3, .inl x3), (4, .inl 0)]) (st' := []) rfl ?_
  exact wCode_solve_l3 C htab a0 FU _ _ _ _ _
theorem cCode_solve {l : Launch} {G : GE} (htr : l.stackTraces = false) (σ : Sg) (M : Mm) (n : Nat) (a0 : Nat) (r1 : Option Nat) (x2 : Int32) (x3 : Int32) : ∀ o, fCode_solve a0 r1 x2 x3 M = some o → MetX l G yX1_solve cX1_solve 5 (some .int) 5 300 [.inr (.inl (some a0)), .inr (.inl r1), .inl x2, .inl x3] (σ, M, n) ((eW rvI σ n) o) :=
  c_ofX (by decide) kCode_solve htr rfl rfl fun X _ _ C htab => wCode_solve C htab a0 r1 x2 x3 _
def pCode_decode_0 : List BR := [(0, .aload_n 0, 1, 0, 1), (1, .aload_n 1, 1, 0, 2), (2, .invokevirtual 44, 3, 0, 5), (5, .ifCond .ne (5), 3, 0, 10), (8, .iconst 0, 1, 0, 9), (9, .ireturn, 1, 0, 10), (10, .iconst 0, 1, 0, 11), (11, .istore_n 2, 1, 0, 12), (12, .iload_n 2, 1, 0, 13), (13, .aload_n 0, 1, 0, 14), (14, .getfield 9, 3, 0, 17), (17, .arraylength, 1, 0, 18), (18, .if_icmp .ge (51), 3, 0, 69), (21, .iload_n 2, 1, 0, 22), (22, .iconst 2, 1, 2, 23), (23, .idiv, 1, 0, 24), (24, .istore_n 3, 1, 0, 25), (25, .iload_n 2, 1, 0, 26), (26, .iconst 2, 1, 2, 27), (27, .irem, 1, 0, 28), (28, .istore 4, 2, 0, 30), (30, .aload_n 0, 1, 0, 31), (31, .getfield 9, 3, 0, 34), (34, .iload_n 2, 1, 0, 35), (35, .aload_n 1, 1, 0, 36), (36, .iload_n 3, 1, 0, 37), (37, .invokevirtual 48, 3, 0, 40), (40, .ifCond .eq (13), 3, 0, 53), (43, .aload_n 1, 1, 0, 44), (44, .iload_n 3, 1, 0, 45), (45, .iload 4, 2, 0, 47), (47, .invokevirtual 52, 3, 0, 50), (50, .goto (11), 3, 0, 61), (53, .aload_n 0, 1, 0, 54), (54, .aload_n 1, 1, 0, 55), (55, .iload_n 3, 1, 0, 56), (56, .iload 4, 2, 0, 58), (58, .invokevirtual 55, 3, 0, 61), (61, .i2b, 1, 0, 62), (62, .bastore, 1, 0, 63)]
theorem kCode_decode_0 : bOK cX1_decode 5 pCode_decode_0 = true := by decide +kernel
def pCode_decode_1 : List BR := [(63, .iinc 2 (1), 3, 1, 66), (66, .goto (-54), 3, 0, 12), (69, .iconst 1, 1, 1, 70), (70, .ireturn, 1, 0, 71)]
theorem kCode_decode_1 : bOK cX1_decode 5 pCode_decode_1 = true := by decide +kernel
def pCode_decode : List BR := (pCode_decode_0 ++ pCode_decode_1)
theorem kCode_decode : bOK cX1_decode 5 pCode_decode = true := (bOK_app kCode_decode_0 kCode_decode_1)
def fCode_decode_j61 (a0 : Nat) (k12 : Option Nat → Int32 → Mm → Option (Int32 × Mm)) (r1 : Option Nat) (x2 : Int32) (s0 : Int32) (s1 : Int32) (s2 : Option Nat) (M : Mm) : Option (Int32 × Mm) :=
  asB s2 s1 ((s0).toInt8.toInt32) M fun M1 =>
  k12 r1 (x2 + 1) M1
theorem wCode_decode_j61 {X : MC} {G : GE} {n0 : Nat} (C : CX X G RX1 cX1_decode pCode_decode 5 (some .boolean) n0) (htab : ∀ z ∈ X.2.2.2.2.2.2.2.2.exceptionTable.toList, False) {σ : Sg} {n : Nat} (a0 : Nat) (k12 : Option Nat → Int32 → Mm → Option (Int32 × Mm)) (H12 : ∀ (r1 : Option Nat) (x2 : Int32) (M : Mm), JS X G 5 300 0 n0 (EM X G n0 6 300 (eW rvI σ n)) (k12 r1 x2 M) (σ, M, n) 12 [(0, .inr (.inl (some a0))), (1, .inr (.inl r1)), (2, .inl x2)] []) (r1 : Option Nat) (x2 : Int32) (s0 : Int32) (s1 : Int32) (s2 : Option Nat) (M : Mm) : JS X G 5 300 0 n0 (EM X G n0 6 300 (eW rvI σ n)) (fCode_decode_j61 a0 k12 r1 x2 s0 s1 s2 M) (σ, M, n) 61 [(0, .inr (.inl (some a0))), (1, .inr (.inl r1)), (2, .inl x2)] [.inl s0, .inl s1, .inr (.inl s2)] := by
  unfold fCode_decode_j61
  refine s_blk C 38 1 [0, 1, 2] (pc' := 62) (lv' := [(0, .inr (.inl (some a0))), (1, .inr (.inl r1)), (2, .inl x2)]) (st' := [.inl ((s0).toInt8.toInt32), .inl s1, .inr (.inl s2)]) rfl ?_
  refine s_stB C 39 rfl (fun M1 _ => ?_)
  refine s_blk C 40 2 [0, 1, 2] (pc' := 12) (lv' := [(0, .inr (.inl (some a0))), (1, .inr (.inl r1)), (2, .inl (x2 + 1))]) (st' := []) rfl ?_
  exact H12 _ _ _
def fCode_decode_b12 (a0 : Nat) (k12 : Option Nat → Int32 → Mm → Option (Int32 × Mm)) (r1 : Option Nat) (x2 : Int32) (M : Mm) : Option (Int32 × Mm) :=
  fgR 2 200 (some a0) M fun v1 =>
  aln v1 M fun v2 =>
  if v2 ≤ x2 then
    rZ 1 (some (1, M))
  else
    fgR 2 200 (some a0) M fun v3 =>
    rk 5 r1 M fun a4 =>
    bdR (fPart_isGood a4 (x2 / 2) M) fun v7 =>
    if v7 = 0 then
      rk 2 (some a0) M fun _ =>
      bdW (fCode_solve a0 r1 (x2 / 2) (x2 - x2 / 2 * 2) M) fun v9 M10 =>
      fCode_decode_j61 a0 k12 r1 x2 v9 x2 v3 M10
    else
      rk 5 r1 M fun a12 =>
      bdR (fPart_shardByte a12 (x2 / 2) (x2 - x2 / 2 * 2) M) fun v13 =>
      fCode_decode_j61 a0 k12 r1 x2 v13 x2 v3 M
theorem wCode_decode_b12 {X : MC} {G : GE} {n0 : Nat} (C : CX X G RX1 cX1_decode pCode_decode 5 (some .boolean) n0) (htab : ∀ z ∈ X.2.2.2.2.2.2.2.2.exceptionTable.toList, False) {σ : Sg} {n : Nat} (a0 : Nat) (k12 : Option Nat → Int32 → Mm → Option (Int32 × Mm)) (H12 : ∀ (r1 : Option Nat) (x2 : Int32) (M : Mm), JS X G 5 300 0 n0 (EM X G n0 6 300 (eW rvI σ n)) (k12 r1 x2 M) (σ, M, n) 12 [(0, .inr (.inl (some a0))), (1, .inr (.inl r1)), (2, .inl x2)] []) (r1 : Option Nat) (x2 : Int32) (M : Mm) : JS X G 5 300 0 n0 (EM X G n0 6 300 (eW rvI σ n)) (fCode_decode_b12 a0 k12 r1 x2 M) (σ, M, n) 12 [(0, .inr (.inl (some a0))), (1, .inr (.inl r1)), (2, .inl x2)] [] := by
  unfold fCode_decode_b12
  refine s_blk C 8 2 [0, 1, 2] (pc' := 14) (lv' := [(0, .inr (.inl (some a0))), (1, .inr (.inl r1)), (2, .inl x2)]) (st' := [.inr (.inl (some a0)), .inl x2]) rfl ?_
  refine s_gR C 10 rfl fl_X1_9 rfl rfl (fun v1 => ?_)
  refine s_len C 11 rfl (fun v2 => ?_)
  refine s_icge C 12 rfl (fun _ => ?_) (fun _ => ?_)
  · refine s_blk C 42 1 [] (pc' := 70) (lv' := []) (st' := [.inl 1]) rfl ?_
    exact s_zret C 43 rfl rfl
  refine s_blk C 13 2 [0, 1, 2] (pc' := 23) (lv' := [(0, .inr (.inl (some a0))), (1, .inr (.inl r1)), (2, .inl x2)]) (st' := [.inl 2, .inl x2]) rfl ?_
  refine s_idiv C 15 rfl (by decide) ?_
  refine s_blk C 16 3 [0, 1, 2, 3] (pc' := 27) (lv' := [(0, .inr (.inl (some a0))), (1, .inr (.inl r1)), (2, .inl x2), (3, .inl (x2 / 2))]) (st' := [.inl 2, .inl x2]) rfl ?_
  refine s_irem C 19 rfl (by decide) ?_
  refine s_blk C 20 2 [0, 1, 2, 3, 4] (pc' := 31) (lv' := [(0, .inr (.inl (some a0))), (1, .inr (.inl r1)), (2, .inl x2), (3, .inl (x2 / 2)), (4, .inl (x2 - x2 / 2 * 2))]) (st' := [.inr (.inl (some a0))]) rfl ?_
  refine s_gR C 22 rfl fl_X1_9 rfl rfl (fun v3 => ?_)
  refine s_blk C 23 3 [0, 1, 2, 3, 4] (pc' := 37) (lv' := [(0, .inr (.inl (some a0))), (1, .inr (.inl r1)), (2, .inl x2), (3, .inl (x2 / 2)), (4, .inl (x2 - x2 / 2 * 2))]) (st' := [.inl (x2 / 2), .inr (.inl r1), .inl x2, .inr (.inl v3)]) rfl ?_
  refine s_rk (fun a4 ha5 hk6 => ?_)
  subst ha5
  refine s_RI (CE_EM _ _ _ _ _ _) (st := [.inl x2, .inr (.inl v3)]) (fun o ho => j_callV (As := [.inl (x2 / 2)]) (st := [.inl x2, .inr (.inl v3)]) (b := a4) C 26 rfl mf_Part_isGood ml_X1_48 rfl (recv_K C (by decide) (by decide) rfl hk6) (by decide) (by decide) (Nat.le_refl _) rfl (cPart_isGood (CX_tr C) σ M n a4 (x2 / 2) o ho)) (fun v7 => ?_)
  refine s_ieq C 27 rfl (fun _ => ?_) (fun _ => ?_)
  · refine s_blk C 33 4 [0, 1, 2] (pc' := 58) (lv' := [(0, .inr (.inl (some a0))), (1, .inr (.inl (some a4))), (2, .inl x2)]) (st' := [.inl (x2 - x2 / 2 * 2), .inl (x2 / 2), .inr (.inl (some a4)), .inr (.inl (some a0)), .inl x2, .inr (.inl v3)]) rfl ?_
    refine s_rks (fun hk8 => ?_)
    refine s_WI (CE_EM _ _ _ _ _ _) (st := [.inl x2, .inr (.inl v3)]) (fun o ho => j_callV (As := [.inr (.inl (some a4)), .inl (x2 / 2), .inl (x2 - x2 / 2 * 2)]) (st := [.inl x2, .inr (.inl v3)]) (b := a0) C 37 rfl mf_Code_solve ml_X1_55 rfl (recv_K C (by decide) (by decide) rfl hk8) (by decide) (by decide) (Nat.le_refl _) rfl (cCode_solve (CX_tr C) σ M n a0 (some a4) (x2 / 2) (x2 - x2 / 2 * 2) o ho)) (fun v9 M10 => ?_)
    exact wCode_decode_j61 C htab a0 k12 H12 _ _ _ _ _ _
  refine s_blk C 28 3 [0, 1, 2] (pc' := 47) (lv' := [(0, .inr (.inl (some a0))), (1, .inr (.inl (some a4))), (2, .inl x2)]) (st' := [.inl (x2 - x2 / 2 * 2), .inl (x2 / 2), .inr (.inl (some a4)), .inl x2, .inr (.inl v3)]) rfl ?_
  refine s_rks (fun hk11 => ?_)
  refine s_RI (CE_EM _ _ _ _ _ _) (st := [.inl x2, .inr (.inl v3)]) (fun o ho => j_callV (As := [.inl (x2 / 2), .inl (x2 - x2 / 2 * 2)]) (st := [.inl x2, .inr (.inl v3)]) (b := a4) C 31 rfl mf_Part_shardByte ml_X1_52 rfl (recv_K C (by decide) (by decide) rfl hk11) (by decide) (by decide) (Nat.le_refl _) rfl (cPart_shardByte (CX_tr C) σ M n a4 (x2 / 2) (x2 - x2 / 2 * 2) o ho)) (fun v13 => ?_)
  refine s_blk C 32 1 [0, 1, 2] (pc' := 61) (lv' := [(0, .inr (.inl (some a0))), (1, .inr (.inl (some a4))), (2, .inl x2)]) (st' := [.inl v13, .inl x2, .inr (.inl v3)]) rfl ?_
  exact wCode_decode_j61 C htab a0 k12 H12 _ _ _ _ _ _
def fCode_decode_l12 (a0 : Nat) (fu : Nat) : Option Nat → Int32 → Mm → Option (Int32 × Mm) := Nat.rec (fun r1 x2 M => none) (fun _ k => fCode_decode_b12 a0 k) fu
theorem wCode_decode_l12 {X : MC} {G : GE} {n0 : Nat} (C : CX X G RX1 cX1_decode pCode_decode 5 (some .boolean) n0) (htab : ∀ z ∈ X.2.2.2.2.2.2.2.2.exceptionTable.toList, False) {σ : Sg} {n : Nat} (a0 : Nat) : ∀ (fu : Nat) (r1 : Option Nat) (x2 : Int32) (M : Mm), JS X G 5 300 0 n0 (EM X G n0 6 300 (eW rvI σ n)) (fCode_decode_l12 a0 fu r1 x2 M) (σ, M, n) 12 [(0, .inr (.inl (some a0))), (1, .inr (.inl r1)), (2, .inl x2)] [] := by
  intro fu
  induction fu with
  | zero => intro r1 x2 M; exact s_none
  | succ fu ih => intro r1 x2 M; exact wCode_decode_b12 C htab a0 (fCode_decode_l12 a0 fu) ih _ _ _
def fCode_decode (a0 : Nat) (r1 : Option Nat) (M : Mm) : Option (Int32 × Mm) :=
  rk 2 (some a0) M fun _ =>
  bdW (fCode_findLowest a0 r1 M) fun v2 M3 =>
  if v2 = 0 then
    rZ 0 (some (0, M3))
  else
    fCode_decode_l12 a0 FU r1 0 M3
theorem wCode_decode {X : MC} {G : GE} {n0 : Nat} (C : CX X G RX1 cX1_decode pCode_decode 5 (some .boolean) n0) (htab : ∀ z ∈ X.2.2.2.2.2.2.2.2.exceptionTable.toList, False) {σ : Sg} {n : Nat} (a0 : Nat) (r1 : Option Nat) (M : Mm) : JS X G 5 300 0 n0 (EM X G n0 6 300 (eW rvI σ n)) (fCode_decode a0 r1 M) (σ, M, n) 0 [(0, .inr (.inl (some a0))), (1, .inr (.inl r1))] [] := by
  unfold fCode_decode
  refine s_blk C 0 2 [0, 1] (pc' := 2) (lv' := [(0, .inr (.inl (some a0))), (1, .inr (.inl r1))]) (st' := [.inr (.inl r1), .inr (.inl (some a0))]) rfl ?_
  refine s_rks (fun hk1 => ?_)
  refine s_WI (CE_EM _ _ _ _ _ _) (st := []) (fun o ho => j_callV (As := [.inr (.inl r1)]) (st := []) (b := a0) C 2 rfl mf_Code_findLowest ml_X1_44 rfl (recv_K C (by decide) (by decide) rfl hk1) (by decide) (by decide) (Nat.le_refl _) rfl (cCode_findLowest (CX_tr C) σ M n a0 r1 o ho)) (fun v2 M3 => ?_)
  refine s_ine C 3 rfl (fun _ => ?_) (fun _ => ?_)
  · refine s_blk C 4 1 [] (pc' := 9) (lv' := []) (st' := [.inl 0]) rfl ?_
    exact s_zret C 5 rfl rfl
  refine s_blk C 6 2 [0, 1, 2] (pc' := 12) (lv' := [(0, .inr (.inl (some a0))), (1, .inr (.inl r1)), (2, .inl 0)]) (st' := []) rfl ?_
  exact wCode_decode_l12 C htab a0 FU _ _ _
theorem cCode_decode {l : Launch} {G : GE} (htr : l.stackTraces = false) (σ : Sg) (M : Mm) (n : Nat) (a0 : Nat) (r1 : Option Nat) : ∀ o, fCode_decode a0 r1 M = some o → MetX l G yX1_decode cX1_decode 5 (some .boolean) 6 300 [.inr (.inl (some a0)), .inr (.inl r1)] (σ, M, n) ((eW rvI σ n) o) :=
  c_ofX (by decide) kCode_decode htr rfl rfl fun X _ _ C htab => wCode_decode C htab a0 r1 _
def pCode_plainByte : List BR := [(0, .iload_n 1, 1, 0, 1), (1, .ifCond .lt (21), 3, 0, 22), (4, .iload_n 1, 1, 0, 5), (5, .aload_n 0, 1, 0, 6), (6, .getfield 9, 3, 0, 9), (9, .arraylength, 1, 0, 10), (10, .if_icmp .ge (12), 3, 0, 22), (13, .aload_n 0, 1, 0, 14), (14, .getfield 9, 3, 0, 17), (17, .iload_n 1, 1, 0, 18), (18, .baload, 1, 0, 19), (19, .goto (4), 3, 0, 23), (22, .iconst 0, 1, 0, 23), (23, .ireturn, 1, 0, 24)]
theorem kCode_plainByte : bOK cX1_plainByte 2 pCode_plainByte = true := by decide +kernel
def fCode_plainByte (a0 : Nat) (x1 : Int32) (M : Mm) : Option (Int32) :=
  if x1 < 0 then
    some 0
  else
    fgR 2 200 (some a0) M fun v1 =>
    aln v1 M fun v2 =>
    if v2 ≤ x1 then
      some 0
    else
      fgR 2 200 (some a0) M fun v3 =>
      alI 20 v3 x1 M fun v4 =>
      some v4
theorem wCode_plainByte {X : MC} {G : GE} {n0 : Nat} (C : CX X G RX1 cX1_plainByte pCode_plainByte 2 (some .int) n0) (htab : ∀ z ∈ X.2.2.2.2.2.2.2.2.exceptionTable.toList, False) {σ : Sg} {M : Mm} {n : Nat} (a0 : Nat) (x1 : Int32) : JS X G 2 300 0 n0 (EM X G n0 2 300 (eR rvI σ M n)) (fCode_plainByte a0 x1 M) (σ, M, n) 0 [(0, .inr (.inl (some a0))), (1, .inl x1)] [] := by
  unfold fCode_plainByte
  refine s_blk C 0 1 [0, 1] (pc' := 1) (lv' := [(0, .inr (.inl (some a0))), (1, .inl x1)]) (st' := [.inl x1]) rfl ?_
  refine s_ilt C 1 rfl (fun _ => ?_) (fun _ => ?_)
  · refine s_blk C 12 1 [] (pc' := 23) (lv' := []) (st' := [.inl 0]) rfl ?_
    exact s_iret C 13 rfl rfl
  refine s_blk C 2 2 [0, 1] (pc' := 6) (lv' := [(0, .inr (.inl (some a0))), (1, .inl x1)]) (st' := [.inr (.inl (some a0)), .inl x1]) rfl ?_
  refine s_gR C 4 rfl fl_X1_9 rfl rfl (fun v1 => ?_)
  refine s_len C 5 rfl (fun v2 => ?_)
  refine s_icge C 6 rfl (fun _ => ?_) (fun _ => ?_)
  · refine s_blk C 12 1 [] (pc' := 23) (lv' := []) (st' := [.inl 0]) rfl ?_
    exact s_iret C 13 rfl rfl
  refine s_blk C 7 1 [1] (pc' := 14) (lv' := [(1, .inl x1)]) (st' := [.inr (.inl (some a0))]) rfl ?_
  refine s_gR C 8 rfl fl_X1_9 rfl rfl (fun v3 => ?_)
  refine s_blk C 9 1 [] (pc' := 18) (lv' := []) (st' := [.inl x1, .inr (.inl v3)]) rfl ?_
  refine s_ldB C 10 rfl (fun v4 => ?_)
  refine s_blk C 11 1 [] (pc' := 23) (lv' := []) (st' := [.inl v4]) rfl ?_
  exact s_iret C 13 rfl rfl
theorem cCode_plainByte {l : Launch} {G : GE} (htr : l.stackTraces = false) (σ : Sg) (M : Mm) (n : Nat) (a0 : Nat) (x1 : Int32) : ∀ o, fCode_plainByte a0 x1 M = some o → MetX l G yX1_plainByte cX1_plainByte 2 (some .int) 2 300 [.inr (.inl (some a0)), .inl x1] (σ, M, n) ((eR rvI σ M n) o) :=
  c_ofX (by decide) kCode_plainByte htr rfl rfl fun X _ _ C htab => wCode_plainByte C htab a0 x1
def pBytes_at : List BR := [(0, .iload_n 1, 1, 0, 1), (1, .ifCond .lt (21), 3, 0, 22), (4, .iload_n 1, 1, 0, 5), (5, .aload_n 0, 1, 0, 6), (6, .getfield 9, 3, 0, 9), (9, .arraylength, 1, 0, 10), (10, .if_icmp .ge (12), 3, 0, 22), (13, .aload_n 0, 1, 0, 14), (14, .getfield 9, 3, 0, 17), (17, .iload_n 1, 1, 0, 18), (18, .baload, 1, 0, 19), (19, .goto (4), 3, 0, 23), (22, .iconst 0, 1, 0, 23), (23, .ireturn, 1, 0, 24)]
theorem kBytes_at : bOK cX0_at 2 pBytes_at = true := by decide +kernel
def fBytes_at (a0 : Nat) (x1 : Int32) (M : Mm) : Option (Int32) :=
  if x1 < 0 then
    some 0
  else
    fgR 1 100 (some a0) M fun v1 =>
    aln v1 M fun v2 =>
    if v2 ≤ x1 then
      some 0
    else
      fgR 1 100 (some a0) M fun v3 =>
      alI 20 v3 x1 M fun v4 =>
      some v4
theorem wBytes_at {X : MC} {G : GE} {n0 : Nat} (C : CX X G RX0 cX0_at pBytes_at 2 (some .int) n0) (htab : ∀ z ∈ X.2.2.2.2.2.2.2.2.exceptionTable.toList, False) {σ : Sg} {M : Mm} {n : Nat} (a0 : Nat) (x1 : Int32) : JS X G 2 300 0 n0 (EM X G n0 2 300 (eR rvI σ M n)) (fBytes_at a0 x1 M) (σ, M, n) 0 [(0, .inr (.inl (some a0))), (1, .inl x1)] [] := by
  unfold fBytes_at
  refine s_blk C 0 1 [0, 1] (pc' := 1) (lv' := [(0, .inr (.inl (some a0))), (1, .inl x1)]) (st' := [.inl x1]) rfl ?_
  refine s_ilt C 1 rfl (fun _ => ?_) (fun _ => ?_)
  · refine s_blk C 12 1 [] (pc' := 23) (lv' := []) (st' := [.inl 0]) rfl ?_
    exact s_iret C 13 rfl rfl
  refine s_blk C 2 2 [0, 1] (pc' := 6) (lv' := [(0, .inr (.inl (some a0))), (1, .inl x1)]) (st' := [.inr (.inl (some a0)), .inl x1]) rfl ?_
  refine s_gR C 4 rfl fl_X0_9 rfl rfl (fun v1 => ?_)
  refine s_len C 5 rfl (fun v2 => ?_)
  refine s_icge C 6 rfl (fun _ => ?_) (fun _ => ?_)
  · refine s_blk C 12 1 [] (pc' := 23) (lv' := []) (st' := [.inl 0]) rfl ?_
    exact s_iret C 13 rfl rfl
  refine s_blk C 7 1 [1] (pc' := 14) (lv' := [(1, .inl x1)]) (st' := [.inr (.inl (some a0))]) rfl ?_
  refine s_gR C 8 rfl fl_X0_9 rfl rfl (fun v3 => ?_)
  refine s_blk C 9 1 [] (pc' := 18) (lv' := []) (st' := [.inl x1, .inr (.inl v3)]) rfl ?_
  refine s_ldB C 10 rfl (fun v4 => ?_)
  refine s_blk C 11 1 [] (pc' := 23) (lv' := []) (st' := [.inl v4]) rfl ?_
  exact s_iret C 13 rfl rfl
theorem cBytes_at {l : Launch} {G : GE} (htr : l.stackTraces = false) (σ : Sg) (M : Mm) (n : Nat) (a0 : Nat) (x1 : Int32) : ∀ o, fBytes_at a0 x1 M = some o → MetX l G yX0_at cX0_at 2 (some .int) 2 300 [.inr (.inl (some a0)), .inl x1] (σ, M, n) ((eR rvI σ M n) o) :=
  c_ofX (by decide) kBytes_at htr rfl rfl fun X _ _ C htab => wBytes_at C htab a0 x1
def pStore_isAsPut_0 : List BR := [(0, .iconst 0, 1, 0, 1), (1, .istore_n 2, 1, 0, 2), (2, .iconst 0, 1, 0, 3), (3, .istore_n 3, 1, 0, 4), (4, .iload_n 3, 1, 0, 5), (5, .aload_n 1, 1, 0, 6), (6, .getfield 169, 3, 0, 9), (9, .arraylength, 1, 0, 10), (10, .if_icmp .ge (91), 3, 0, 101), (13, .aload_n 0, 1, 0, 14), (14, .aload_n 1, 1, 0, 15), (15, .getfield 169, 3, 0, 18), (18, .iload_n 3, 1, 0, 19), (19, .iaload, 1, 0, 20), (20, .invokevirtual 145, 3, 0, 23), (23, .astore 4, 2, 0, 25), (25, .aload 4, 2, 0, 27), (27, .ifnonnull (5), 3, 0, 32), (30, .iconst 0, 1, 0, 31), (31, .ireturn, 1, 0, 32), (32, .aload_n 0, 1, 0, 33), (33, .getfield 32, 3, 0, 36), (36, .aload 4, 2, 0, 38), (38, .invokevirtual 150, 3, 0, 41), (41, .istore 5, 2, 0, 43), (43, .iconst 0, 1, 0, 44), (44, .istore 6, 2, 0, 46), (46, .iload 6, 2, 0, 48), (48, .aload 4, 2, 0, 50), (50, .getfield 149, 3, 0, 53), (53, .if_icmp .ge (42), 3, 0, 95), (56, .iload 5, 2, 0, 58), (58, .ifCond .eq (28), 3, 0, 86), (61, .aload_n 0, 1, 0, 62), (62, .getfield 32, 3, 0, 65), (65, .iload 6, 2, 0, 67), (67, .invokevirtual 154, 3, 0, 70), (70, .aload_n 1, 1, 0, 71), (71, .getfield 173, 3, 0, 74), (74, .getfield 177, 3, 0, 77)]
theorem kStore_isAsPut_0 : bOK cX8_isAsPut 7 pStore_isAsPut_0 = true := by decide +kernel
def pStore_isAsPut_1 : List BR := [(77, .iload_n 2, 1, 0, 78), (78, .invokevirtual 87, 3, 0, 81), (81, .if_icmp .eq (5), 3, 0, 86), (84, .iconst 0, 1, 0, 85), (85, .ireturn, 1, 0, 86), (86, .iinc 2 (1), 3, 1, 89), (89, .iinc 6 (1), 3, 1, 92), (92, .goto (-46), 3, 0, 46), (95, .iinc 3 (1), 3, 1, 98), (98, .goto (-94), 3, 0, 4), (101, .iload_n 2, 1, 0, 102), (102, .aload_n 1, 1, 0, 103), (103, .getfield 173, 3, 0, 106), (106, .getfield 177, 3, 0, 109), (109, .getfield 183, 3, 0, 112), (112, .if_icmp .ne (7), 3, 0, 119), (115, .iconst 1, 1, 1, 116), (116, .goto (4), 3, 0, 120), (119, .iconst 0, 1, 0, 120), (120, .ireturn, 1, 0, 121)]
theorem kStore_isAsPut_1 : bOK cX8_isAsPut 7 pStore_isAsPut_1 = true := by decide +kernel
def pStore_isAsPut : List BR := (pStore_isAsPut_0 ++ pStore_isAsPut_1)
theorem kStore_isAsPut : bOK cX8_isAsPut 7 pStore_isAsPut = true := (bOK_app kStore_isAsPut_0 kStore_isAsPut_1)
def fStore_isAsPut_j86 (a0 : Nat) (k4 : Option Nat → Int32 → Int32 → Mm → Option (Int32 × Mm)) (k46 : Option Nat → Int32 → Int32 → Option Nat → Int32 → Int32 → Mm → Option (Int32 × Mm)) (r1 : Option Nat) (x2 : Int32) (x3 : Int32) (r4 : Option Nat) (x5 : Int32) (x6 : Int32) (M : Mm) : Option (Int32 × Mm) :=
  k46 r1 (x2 + 1) x3 r4 x5 (x6 + 1) M
theorem wStore_isAsPut_j86 {X : MC} {G : GE} {n0 : Nat} (C : CX X G RX8 cX8_isAsPut pStore_isAsPut 7 (some .boolean) n0) (htab : ∀ z ∈ X.2.2.2.2.2.2.2.2.exceptionTable.toList, False) {σ : Sg} {n : Nat} (a0 : Nat) (k4 : Option Nat → Int32 → Int32 → Mm → Option (Int32 × Mm)) (H4 : ∀ (r1 : Option Nat) (x2 : Int32) (x3 : Int32) (M : Mm), JS X G 7 300 0 n0 (EM X G n0 7 300 (eW rvI σ n)) (k4 r1 x2 x3 M) (σ, M, n) 4 [(0, .inr (.inl (some a0))), (1, .inr (.inl r1)), (2, .inl x2), (3, .inl x3)] []) (k46 : Option Nat → Int32 → Int32 → Option Nat → Int32 → Int32 → Mm → Option (Int32 × Mm)) (H46 : ∀ (r1 : Option Nat) (x2 : Int32) (x3 : Int32) (r4 : Option Nat) (x5 : Int32) (x6 : Int32) (M : Mm), JS X G 7 300 0 n0 (EM X G n0 7 300 (eW rvI σ n)) (k46 r1 x2 x3 r4 x5 x6 M) (σ, M, n) 46 [(0, .inr (.inl (some a0))), (1, .inr (.inl r1)), (2, .inl x2), (3, .inl x3), (4, .inr (.inl r4)), (5, .inl x5), (6, .inl x6)] []) (r1 : Option Nat) (x2 : Int32) (x3 : Int32) (r4 : Option Nat) (x5 : Int32) (x6 : Int32) (M : Mm) : JS X G 7 300 0 n0 (EM X G n0 7 300 (eW rvI σ n)) (fStore_isAsPut_j86 a0 k4 k46 r1 x2 x3 r4 x5 x6 M) (σ, M, n) 86 [(0, .inr (.inl (some a0))), (1, .inr (.inl r1)), (2, .inl x2), (3, .inl x3), (4, .inr (.inl r4)), (5, .inl x5), (6, .inl x6)] [] := by
  unfold fStore_isAsPut_j86
  refine s_blk C 45 3 [0, 1, 2, 3, 4, 5, 6] (pc' := 46) (lv' := [(0, .inr (.inl (some a0))), (1, .inr (.inl r1)), (2, .inl (x2 + 1)), (3, .inl x3), (4, .inr (.inl r4)), (5, .inl x5), (6, .inl (x6 + 1))]) (st' := []) rfl ?_
  exact H46 _ _ _ _ _ _ _
def fStore_isAsPut_b46 (a0 : Nat) (k4 : Option Nat → Int32 → Int32 → Mm → Option (Int32 × Mm)) (k46 : Option Nat → Int32 → Int32 → Option Nat → Int32 → Int32 → Mm → Option (Int32 × Mm)) (r1 : Option Nat) (x2 : Int32) (x3 : Int32) (r4 : Option Nat) (x5 : Int32) (x6 : Int32) (M : Mm) : Option (Int32 × Mm) :=
  fgI 5 501 r4 M fun v1 =>
  if v1 ≤ x6 then
    k4 r1 x2 (x3 + 1) M
  else
    if x5 = 0 then
      fStore_isAsPut_j86 a0 k4 k46 r1 x2 x3 r4 x5 x6 M
    else
      fgR 8 803 (some a0) M fun v2 =>
      rk 2 v2 M fun a3 =>
      bdR (fCode_plainByte a3 x6 M) fun v6 =>
      fgR 10 1000 r1 M fun v7 =>
      fgR 4 403 v7 M fun v8 =>
      rk 1 v8 M fun a9 =>
      bdR (fBytes_at a9 x2 M) fun v12 =>
      if v6 = v12 then
        fStore_isAsPut_j86 a0 k4 k46 r1 x2 x3 r4 x5 x6 M
      else
        rZ 0 (some (0, M))
theorem wStore_isAsPut_b46 {X : MC} {G : GE} {n0 : Nat} (C : CX X G RX8 cX8_isAsPut pStore_isAsPut 7 (some .boolean) n0) (htab : ∀ z ∈ X.2.2.2.2.2.2.2.2.exceptionTable.toList, False) {σ : Sg} {n : Nat} (a0 : Nat) (k4 : Option Nat → Int32 → Int32 → Mm → Option (Int32 × Mm)) (H4 : ∀ (r1 : Option Nat) (x2 : Int32) (x3 : Int32) (M : Mm), JS X G 7 300 0 n0 (EM X G n0 7 300 (eW rvI σ n)) (k4 r1 x2 x3 M) (σ, M, n) 4 [(0, .inr (.inl (some a0))), (1, .inr (.inl r1)), (2, .inl x2), (3, .inl x3)] []) (k46 : Option Nat → Int32 → Int32 → Option Nat → Int32 → Int32 → Mm → Option (Int32 × Mm)) (H46 : ∀ (r1 : Option Nat) (x2 : Int32) (x3 : Int32) (r4 : Option Nat) (x5 : Int32) (x6 : Int32) (M : Mm), JS X G 7 300 0 n0 (EM X G n0 7 300 (eW rvI σ n)) (k46 r1 x2 x3 r4 x5 x6 M) (σ, M, n) 46 [(0, .inr (.inl (some a0))), (1, .inr (.inl r1)), (2, .inl x2), (3, .inl x3), (4, .inr (.inl r4)), (5, .inl x5), (6, .inl x6)] []) (r1 : Option Nat) (x2 : Int32) (x3 : Int32) (r4 : Option Nat) (x5 : Int32) (x6 : Int32) (M : Mm) : JS X G 7 300 0 n0 (EM X G n0 7 300 (eW rvI σ n)) (fStore_isAsPut_b46 a0 k4 k46 r1 x2 x3 r4 x5 x6 M) (σ, M, n) 46 [(0, .inr (.inl (some a0))), (1, .inr (.inl r1)), (2, .inl x2), (3, .inl x3), (4, .inr (.inl r4)), (5, .inl x5), (6, .inl x6)] [] := by
  unfold fStore_isAsPut_b46
  refine s_blk C 27 2 [0, 1, 2, 3, 4, 5, 6] (pc' := 50) (lv' := [(0, .inr (.inl (some a0))), (1, .inr (.inl r1)), (2, .inl x2), (3, .inl x3), (4, .inr (.inl r4)), (5, .inl x5), (6, .inl x6)]) (st' := [.inr (.inl r4), .inl x6]) rfl ?_
  refine s_gI C 29 rfl fl_X8_149 rfl rfl (fun v1 => ?_)
  refine s_icge C 30 rfl (fun _ => ?_) (fun _ => ?_)
  · refine s_blk C 48 2 [0, 1, 2, 3] (pc' := 4) (lv' := [(0, .inr (.inl (some a0))), (1, .inr (.inl r1)), (2, .inl x2), (3, .inl (x3 + 1))]) (st' := []) rfl ?_
    exact H4 _ _ _ _
  refine s_blk C 31 1 [0, 1, 2, 3, 4, 5, 6] (pc' := 58) (lv' := [(0, .inr (.inl (some a0))), (1, .inr (.inl r1)), (2, .inl x2), (3, .inl x3), (4, .inr (.inl r4)), (5, .inl x5), (6, .inl x6)]) (st' := [.inl x5]) rfl ?_
  refine s_ieq C 32 rfl (fun _ => ?_) (fun _ => ?_)
  · exact wStore_isAsPut_j86 C htab a0 k4 H4 k46 H46 _ _ _ _ _ _ _
  refine s_blk C 33 1 [0, 1, 2, 3, 4, 5, 6] (pc' := 62) (lv' := [(0, .inr (.inl (some a0))), (1, .inr (.inl r1)), (2, .inl x2), (3, .inl x3), (4, .inr (.inl r4)), (5, .inl x5), (6, .inl x6)]) (st' := [.inr (.inl (some a0))]) rfl ?_
  refine s_gR C 34 rfl fl_X8_32 rfl rfl (fun v2 => ?_)
  refine s_blk C 35 1 [0, 1, 2, 3, 4, 5, 6] (pc' := 67) (lv' := [(0, .inr (.inl (some a0))), (1, .inr (.inl r1)), (2, .inl x2), (3, .inl x3), (4, .inr (.inl r4)), (5, .inl x5), (6, .inl x6)]) (st' := [.inl x6, .inr (.inl v2)]) rfl ?_
  refine s_rk (fun a3 ha4 hk5 => ?_)
  subst ha4
  refine s_RI (CE_EM _ _ _ _ _ _) (st := []) (fun o ho => j_callV (As := [.inl x6]) (st := []) (b := a3) C 36 rfl mf_Code_plainByte ml_X8_154 rfl (recv_K C (by decide) (by decide) rfl hk5) (by decide) (by decide) (Nat.le_refl _) rfl (cCode_plainByte (CX_tr C) σ M n a3 x6 o ho)) (fun v6 => ?_)
  refine s_blk C 37 1 [0, 1, 2, 3, 4, 5, 6] (pc' := 71) (lv' := [(0, .inr (.inl (some a0))), (1, .inr (.inl r1)), (2, .inl x2), (3, .inl x3), (4, .inr (.inl r4)), (5, .inl x5), (6, .inl x6)]) (st' := [.inr (.inl r1), .inl v6]) rfl ?_
  refine s_gR C 38 rfl fl_X8_173 rfl rfl (fun v7 => ?_)
  refine s_gR C 39 rfl fl_X8_177 rfl rfl (fun v8 => ?_)
  refine s_blk C 40 1 [0, 1, 2, 3, 4, 5, 6] (pc' := 78) (lv' := [(0, .inr (.inl (some a0))), (1, .inr (.inl r1)), (2, .inl x2), (3, .inl x3), (4, .inr (.inl r4)), (5, .inl x5), (6, .inl x6)]) (st' := [.inl x2, .inr (.inl v8), .inl v6]) rfl ?_
  refine s_rk (fun a9 ha10 hk11 => ?_)
  subst ha10
  refine s_RI (CE_EM _ _ _ _ _ _) (st := [.inl v6]) (fun o ho => j_callV (As := [.inl x2]) (st := [.inl v6]) (b := a9) C 41 rfl mf_Bytes_at ml_X8_87 rfl (recv_K C (by decide) (by decide) rfl hk11) (by decide) (by decide) (Nat.le_refl _) rfl (cBytes_at (CX_tr C) σ M n a9 x2 o ho)) (fun v12 => ?_)
  refine s_iceq C 42 rfl (fun _ => ?_) (fun _ => ?_)
  · exact wStore_isAsPut_j86 C htab a0 k4 H4 k46 H46 _ _ _ _ _ _ _
  refine s_blk C 43 1 [] (pc' := 85) (lv' := []) (st' := [.inl 0]) rfl ?_
  exact s_zret C 44 rfl rfl
def fStore_isAsPut_l46 (a0 : Nat) (k4 : Option Nat → Int32 → Int32 → Mm → Option (Int32 × Mm)) (fu : Nat) : Option Nat → Int32 → Int32 → Option Nat → Int32 → Int32 → Mm → Option (Int32 × Mm) := Nat.rec (fun r1 x2 x3 r4 x5 x6 M => none) (fun _ k => fStore_isAsPut_b46 a0 k4 k) fu
theorem wStore_isAsPut_l46 {X : MC} {G : GE} {n0 : Nat} (C : CX X G RX8 cX8_isAsPut pStore_isAsPut 7 (some .boolean) n0) (htab : ∀ z ∈ X.2.2.2.2.2.2.2.2.exceptionTable.toList, False) {σ : Sg} {n : Nat} (a0 : Nat) (k4 : Option Nat → Int32 → Int32 → Mm → Option (Int32 × Mm)) (H4 : ∀ (r1 : Option Nat) (x2 : Int32) (x3 : Int32) (M : Mm), JS X G 7 300 0 n0 (EM X G n0 7 300 (eW rvI σ n)) (k4 r1 x2 x3 M) (σ, M, n) 4 [(0, .inr (.inl (some a0))), (1, .inr (.inl r1)), (2, .inl x2), (3, .inl x3)] []) : ∀ (fu : Nat) (r1 : Option Nat) (x2 : Int32) (x3 : Int32) (r4 : Option Nat) (x5 : Int32) (x6 : Int32) (M : Mm), JS X G 7 300 0 n0 (EM X G n0 7 300 (eW rvI σ n)) (fStore_isAsPut_l46 a0 k4 fu r1 x2 x3 r4 x5 x6 M) (σ, M, n) 46 [(0, .inr (.inl (some a0))), (1, .inr (.inl r1)), (2, .inl x2), (3, .inl x3), (4, .inr (.inl r4)), (5, .inl x5), (6, .inl x6)] [] := by
  intro fu
  induction fu with
  | zero => intro r1 x2 x3 r4 x5 x6 M; exact s_none
  | succ fu ih => intro r1 x2 x3 r4 x5 x6 M; exact wStore_isAsPut_b46 C htab a0 k4 H4 (fStore_isAsPut_l46 a0 k4 fu) ih _ _ _ _ _ _ _
def fStore_isAsPut_b4 (a0 : Nat) (k4 : Option Nat → Int32 → Int32 → Mm → Option (Int32 × Mm)) (r1 : Option Nat) (x2 : Int32) (x3 : Int32) (M : Mm) : Option (Int32 × Mm) :=
  fgR 10 1001 r1 M fun v1 =>
  aln v1 M fun v2 =>
  if v2 ≤ x3 then
    fgR 10 1000 r1 M fun v3 =>
    fgR 4 403 v3 M fun v4 =>
    fgI 1 101 v4 M fun v5 =>
    if x2 = v5 then
      rZ 1 (some (1, M))
    else
      rZ 0 (some (0, M))
  else
    fgR 10 1001 r1 M fun v6 =>
    alI 21 v6 x3 M fun v7 =>
    rk 8 (some a0) M fun _ =>
    bdR (fStore_partAt a0 v7 M) fun v9 =>
    ifN v9
      (rZ 0 (some (0, M)))
      (fgR 8 803 (some a0) M fun v10 =>
      rk 2 v10 M fun a11 =>
      bdW (fCode_decode a11 v9 M) fun v14 M15 =>
      fStore_isAsPut_l46 a0 k4 FU r1 x2 x3 v9 v14 0 M15)
theorem wStore_isAsPut_b4 {X : MC} {G : GE} {n0 : Nat} (C : CX X G RX8 cX8_isAsPut pStore_isAsPut 7 (some .boolean) n0) (htab : ∀ z ∈ X.2.2.2.2.2.2.2.2.exceptionTable.toList, False) {σ : Sg} {n : Nat} (a0 : Nat) (k4 : Option Nat → Int32 → Int32 → Mm → Option (Int32 × Mm)) (H4 : ∀ (r1 : Option Nat) (x2 : Int32) (x3 : Int32) (M : Mm), JS X G 7 300 0 n0 (EM X G n0 7 300 (eW rvI σ n)) (k4 r1 x2 x3 M) (σ, M, n) 4 [(0, .inr (.inl (some a0))), (1, .inr (.inl r1)), (2, .inl x2), (3, .inl x3)] []) (r1 : Option Nat) (x2 : Int32) (x3 : Int32) (M : Mm) : JS X G 7 300 0 n0 (EM X G n0 7 300 (eW rvI σ n)) (fStore_isAsPut_b4 a0 k4 r1 x2 x3 M) (σ, M, n) 4 [(0, .inr (.inl (some a0))), (1, .inr (.inl r1)), (2, .inl x2), (3, .inl x3)] [] := by
  unfold fStore_isAsPut_b4
  refine s_blk C 4 2 [0, 1, 2, 3] (pc' := 6) (lv' := [(0, .inr (.inl (some a0))), (1, .inr (.inl r1)), (2, .inl x2), (3, .inl x3)]) (st' := [.inr (.inl r1), .inl x3]) rfl ?_
  refine s_gR C 6 rfl fl_X8_169 rfl rfl (fun v1 => ?_)
  refine s_len C 7 rfl (fun v2 => ?_)
  refine s_icge C 8 rfl (fun _ => ?_) (fun _ => ?_)
  · refine s_blk C 50 2 [] (pc' := 103) (lv' := []) (st' := [.inr (.inl r1), .inl x2]) rfl ?_
    refine s_gR C 52 rfl fl_X8_173 rfl rfl (fun v3 => ?_)
    refine s_gR C 53 rfl fl_X8_177 rfl rfl (fun v4 => ?_)
    refine s_gI C 54 rfl fl_X8_183 rfl rfl (fun v5 => ?_)
    refine s_icne C 55 rfl (fun _ => ?_) (fun _ => ?_)
    · refine s_blk C 56 2 [] (pc' := 120) (lv' := []) (st' := [.inl 1]) rfl ?_
      exact s_zret C 59 rfl rfl
    refine s_blk C 58 1 [] (pc' := 120) (lv' := []) (st' := [.inl 0]) rfl ?_
    exact s_zret C 59 rfl rfl
  refine s_blk C 9 2 [0, 1, 2, 3] (pc' := 15) (lv' := [(0, .inr (.inl (some a0))), (1, .inr (.inl r1)), (2, .inl x2), (3, .inl x3)]) (st' := [.inr (.inl r1), .inr (.inl (some a0))]) rfl ?_
  refine s_gR C 11 rfl fl_X8_169 rfl rfl (fun v6 => ?_)
  refine s_blk C 12 1 [0, 1, 2, 3] (pc' := 19) (lv' := [(0, .inr (.inl (some a0))), (1, .inr (.inl r1)), (2, .inl x2), (3, .inl x3)]) (st' := [.inl x3, .inr (.inl v6), .inr (.inl (some a0))]) rfl ?_
  refine s_ldI C 13 rfl (fun v7 => ?_)
  refine s_rks (fun hk8 => ?_)
  refine s_RR (CE_EM _ _ _ _ _ _) (st := []) (fun o ho => j_callV (As := [.inl v7]) (st := []) (b := a0) C 14 rfl mf_Store_partAt ml_X8_145 rfl (recv_K C (by decide) (by decide) rfl hk8) (by decide) (by decide) (Nat.le_refl _) rfl (cStore_partAt (CX_tr C) σ M n a0 v7 o ho)) (fun v9 => ?_)
  refine s_blk C 15 2 [0, 1, 2, 3, 4] (pc' := 27) (lv' := [(0, .inr (.inl (some a0))), (1, .inr (.inl r1)), (2, .inl x2), (3, .inl x3), (4, .inr (.inl v9))]) (st' := [.inr (.inl v9)]) rfl ?_
  refine s_nonnull C 17 rfl ?_ ?_
  · refine s_blk C 18 1 [] (pc' := 31) (lv' := []) (st' := [.inl 0]) rfl ?_
    exact s_zret C 19 rfl rfl
  refine s_blk C 20 1 [0, 1, 2, 3, 4] (pc' := 33) (lv' := [(0, .inr (.inl (some a0))), (1, .inr (.inl r1)), (2, .inl x2), (3, .inl x3), (4, .inr (.inl v9))]) (st' := [.inr (.inl (some a0))]) rfl ?_
  refine s_gR C 21 rfl fl_X8_32 rfl rfl (fun v10 => ?_)
  refine s_blk C 22 1 [0, 1, 2, 3, 4] (pc' := 38) (lv' := [(0, .inr (.inl (some a0))), (1, .inr (.inl r1)), (2, .inl x2), (3, .inl x3), (4, .inr (.inl v9))]) (st' := [.inr (.inl v9), .inr (.inl v10)]) rfl ?_
  refine s_rk (fun a11 ha12 hk13 => ?_)
  subst ha12
  refine s_WI (CE_EM _ _ _ _ _ _) (st := []) (fun o ho => j_callV (As := [.inr (.inl v9)]) (st := []) (b := a11) C 23 rfl mf_Code_decode ml_X8_150 rfl (recv_K C (by decide) (by decide) rfl hk13) (by decide) (by decide) (Nat.le_refl _) rfl (cCode_decode (CX_tr C) σ M n a11 v9 o ho)) (fun v14 M15 => ?_)
  refine s_blk C 24 3 [0, 1, 2, 3, 4, 5, 6] (pc' := 46) (lv' := [(0, .inr (.inl (some a0))), (1, .inr (.inl r1)), (2, .inl x2), (3, .inl x3), (4, .inr (.inl v9)), (5, .inl v14), (6, .inl 0)]) (st' := []) rfl ?_
  exact wStore_isAsPut_l46 C htab a0 k4 H4 FU _ _ _ _ _ _ _
def fStore_isAsPut_l4 (a0 : Nat) (fu : Nat) : Option Nat → Int32 → Int32 → Mm → Option (Int32 × Mm) := Nat.rec (fun r1 x2 x3 M => none) (fun _ k => fStore_isAsPut_b4 a0 k) fu
theorem wStore_isAsPut_l4 {X : MC} {G : GE} {n0 : Nat} (C : CX X G RX8 cX8_isAsPut pStore_isAsPut 7 (some .boolean) n0) (htab : ∀ z ∈ X.2.2.2.2.2.2.2.2.exceptionTable.toList, False) {σ : Sg} {n : Nat} (a0 : Nat) : ∀ (fu : Nat) (r1 : Option Nat) (x2 : Int32) (x3 : Int32) (M : Mm), JS X G 7 300 0 n0 (EM X G n0 7 300 (eW rvI σ n)) (fStore_isAsPut_l4 a0 fu r1 x2 x3 M) (σ, M, n) 4 [(0, .inr (.inl (some a0))), (1, .inr (.inl r1)), (2, .inl x2), (3, .inl x3)] [] := by
  intro fu
  induction fu with
  | zero => intro r1 x2 x3 M; exact s_none
  | succ fu ih => intro r1 x2 x3 M; exact wStore_isAsPut_b4 C htab a0 (fStore_isAsPut_l4 a0 fu) ih _ _ _ _
def fStore_isAsPut (a0 : Nat) (r1 : Option Nat) (M : Mm) : Option (Int32 × Mm) :=
  fStore_isAsPut_l4 a0 FU r1 0 0 M
theorem wStore_isAsPut {X : MC} {G : GE} {n0 : Nat} (C : CX X G RX8 cX8_isAsPut pStore_isAsPut 7 (some .boolean) n0) (htab : ∀ z ∈ X.2.2.2.2.2.2.2.2.exceptionTable.toList, False) {σ : Sg} {n : Nat} (a0 : Nat) (r1 : Option Nat) (M : Mm) : JS X G 7 300 0 n0 (EM X G n0 7 300 (eW rvI σ n)) (fStore_isAsPut a0 r1 M) (σ, M, n) 0 [(0, .inr (.inl (some a0))), (1, .inr (.inl r1))] [] := by
  unfold fStore_isAsPut
  refine s_blk C 0 4 [0, 1, 2, 3] (pc' := 4) (lv' := [(0, .inr (.inl (some a0))), (1, .inr (.inl r1)), (2, .inl 0), (3, .inl 0)]) (st' := []) rfl ?_
  exact wStore_isAsPut_l4 C htab a0 FU _ _ _ _
theorem cStore_isAsPut {l : Launch} {G : GE} (htr : l.stackTraces = false) (σ : Sg) (M : Mm) (n : Nat) (a0 : Nat) (r1 : Option Nat) : ∀ o, fStore_isAsPut a0 r1 M = some o → MetX l G yX8_isAsPut cX8_isAsPut 7 (some .boolean) 7 300 [.inr (.inl (some a0)), .inr (.inl r1)] (σ, M, n) ((eW rvI σ n) o) :=
  c_ofX (by decide) kStore_isAsPut htr rfl rfl fun X _ _ C htab => wStore_isAsPut C htab a0 r1 _

def pBytes_appendAll : List BR := [(0, .iconst 0, 1, 0, 1), (1, .istore_n 2, 1, 0, 2), (2, .iload_n 2, 1, 0, 3), (3, .aload_n 1, 1, 0, 4), (4, .getfield 15, 3, 0, 7), (7, .if_icmp .ge (18), 3, 0, 25), (10, .aload_n 0, 1, 0, 11), (11, .aload_n 1, 1, 0, 12), (12, .iload_n 2, 1, 0, 13), (13, .invokevirtual 19, 3, 0, 16), (16, .invokevirtual 23, 3, 0, 19), (19, .iinc 2 (1), 3, 1, 22), (22, .goto (-20), 3, 0, 2), (25, .return_, 1, 0, 26)]
theorem kBytes_appendAll : bOK cX0_appendAll 3 pBytes_appendAll = true := by decide +kernel
def fBytes_appendAll_b2 (a0 : Nat) (k2 : Option Nat → Int32 → Mm → Option (Unit × Mm)) (r1 : Option Nat) (x2 : Int32) (M : Mm) : Option (Unit × Mm) :=
  fgI 1 101 r1 M fun v1 =>
  if v1 ≤ x2 then
    some ((), M)
  else
    rk 1 r1 M fun a2 =>
    bdR (fBytes_at a2 x2 M) fun v5 =>
    rk 1 (some a0) M fun _ =>
    bdW (fBytes_append a0 v5 M) fun v7 M8 =>
    k2 r1 (x2 + 1) M8
theorem wBytes_appendAll_b2 {X : MC} {G : GE} {n0 : Nat} (C : CX X G RX0 cX0_appendAll pBytes_appendAll 3 none n0) (htab : ∀ z ∈ X.2.2.2.2.2.2.2.2.exceptionTable.toList, False) {σ : Sg} {n : Nat} (a0 : Nat) (k2 : Option Nat → Int32 → Mm → Option (Unit × Mm)) (H2 : ∀ (r1 : Option Nat) (x2 : Int32) (M : Mm), JS X G 3 300 0 n0 (EM X G n0 3 300 (eW rvU σ n)) (k2 r1 x2 M) (σ, M, n) 2 [(0, .inr (.inl (some a0))), (1, .inr (.inl r1)), (2, .inl x2)] []) (r1 : Option Nat) (x2 : Int32) (M : Mm) : JS X G 3 300 0 n0 (EM X G n0 3 300 (eW rvU σ n)) (fBytes_appendAll_b2 a0 k2 r1 x2 M) (σ, M, n) 2 [(0, .inr (.inl (some a0))), (1, .inr (.inl r1)), (2, .inl x2)] [] := by
  unfold fBytes_appendAll_b2
  refine s_blk C 2 2 [0, 1, 2] (pc' := 4) (lv' := [(0, .inr (.inl (some a0))), (1, .inr (.inl r1)), (2, .inl x2)]) (st' := [.inr (.inl r1), .inl x2]) rfl ?_
  refine s_gI C 4 rfl fl_X0_15 rfl rfl (fun v1 => ?_)
  refine s_icge C 5 rfl (fun _ => ?_) (fun _ => ?_)
  · exact s_vret C 13 rfl rfl
  refine s_blk C 6 3 [0, 1, 2] (pc' := 13) (lv' := [(0, .inr (.inl (some a0))), (1, .inr (.inl r1)), (2, .inl x2)]) (st' := [.inl x2, .inr (.inl r1), .inr (.inl (some a0))]) rfl ?_
  refine s_rk (fun a2 ha3 hk4 => ?_)
  subst ha3
  refine s_RI (CE_EM _ _ _ _ _ _) (st := [.inr (.inl (some a0))]) (fun o ho => j_callV (As := [.inl x2]) (st := [.inr (.inl (some a0))]) (b := a2) C 9 rfl mf_Bytes_at ml_X0_19 rfl (recv_K C (by decide) (by decide) rfl hk4) (by decide) (by decide) (Nat.le_refl _) rfl (cBytes_at (CX_tr C) σ M n a2 x2 o ho)) (fun v5 => ?_)
  refine s_rks (fun hk6 => ?_)
  refine s_WU (CE_EM _ _ _ _ _ _) (st := []) (fun o ho => j_callV (As := [.inl v5]) (st := []) (b := a0) C 10 rfl mf_Bytes_append ml_X0_23 rfl (recv_K C (by decide) (by decide) rfl hk6) (by decide) (by decide) (Nat.le_refl _) rfl (cBytes_append (CX_tr C) σ M n a0 v5 o ho)) (fun v7 M8 => ?_)
  refine s_blk C 11 2 [0, 1, 2] (pc' := 2) (lv' := [(0, .inr (.inl (some a0))), (1, .inr (.inl (some a2))), (2, .inl (x2 + 1))]) (st' := []) rfl ?_
  exact H2 _ _ _
def fBytes_appendAll_l2 (a0 : Nat) (fu : Nat) : Option Nat → Int32 → Mm → Option (Unit × Mm) := Nat.rec (fun r1 x2 M => none) (fun _ k => fBytes_appendAll_b2 a0 k) fu
theorem wBytes_appendAll_l2 {X : MC} {G : GE} {n0 : Nat} (C : CX X G RX0 cX0_appendAll pBytes_appendAll 3 none n0) (htab : ∀ z ∈ X.2.2.2.2.2.2.2.2.exceptionTable.toList, False) {σ : Sg} {n : Nat} (a0 : Nat) : ∀ (fu : Nat) (r1 : Option Nat) (x2 : Int32) (M : Mm), JS X G 3 300 0 n0 (EM X G n0 3 300 (eW rvU σ n)) (fBytes_appendAll_l2 a0 fu r1 x2 M) (σ, M, n) 2 [(0, .inr (.inl (some a0))), (1, .inr (.inl r1)), (2, .inl x2)] [] := by
  intro fu
  induction fu with
  | zero => intro r1 x2 M; exact s_none
  | succ fu ih => intro r1 x2 M; exact wBytes_appendAll_b2 C htab a0 (fBytes_appendAll_l2 a0 fu) ih _ _ _
def fBytes_appendAll (a0 : Nat) (r1 : Option Nat) (M : Mm) : Option (Unit × Mm) :=
  fBytes_appendAll_l2 a0 FU r1 0 M
theorem wBytes_appendAll {X : MC} {G : GE} {n0 : Nat} (C : CX X G RX0 cX0_appendAll pBytes_appendAll 3 none n0) (htab : ∀ z ∈ X.2.2.2.2.2.2.2.2.exceptionTable.toList, False) {σ : Sg} {n : Nat} (a0 : Nat) (r1 : Option Nat) (M : Mm) : JS X G 3 300 0 n0 (EM X G n0 3 300 (eW rvU σ n)) (fBytes_appendAll a0 r1 M) (σ, M, n) 0 [(0, .inr (.inl (some a0))), (1, .inr (.inl r1))] [] := by
  unfold fBytes_appendAll
  refine s_blk C 0 2 [0, 1, 2] (pc' := 2) (lv' := [(0, .inr (.inl (some a0))), (1, .inr (.inl r1)), (2, .inl 0)]) (st' := []) rfl ?_
  exact wBytes_appendAll_l2 C htab a0 FU _ _ _
theorem cBytes_appendAll {l : Launch} {G : GE} (htr : l.stackTraces = false) (σ : Sg) (M : Mm) (n : Nat) (a0 : Nat) (r1 : Option Nat) : ∀ o, fBytes_appendAll a0 r1 M = some o → MetX l G yX0_appendAll cX0_appendAll 3 none 3 300 [.inr (.inl (some a0)), .inr (.inl r1)] (σ, M, n) ((eW rvU σ n) o) :=
  c_ofX (by decide) kBytes_appendAll htr rfl rfl fun X _ _ C htab => wBytes_appendAll C htab a0 r1 _
def pPart_init_0 : List BR := [(0, .aload_n 0, 1, 0, 1), (1, .invokespecial 3, 3, 0, 4), (4, .aload_n 0, 1, 0, 5), (5, .bipush 6, 2, 6, 7), (7, .newarray .byte, 2, 0, 9), (9, .putfield 9, 3, 0, 12), (12, .aload_n 0, 1, 0, 13), (13, .bipush 10, 2, 10, 15), (15, .newarray .byte, 2, 0, 17), (17, .putfield 15, 3, 0, 20), (20, .aload_n 0, 1, 0, 21), (21, .iconst 5, 1, 5, 22), (22, .newarray .int, 2, 0, 24), (24, .putfield 18, 3, 0, 27), (27, .aload_n 0, 1, 0, 28), (28, .iconst 5, 1, 5, 29), (29, .newarray .boolean, 2, 0, 31), (31, .putfield 22, 3, 0, 34), (34, .aload_n 0, 1, 0, 35), (35, .iload_n 1, 1, 0, 36), (36, .putfield 26, 3, 0, 39), (39, .aload_n 0, 1, 0, 40), (40, .iload 4, 2, 0, 42), (42, .iload_n 3, 1, 0, 43), (43, .isub, 1, 0, 44), (44, .putfield 30, 3, 0, 47), (47, .iconst 0, 1, 0, 48), (48, .istore 5, 2, 0, 50), (50, .iload 5, 2, 0, 52), (52, .aload_n 0, 1, 0, 53), (53, .getfield 30, 3, 0, 56), (56, .if_icmp .ge (35), 3, 0, 91), (59, .iload 5, 2, 0, 61), (61, .aload_n 0, 1, 0, 62), (62, .getfield 9, 3, 0, 65), (65, .arraylength, 1, 0, 66), (66, .if_icmp .ge (25), 3, 0, 91), (69, .aload_n 0, 1, 0, 70), (70, .getfield 9, 3, 0, 73), (73, .iload 5, 2, 0, 75)]
theorem kPart_init_0 : bOK cX5_init 6 pPart_init_0 = true := by decide +kernel
def pPart_init_1 : List BR := [(75, .aload_n 2, 1, 0, 76), (76, .iload_n 3, 1, 0, 77), (77, .iload 5, 2, 0, 79), (79, .iadd, 1, 0, 80), (80, .invokevirtual 33, 3, 0, 83), (83, .i2b, 1, 0, 84), (84, .bastore, 1, 0, 85), (85, .iinc 5 (1), 3, 1, 88), (88, .goto (-38), 3, 0, 50), (91, .aload_n 0, 1, 0, 92), (92, .getfield 18, 3, 0, 95), (95, .iconst (-1), 1, -1, 96), (96, .invokestatic 39, 3, 0, 99), (99, .return_, 1, 0, 100)]
theorem kPart_init_1 : bOK cX5_init 6 pPart_init_1 = true := by decide +kernel
def pPart_init : List BR := (pPart_init_0 ++ pPart_init_1)
theorem kPart_init : bOK cX5_init 6 pPart_init = true := (bOK_app kPart_init_0 kPart_init_1)
def fPart_init_j91 (a0 : Nat) (M : Mm) (n : Nat) : Option ((Unit ⊕ Nat) × Mm × Nat) :=
  fgR 5 504 (some a0) M fun v1 =>
  bdW (fAr_fill v1 (-1) M) fun v2 M3 =>
  some (.inl (), M3, n)
theorem wPart_init_j91 {X : MC} {G : GE} {n0 : Nat} (C : CX X G RX5 cX5_init pPart_init 6 none n0) (htab : ∀ z ∈ X.2.2.2.2.2.2.2.2.exceptionTable.toList, False) (hin : X.2.2.2.2.2.2.2.1.name = "<init>") {σ : Sg} (a0 : Nat) (M : Mm) (n : Nat) : JS X G 6 300 0 n0 (EM X G n0 3 300 (eC rvU σ)) (fPart_init_j91 a0 M n) (σ, M, n) 91 [(0, .inr (.inl (some a0)))] [] := by
  unfold fPart_init_j91
  refine s_blk C 49 1 [] (pc' := 92) (lv' := []) (st' := [.inr (.inl (some a0))]) rfl ?_
  refine s_gR C 50 rfl fl_X5_18 rfl rfl (fun v1 => ?_)
  refine s_blk C 51 1 [] (pc' := 96) (lv' := []) (st' := [.inl (-1), .inr (.inl v1)]) rfl ?_
  refine s_WU (CE_EM _ _ _ _ _ _) (st := []) (fun o ho => j_callS (As := [.inr (.inl v1), .inl (-1)]) (st := []) C 52 rfl mf_Ar_fill ml_X5_39 rfl (by decide) (by decide) (Nat.le_refl _) rfl (cAr_fill (CX_tr C) σ M n v1 (-1) o ho)) (fun v2 M3 => ?_)
  exact s_vret C 53 rfl rfl
def fPart_init_b50 (a0 : Nat) (k50 : Option Nat → Int32 → Int32 → Mm → Nat → Option ((Unit ⊕ Nat) × Mm × Nat)) (r2 : Option Nat) (x3 : Int32) (x5 : Int32) (M : Mm) (n : Nat) : Option ((Unit ⊕ Nat) × Mm × Nat) :=
  fgI 5 501 (some a0) M fun v1 =>
  if v1 ≤ x5 then
    fPart_init_j91 a0 M n
  else
    fgR 5 502 (some a0) M fun v2 =>
    aln v2 M fun v3 =>
    if v3 ≤ x5 then
      fPart_init_j91 a0 M n
    else
      fgR 5 502 (some a0) M fun v4 =>
      rk 1 r2 M fun a5 =>
      bdR (fBytes_at a5 (x3 + x5) M) fun v8 =>
      asB v4 x5 ((v8).toInt8.toInt32) M fun M9 =>
      k50 r2 x3 (x5 + 1) M9 n
theorem wPart_init_b50 {X : MC} {G : GE} {n0 : Nat} (C : CX X G RX5 cX5_init pPart_init 6 none n0) (htab : ∀ z ∈ X.2.2.2.2.2.2.2.2.exceptionTable.toList, False) (hin : X.2.2.2.2.2.2.2.1.name = "<init>") {σ : Sg} (a0 : Nat) (k50 : Option Nat → Int32 → Int32 → Mm → Nat → Option ((Unit ⊕ Nat) × Mm × Nat)) (H50 : ∀ (r2 : Option Nat) (x3 : Int32) (x5 : Int32) (M : Mm) (n : Nat), JS X G 6 300 0 n0 (EM X G n0 3 300 (eC rvU σ)) (k50 r2 x3 x5 M n) (σ, M, n) 50 [(0, .inr (.inl (some a0))), (2, .inr (.inl r2)), (3, .inl x3), (5, .inl x5)] []) (r2 : Option Nat) (x3 : Int32) (x5 : Int32) (M : Mm) (n : Nat) : JS X G 6 300 0 n0 (EM X G n0 3 300 (eC rvU σ)) (fPart_init_b50 a0 k50 r2 x3 x5 M n) (σ, M, n) 50 [(0, .inr (.inl (some a0))), (2, .inr (.inl r2)), (3, .inl x3), (5, .inl x5)] [] := by
  unfold fPart_init_b50
  refine s_blk C 28 2 [0, 2, 3, 5] (pc' := 53) (lv' := [(0, .inr (.inl (some a0))), (2, .inr (.inl r2)), (3, .inl x3), (5, .inl x5)]) (st' := [.inr (.inl (some a0)), .inl x5]) rfl ?_
  refine s_gI C 30 rfl fl_X5_30 rfl rfl (fun v1 => ?_)
  refine s_icge C 31 rfl (fun _ => ?_) (fun _ => ?_)
  · refine s_blk C 0 0 [0] (pc' := 91) (lv' := [(0, .inr (.inl (some a0)))]) (st' := []) rfl ?_
    exact wPart_init_j91 C htab hin a0 _ _
  refine s_blk C 32 2 [0, 2, 3, 5] (pc' := 62) (lv' := [(0, .inr (.inl (some a0))), (2, .inr (.inl r2)), (3, .inl x3), (5, .inl x5)]) (st' := [.inr (.inl (some a0)), .inl x5]) rfl ?_
  refine s_gR C 34 rfl fl_X5_9 rfl rfl (fun v2 => ?_)
  refine s_len C 35 rfl (fun v3 => ?_)
  refine s_icge C 36 rfl (fun _ => ?_) (fun _ => ?_)
  · refine s_blk C 0 0 [0] (pc' := 91) (lv' := [(0, .inr (.inl (some a0)))]) (st' := []) rfl ?_
    exact wPart_init_j91 C htab hin a0 _ _
  refine s_blk C 37 1 [0, 2, 3, 5] (pc' := 70) (lv' := [(0, .inr (.inl (some a0))), (2, .inr (.inl r2)), (3, .inl x3), (5, .inl x5)]) (st' := [.inr (.inl (some a0))]) rfl ?_
  refine s_gR C 38 rfl fl_X5_9 rfl rfl (fun v4 => ?_)
  refine s_blk C 39 5 [0, 2, 3, 5] (pc' := 80) (lv' := [(0, .inr (.inl (some a0))), (2, .inr (.inl r2)), (3, .inl x3), (5, .inl x5)]) (st' := [.inl (x3 + x5), .inr (.inl r2), .inl x5, .inr (.inl v4)]) rfl ?_
  refine s_rk (fun a5 ha6 hk7 => ?_)
  subst ha6
  refine s_RI (CE_EM _ _ _ _ _ _) (st := [.inl x5, .inr (.inl v4)]) (fun o ho => j_callV (As := [.inl (x3 + x5)]) (st := [.inl x5, .inr (.inl v4)]) (b := a5) C 44 rfl mf_Bytes_at ml_X5_33 rfl (recv_K C (by decide) (by decide) rfl hk7) (by decide) (by decide) (Nat.le_refl _) rfl (cBytes_at (CX_tr C) σ M n a5 (x3 + x5) o ho)) (fun v8 => ?_)
  refine s_blk C 45 1 [0, 2, 3, 5] (pc' := 84) (lv' := [(0, .inr (.inl (some a0))), (2, .inr (.inl (some a5))), (3, .inl x3), (5, .inl x5)]) (st' := [.inl ((v8).toInt8.toInt32), .inl x5, .inr (.inl v4)]) rfl ?_
  refine s_stB C 46 rfl (fun M9 _ => ?_)
  refine s_blk C 47 2 [0, 2, 3, 5] (pc' := 50) (lv' := [(0, .inr (.inl (some a0))), (2, .inr (.inl (some a5))), (3, .inl x3), (5, .inl (x5 + 1))]) (st' := []) rfl ?_
  exact H50 _ _ _ _ _
def fPart_init_l50 (a0 : Nat) (fu : Nat) : Option Nat → Int32 → Int32 → Mm → Nat → Option ((Unit ⊕ Nat) × Mm × Nat) := Nat.rec (fun r2 x3 x5 M n => none) (fun _ k => fPart_init_b50 a0 k) fu
theorem wPart_init_l50 {X : MC} {G : GE} {n0 : Nat} (C : CX X G RX5 cX5_init pPart_init 6 none n0) (htab : ∀ z ∈ X.2.2.2.2.2.2.2.2.exceptionTable.toList, False) (hin : X.2.2.2.2.2.2.2.1.name = "<init>") {σ : Sg} (a0 : Nat) : ∀ (fu : Nat) (r2 : Option Nat) (x3 : Int32) (x5 : Int32) (M : Mm) (n : Nat), JS X G 6 300 0 n0 (EM X G n0 3 300 (eC rvU σ)) (fPart_init_l50 a0 fu r2 x3 x5 M n) (σ, M, n) 50 [(0, .inr (.inl (some a0))), (2, .inr (.inl r2)), (3, .inl x3), (5, .inl x5)] [] := by
  intro fu
  induction fu with
  | zero => intro r2 x3 x5 M n; exact s_none
  | succ fu ih => intro r2 x3 x5 M n; exact wPart_init_b50 C htab hin a0 (fPart_init_l50 a0 fu) ih _ _ _ _ _
def fPart_init (a0 : Nat) (x1 : Int32) (r2 : Option Nat) (x3 : Int32) (x4 : Int32) (M : Mm) (n : Nat) : Option ((Unit ⊕ Nat) × Mm × Nat) :=
  nwA 20 300 6 M n fun y1 M2 n3 =>
  fpR 5 502 (some a0) y1 M2 fun M4 =>
  nwA 20 300 10 M4 n3 fun y5 M6 n7 =>
  fpR 5 503 (some a0) y5 M6 fun M8 =>
  nwA 21 300 5 M8 n7 fun y9 M10 n11 =>
  fpR 5 504 (some a0) y9 M10 fun M12 =>
  nwA 22 300 5 M12 n11 fun y13 M14 n15 =>
  fpR 5 505 (some a0) y13 M14 fun M16 =>
  fpI 5 500 (some a0) x1 M16 fun M17 =>
  fpI 5 501 (some a0) (x4 - x3) M17 fun M18 =>
  fPart_init_l50 a0 FU r2 x3 0 M18 n15
theorem wPart_init {X : MC} {G : GE} {n0 : Nat} (C : CX X G RX5 cX5_init pPart_init 6 none n0) (htab : ∀ z ∈ X.2.2.2.2.2.2.2.2.exceptionTable.toList, False) (hin : X.2.2.2.2.2.2.2.1.name = "<init>") {σ : Sg} (a0 : Nat) (x1 : Int32) (r2 : Option Nat) (x3 : Int32) (x4 : Int32) (M : Mm) (n : Nat) : JS X G 6 300 0 n0 (EM X G n0 3 300 (eC rvU σ)) (fPart_init a0 x1 r2 x3 x4 M n) (σ, M, n) 0 [(0, .inr (.inl (some a0))), (1, .inl x1), (2, .inr (.inl r2)), (3, .inl x3), (4, .inl x4)] [] := by
  unfold fPart_init
  refine s_blk C 0 1 [0, 1, 2, 3, 4] (pc' := 1) (lv' := [(0, .inr (.inl (some a0))), (1, .inl x1), (2, .inr (.inl r2)), (3, .inl x3), (4, .inl x4)]) (st' := [.inr (.inl (some a0))]) rfl ?_
  refine s_sup C (CE_EM _ _ _ _ _ _) 1 rfl ml_X5_3 (by decide) rfl ?_
  refine s_blk C 2 2 [0, 1, 2, 3, 4] (pc' := 7) (lv' := [(0, .inr (.inl (some a0))), (1, .inl x1), (2, .inr (.inl r2)), (3, .inl x3), (4, .inl x4)]) (st' := [.inl 6, .inr (.inl (some a0))]) rfl ?_
  refine s_newB C (CE_EM _ _ _ _ _ _) 4 rfl (by decide) (by decide) (fun y1 M2 n3 _ _ => ?_)
  refine s_pR C 5 rfl fl_X5_9 fp_X5_5_2 (fun _ => hin) rfl rfl rfl (fun M4 _ => ?_)
  refine s_blk C 6 2 [0, 1, 2, 3, 4] (pc' := 15) (lv' := [(0, .inr (.inl (some a0))), (1, .inl x1), (2, .inr (.inl r2)), (3, .inl x3), (4, .inl x4)]) (st' := [.inl 10, .inr (.inl (some a0))]) rfl ?_
  refine s_newB C (CE_EM _ _ _ _ _ _) 8 rfl (by decide) (by decide) (fun y5 M6 n7 _ _ => ?_)
  refine s_pR C 9 rfl fl_X5_15 fp_X5_5_3 (fun _ => hin) rfl rfl rfl (fun M8 _ => ?_)
  refine s_blk C 10 2 [0, 1, 2, 3, 4] (pc' := 22) (lv' := [(0, .inr (.inl (some a0))), (1, .inl x1), (2, .inr (.inl r2)), (3, .inl x3), (4, .inl x4)]) (st' := [.inl 5, .inr (.inl (some a0))]) rfl ?_
  refine s_newI C (CE_EM _ _ _ _ _ _) 12 rfl (by decide) (by decide) (fun y9 M10 n11 _ _ => ?_)
  refine s_pR C 13 rfl fl_X5_18 fp_X5_5_4 (fun _ => hin) rfl rfl rfl (fun M12 _ => ?_)
  refine s_blk C 14 2 [0, 1, 2, 3, 4] (pc' := 29) (lv' := [(0, .inr (.inl (some a0))), (1, .inl x1), (2, .inr (.inl r2)), (3, .inl x3), (4, .inl x4)]) (st' := [.inl 5, .inr (.inl (some a0))]) rfl ?_
  refine s_newZ C (CE_EM _ _ _ _ _ _) 16 rfl (by decide) (by decide) (fun y13 M14 n15 _ _ => ?_)
  refine s_pR C 17 rfl fl_X5_22 fp_X5_5_5 (fun _ => hin) rfl rfl rfl (fun M16 _ => ?_)
  refine s_blk C 18 2 [0, 2, 3, 4] (pc' := 36) (lv' := [(0, .inr (.inl (some a0))), (2, .inr (.inl r2)), (3, .inl x3), (4, .inl x4)]) (st' := [.inl x1, .inr (.inl (some a0))]) rfl ?_
  refine s_pI C 20 rfl fl_X5_26 fp_X5_5_0 (fun _ => hin) rfl rfl (fun M17 _ => ?_)
  refine s_blk C 21 4 [0, 2, 3] (pc' := 44) (lv' := [(0, .inr (.inl (some a0))), (2, .inr (.inl r2)), (3, .inl x3)]) (st' := [.inl (x4 - x3), .inr (.inl (some a0))]) rfl ?_
  refine s_pI C 25 rfl fl_X5_30 fp_X5_5_1 (fun _ => hin) rfl rfl (fun M18 _ => ?_)
  refine s_blk C 26 2 [0, 2, 3, 5] (pc' := 50) (lv' := [(0, .inr (.inl (some a0))), (2, .inr (.inl r2)), (3, .inl x3), (5, .inl 0)]) (st' := []) rfl ?_
  exact wPart_init_l50 C htab hin a0 FU _ _ _ _ _
theorem cPart_init {l : Launch} {G : GE} (htr : l.stackTraces = false) (σ : Sg) (M : Mm) (n : Nat) (a0 : Nat) (x1 : Int32) (r2 : Option Nat) (x3 : Int32) (x4 : Int32) : ∀ o, fPart_init a0 x1 r2 x3 x4 M n = some o → MetX l G yX5_init cX5_init 6 none 3 300 [.inr (.inl (some a0)), .inl x1, .inr (.inl r2), .inl x3, .inl x4] (σ, M, n) ((eC rvU σ) o) :=
  c_ofX (by decide) kPart_init htr rfl rfl fun X _ hin C htab => wPart_init C htab hin a0 x1 r2 x3 x4 _ _
def pAs_newLength : List BR := [(0, .iload_n 0, 1, 0, 1), (1, .iload_n 1, 1, 0, 2), (2, .iload_n 2, 1, 0, 3), (3, .invokestatic 194, 3, 0, 6), (6, .iadd, 1, 0, 7), (7, .istore_n 3, 1, 0, 8), (8, .iconst 0, 1, 0, 9), (9, .iload_n 3, 1, 0, 10), (10, .if_icmp .ge (11), 3, 0, 21), (13, .iload_n 3, 1, 0, 14), (14, .ldc 200, 2, 0, 16), (16, .if_icmp .gt (5), 3, 0, 21), (19, .iload_n 3, 1, 0, 20), (20, .ireturn, 1, 0, 21), (21, .iload_n 0, 1, 0, 22), (22, .iload_n 1, 1, 0, 23), (23, .invokestatic 201, 3, 0, 26), (26, .ireturn, 1, 0, 27)]
theorem kAs_newLength : bOK cJ8_newLength_cabcc 4 pAs_newLength = true := by decide +kernel
def fAs_newLength_j21 (x0 : Int32) (x1 : Int32) : Option (Int32) :=
  none
theorem wAs_newLength_j21 {X : MC} {G : GE} {n0 : Nat} (C : CX X G RJ8 cJ8_newLength_cabcc pAs_newLength 4 (some .int) n0) (htab : ∀ z ∈ X.2.2.2.2.2.2.2.2.exceptionTable.toList, False) {σ : Sg} {M : Mm} {n : Nat} (x0 : Int32) (x1 : Int32) : JS X G 4 300 0 n0 (EM X G n0 2 300 (eR rvI σ M n)) (fAs_newLength_j21 x0 x1) (σ, M, n) 21 [(0, .inl x0), (1, .inl x1)] [] := by
  unfold fAs_newLength_j21
  refine s_blk C 14 2 [] (pc' := 23) (lv' := []) (st' := [.inl x1, .inl x0]) rfl ?_
  exact s_none
def fAs_newLength (x0 : Int32) (x1 : Int32) (x2 : Int32) : Option (Int32) :=
  if (x0 + (if x1 < x2 then x2 else x1)) ≤ 0 then
    fAs_newLength_j21 x0 x1
  else
    if 2147483639 < (x0 + (if x1 < x2 then x2 else x1)) then
      fAs_newLength_j21 x0 x1
    else
      some (x0 + (if x1 < x2 then x2 else x1))
theorem wAs_newLength {X : MC} {G : GE} {n0 : Nat} (C : CX X G RJ8 cJ8_newLength_cabcc pAs_newLength 4 (some .int) n0) (htab : ∀ z ∈ X.2.2.2.2.2.2.2.2.exceptionTable.toList, False) {σ : Sg} {M : Mm} {n : Nat} (x0 : Int32) (x1 : Int32) (x2 : Int32) : JS X G 4 300 0 n0 (EM X G n0 2 300 (eR rvI σ M n)) (fAs_newLength x0 x1 x2) (σ, M, n) 0 [(0, .inl x0), (1, .inl x1), (2, .inl x2)] [] := by
  unfold fAs_newLength
  refine s_blk C 0 3 [0, 1] (pc' := 3) (lv' := [(0, .inl x0), (1, .inl x1)]) (st' := [.inl x2, .inl x1, .inl x0]) rfl ?_
  refine s_max C (CE_EM _ _ _ _ _ _) 3 rfl ml_J8_194 (by decide) rfl ?_
  refine s_blk C 4 4 [0, 1, 3] (pc' := 10) (lv' := [(0, .inl x0), (1, .inl x1), (3, .inl (x0 + (if x1 < x2 then x2 else x1)))]) (st' := [.inl (x0 + (if x1 < x2 then x2 else x1)), .inl 0]) rfl ?_
  refine s_icge C 8 rfl (fun _ => ?_) (fun _ => ?_)
  · refine s_blk C 0 0 [0, 1] (pc' := 21) (lv' := [(0, .inl x0), (1, .inl x1)]) (st' := []) rfl ?_
    exact wAs_newLength_j21 C htab _ _
  refine s_blk C 9 1 [0, 1, 3] (pc' := 14) (lv' := [(0, .inl x0), (1, .inl x1), (3, .inl (x0 + (if x1 < x2 then x2 else x1)))]) (st' := [.inl (x0 + (if x1 < x2 then x2 else x1))]) rfl ?_
  refine s_ldc C 10 rfl cn_J8_200 ?_
  refine s_icgt C 11 rfl (fun _ => ?_) (fun _ => ?_)
  · refine s_blk C 0 0 [0, 1] (pc' := 21) (lv' := [(0, .inl x0), (1, .inl x1)]) (st' := []) rfl ?_
    exact wAs_newLength_j21 C htab _ _
  refine s_blk C 12 1 [] (pc' := 20) (lv' := []) (st' := [.inl (x0 + (if x1 < x2 then x2 else x1))]) rfl ?_
  exact s_iret C 13 rfl rfl
theorem cAs_newLength {l : Launch} {G : GE} (htr : l.stackTraces = false) (σ : Sg) (M : Mm) (n : Nat) (x0 : Int32) (x1 : Int32) (x2 : Int32) : ∀ o, fAs_newLength x0 x1 x2 = some o → MetX l G yJ8_newLength_cabcc cJ8_newLength_cabcc 4 (some .int) 2 300 [.inl x0, .inl x1, .inl x2] (σ, M, n) ((eR rvI σ M n) o) :=
  c_ofX (by decide) kAs_newLength htr rfl rfl fun X _ _ C htab => wAs_newLength C htab x0 x1 x2
def pAr_copyOf2 : List BR := [(0, .aload_n 2, 1, 0, 1), (1, .ldc 110, 2, 0, 3), (3, .if_acmp .ne (10), 3, 0, 13), (6, .iload_n 1, 1, 0, 7), (7, .anewarray 2, 3, 0, 10), (10, .goto (14), 3, 0, 24), (13, .aload_n 2, 1, 0, 14), (14, .invokevirtual 90, 3, 0, 17), (17, .iload_n 1, 1, 0, 18), (18, .invokestatic 95, 3, 0, 21), (21, .checkcast 110, 3, 0, 24), (24, .astore_n 3, 1, 0, 25), (25, .aload_n 0, 1, 0, 26), (26, .iconst 0, 1, 0, 27), (27, .aload_n 3, 1, 0, 28), (28, .iconst 0, 1, 0, 29), (29, .aload_n 0, 1, 0, 30), (30, .arraylength, 1, 0, 31), (31, .iload_n 1, 1, 0, 32), (32, .invokestatic 304, 3, 0, 35), (35, .invokestatic 150, 3, 0, 38), (38, .aload_n 3, 1, 0, 39), (39, .areturn, 1, 0, 40)]
theorem kAr_copyOf2 : bOK cJ7_copyOf_6403c 4 pAr_copyOf2 = true := by decide +kernel
def fAr_copyOf2 (r0 : Option Nat) (x1 : Int32) (M : Mm) (n : Nat) : Option ((Option Nat ⊕ Nat) × Mm × Nat) :=
  nwA 23 300 x1 M n fun y1 M2 n3 =>
  aln r0 M2 fun v4 =>
  acp r0 0 y1 0 (if x1 < v4 then x1 else v4) M2 fun M5 =>
  some (.inl y1, M5, n3)
theorem wAr_copyOf2 {X : MC} {G : GE} {n0 : Nat} (C : CX X G RJ7 cJ7_copyOf_6403c pAr_copyOf2 4 (some (.array (.object "java/lang/Object"))) n0) (htab : ∀ z ∈ X.2.2.2.2.2.2.2.2.exceptionTable.toList, False) {σ : Sg} (r0 : Option Nat) (x1 : Int32) (M : Mm) (n : Nat) : JS X G 4 300 0 n0 (EM X G n0 2 300 (eC rvR σ)) (fAr_copyOf2 r0 x1 M n) (σ, M, n) 0 [(0, .inr (.inl r0)), (1, .inl x1), (2, .inr (.inl (some (gO G))))] [] := by
  unfold fAr_copyOf2
  refine s_blk C 0 1 [0, 1] (pc' := 1) (lv' := [(0, .inr (.inl r0)), (1, .inl x1)]) (st' := [.inr (.inl (some (gO G)))]) rfl ?_
  refine s_ldcC C 1 rfl cw_J7_110 ?_
  refine s_acmpC C 2 rfl ?_
  refine s_blk C 3 1 [0, 1] (pc' := 7) (lv' := [(0, .inr (.inl r0)), (1, .inl x1)]) (st' := [.inl x1]) rfl ?_
  refine s_newP C (CE_EM _ _ _ _ _ _) 4 rfl (Or.inl ⟨rfl, rfl⟩) cw_J7_2 (by decide) (by decide) (fun y1 M2 n3 _ _ => ?_)
  refine s_blk C 5 1 [0, 1] (pc' := 24) (lv' := [(0, .inr (.inl r0)), (1, .inl x1)]) (st' := [.inr (.inl y1)]) rfl ?_
  refine s_blk C 11 6 [1, 3] (pc' := 30) (lv' := [(1, .inl x1), (3, .inr (.inl y1))]) (st' := [.inr (.inl r0), .inl 0, .inr (.inl y1), .inl 0, .inr (.inl r0)]) rfl ?_
  refine s_len C 17 rfl (fun v4 => ?_)
  refine s_blk C 18 1 [3] (pc' := 32) (lv' := [(3, .inr (.inl y1))]) (st' := [.inl x1, .inl v4, .inl 0, .inr (.inl y1), .inl 0, .inr (.inl r0)]) rfl ?_
  refine s_min C (CE_EM _ _ _ _ _ _) 19 rfl ml_J7_304 (by decide) rfl ?_
  refine s_acp C (CE_EM _ _ _ _ _ _) 20 rfl ml_J7_150 (by decide) rfl (fun M5 => ?_)
  refine s_blk C 21 1 [] (pc' := 39) (lv' := []) (st' := [.inr (.inl y1)]) rfl ?_
  exact s_aret (Or.inr ⟨_, rfl⟩) C 22 rfl rfl
theorem cAr_copyOf2 {l : Launch} {G : GE} (htr : l.stackTraces = false) (σ : Sg) (M : Mm) (n : Nat) (r0 : Option Nat) (x1 : Int32) : ∀ o, fAr_copyOf2 r0 x1 M n = some o → MetX l G yJ7_copyOf_6403c cJ7_copyOf_6403c 4 (some (.array (.object "java/lang/Object"))) 2 300 [.inr (.inl r0), .inl x1, .inr (.inl (some (gO G)))] (σ, M, n) ((eC rvR σ) o) :=
  c_ofX (by decide) kAr_copyOf2 htr rfl rfl fun X _ _ C htab => wAr_copyOf2 C htab r0 x1 _ _
def pAr_copyOf1 : List BR := [(0, .aload_n 0, 1, 0, 1), (1, .iload_n 1, 1, 0, 2), (2, .aload_n 0, 1, 0, 3), (3, .invokevirtual 86, 3, 0, 6), (6, .invokestatic 300, 3, 0, 9), (9, .areturn, 1, 0, 10)]
theorem kAr_copyOf1 : bOK cJ7_copyOf_1904c 2 pAr_copyOf1 = true := by decide +kernel
def fAr_copyOf1 (r0 : Option Nat) (x1 : Int32) (M : Mm) (n : Nat) : Option ((Option Nat ⊕ Nat) × Mm × Nat) :=
  rk 23 r0 M fun _ =>
  bdC (fAr_copyOf2 r0 x1 M n) n fun v1 M2 n3 =>
  some (.inl v1, M2, n3)
theorem wAr_copyOf1 {X : MC} {G : GE} {n0 : Nat} (C : CX X G RJ7 cJ7_copyOf_1904c pAr_copyOf1 2 (some (.array (.object "java/lang/Object"))) n0) (htab : ∀ z ∈ X.2.2.2.2.2.2.2.2.exceptionTable.toList, False) {σ : Sg} (r0 : Option Nat) (x1 : Int32) (M : Mm) (n : Nat) : JS X G 2 300 0 n0 (EM X G n0 3 300 (eC rvR σ)) (fAr_copyOf1 r0 x1 M n) (σ, M, n) 0 [(0, .inr (.inl r0)), (1, .inl x1)] [] := by
  unfold fAr_copyOf1
  refine s_blk C 0 3 [] (pc' := 3) (lv' := []) (st' := [.inr (.inl r0), .inl x1, .inr (.inl r0)]) rfl ?_
  refine s_getC C (CE_EM _ _ _ _ _ _) 3 rfl ml_J7_86 (by decide) rfl ?_
  refine s_CR C htab (st := []) (fun o ho => j_callS (As := [.inr (.inl r0), .inl x1, .inr (.inl (some (gO G)))]) (st := []) C 4 rfl mf_Ar_copyOf2 ml_J7_300 rfl (by decide) (by decide) (Nat.le_refl _) rfl (cAr_copyOf2 (CX_tr C) σ M n r0 x1 o ho)) (fun v1 M2 n3 _ => ?_)
  exact s_aret (Or.inr ⟨_, rfl⟩) C 5 rfl rfl
theorem cAr_copyOf1 {l : Launch} {G : GE} (htr : l.stackTraces = false) (σ : Sg) (M : Mm) (n : Nat) (r0 : Option Nat) (x1 : Int32) : ∀ o, fAr_copyOf1 r0 x1 M n = some o → MetX l G yJ7_copyOf_1904c cJ7_copyOf_1904c 2 (some (.array (.object "java/lang/Object"))) 3 300 [.inr (.inl r0), .inl x1] (σ, M, n) ((eC rvR σ) o) :=
  c_ofX (by decide) kAr_copyOf1 htr rfl rfl fun X _ _ C htab => wAr_copyOf1 C htab r0 x1 _ _
def pAl_grow1 : List BR := [(0, .aload_n 0, 1, 0, 1), (1, .getfield 9, 3, 0, 4), (4, .arraylength, 1, 0, 5), (5, .istore_n 2, 1, 0, 6), (6, .iload_n 2, 1, 0, 7), (7, .ifCond .gt (13), 3, 0, 20), (10, .aload_n 0, 1, 0, 11), (11, .getfield 9, 3, 0, 14), (14, .getstatic 39, 3, 0, 17), (17, .if_acmp .eq (28), 3, 0, 45), (20, .iload_n 2, 1, 0, 21), (21, .iload_n 1, 1, 0, 22), (22, .iload_n 2, 1, 0, 23), (23, .isub, 1, 0, 24), (24, .iload_n 2, 1, 0, 25), (25, .iconst 1, 1, 1, 26), (26, .ishr, 1, 0, 27), (27, .invokestatic 73, 3, 0, 30), (30, .istore_n 3, 1, 0, 31), (31, .aload_n 0, 1, 0, 32), (32, .aload_n 0, 1, 0, 33), (33, .getfield 9, 3, 0, 36), (36, .iload_n 3, 1, 0, 37), (37, .invokestatic 66, 3, 0, 40), (40, .dup_x1, 1, 0, 41), (41, .putfield 9, 3, 0, 44), (44, .areturn, 1, 0, 45), (45, .aload_n 0, 1, 0, 46), (46, .bipush 10, 2, 10, 48), (48, .iload_n 1, 1, 0, 49), (49, .invokestatic 79, 3, 0, 52), (52, .anewarray 7, 3, 0, 55), (55, .dup_x1, 1, 0, 56), (56, .putfield 9, 3, 0, 59), (59, .areturn, 1, 0, 60)]
theorem kAl_grow1 : bOK cJx4a65c_grow_92f84 4 pAl_grow1 = true := by decide +kernel
def fAl_grow1_j20 (a0 : Nat) (x1 : Int32) (x2 : Int32) (M : Mm) (n : Nat) : Option ((Option Nat ⊕ Nat) × Mm × Nat) :=
  bdR (fAs_newLength x2 (x1 - x2) (x2 >>> (1 &&& 31))) fun v1 =>
  fgR 12 1201 (some a0) M fun v2 =>
  bdC (fAr_copyOf1 v2 v1 M n) n fun v3 M4 n5 =>
  fpR 12 1201 (some a0) v3 M4 fun M6 =>
  some (.inl v3, M6, n5)
theorem wAl_grow1_j20 {X : MC} {G : GE} {n0 : Nat} (C : CX X G RJx4a65c cJx4a65c_grow_92f84 pAl_grow1 4 (some (.array (.object "java/lang/Object"))) n0) (htab : ∀ z ∈ X.2.2.2.2.2.2.2.2.exceptionTable.toList, False) {σ : Sg} (a0 : Nat) (x1 : Int32) (x2 : Int32) (M : Mm) (n : Nat) : JS X G 4 300 0 n0 (EM X G n0 4 300 (eC rvR σ)) (fAl_grow1_j20 a0 x1 x2 M n) (σ, M, n) 20 [(0, .inr (.inl (some a0))), (1, .inl x1), (2, .inl x2)] [] := by
  unfold fAl_grow1_j20
  refine s_blk C 10 7 [0] (pc' := 27) (lv' := [(0, .inr (.inl (some a0)))]) (st' := [.inl (x2 >>> (1 &&& 31)), .inl (x1 - x2), .inl x2]) rfl ?_
  refine s_RI (CE_EM _ _ _ _ _ _) (st := []) (fun o ho => j_callS (As := [.inl x2, .inl (x1 - x2), .inl (x2 >>> (1 &&& 31))]) (st := []) C 17 rfl mf_As_newLength ml_Jx4a65c_73 rfl (by decide) (by decide) (Nat.le_refl _) rfl (cAs_newLength (CX_tr C) σ M n x2 (x1 - x2) (x2 >>> (1 &&& 31)) o ho)) (fun v1 => ?_)
  refine s_blk C 18 3 [3] (pc' := 33) (lv' := [(3, .inl v1)]) (st' := [.inr (.inl (some a0)), .inr (.inl (some a0))]) rfl ?_
  refine s_gR C 21 rfl fl_Jx4a65c_9 rfl rfl (fun v2 => ?_)
  refine s_blk C 22 1 [] (pc' := 37) (lv' := []) (st' := [.inl v1, .inr (.inl v2), .inr (.inl (some a0))]) rfl ?_
  refine s_CR C htab (st := [.inr (.inl (some a0))]) (fun o ho => j_callS (As := [.inr (.inl v2), .inl v1]) (st := [.inr (.inl (some a0))]) C 23 rfl mf_Ar_copyOf1 ml_Jx4a65c_66 rfl (by decide) (by decide) (Nat.le_refl _) rfl (cAr_copyOf1 (CX_tr C) σ M n v2 v1 o ho)) (fun v3 M4 n5 _ => ?_)
  refine s_blk C 24 1 [] (pc' := 41) (lv' := []) (st' := [.inr (.inl v3), .inr (.inl (some a0)), .inr (.inl v3)]) rfl ?_
  refine s_pR C 25 rfl fl_Jx4a65c_9 fp_Jx4a65c_12_1 (fun h => Bool.noConfusion h) rfl rfl rfl (fun M6 _ => ?_)
  exact s_aret (Or.inr ⟨_, rfl⟩) C 26 rfl rfl
def fAl_grow1 (a0 : Nat) (x1 : Int32) (M : Mm) (n : Nat) : Option ((Option Nat ⊕ Nat) × Mm × Nat) :=
  fgR 12 1201 (some a0) M fun v1 =>
  aln v1 M fun v2 =>
  if 0 < v2 then
    fAl_grow1_j20 a0 x1 v2 M n
  else
    fgR 12 1201 (some a0) M fun v3 =>
    if v3 = (some (mL M 0)) then
      nwA 23 300 (if 10 < x1 then x1 else 10) M n fun y4 M5 n6 =>
      fpR 12 1201 (some a0) y4 M5 fun M7 =>
      some (.inl y4, M7, n6)
    else
      fAl_grow1_j20 a0 x1 v2 M n
theorem wAl_grow1 {X : MC} {G : GE} {n0 : Nat} (C : CX X G RJx4a65c cJx4a65c_grow_92f84 pAl_grow1 4 (some (.array (.object "java/lang/Object"))) n0) (htab : ∀ z ∈ X.2.2.2.2.2.2.2.2.exceptionTable.toList, False) {σ : Sg} (a0 : Nat) (x1 : Int32) (M : Mm) (n : Nat) : JS X G 4 300 0 n0 (EM X G n0 4 300 (eC rvR σ)) (fAl_grow1 a0 x1 M n) (σ, M, n) 0 [(0, .inr (.inl (some a0))), (1, .inl x1)] [] := by
  unfold fAl_grow1
  refine s_blk C 0 1 [0, 1] (pc' := 1) (lv' := [(0, .inr (.inl (some a0))), (1, .inl x1)]) (st' := [.inr (.inl (some a0))]) rfl ?_
  refine s_gR C 1 rfl fl_Jx4a65c_9 rfl rfl (fun v1 => ?_)
  refine s_len C 2 rfl (fun v2 => ?_)
  refine s_blk C 3 2 [0, 1, 2] (pc' := 7) (lv' := [(0, .inr (.inl (some a0))), (1, .inl x1), (2, .inl v2)]) (st' := [.inl v2]) rfl ?_
  refine s_igt C 5 rfl (fun _ => ?_) (fun _ => ?_)
  · exact wAl_grow1_j20 C htab a0 _ _ _ _
  refine s_blk C 6 1 [0, 1, 2] (pc' := 11) (lv' := [(0, .inr (.inl (some a0))), (1, .inl x1), (2, .inl v2)]) (st' := [.inr (.inl (some a0))]) rfl ?_
  refine s_gR C 7 rfl fl_Jx4a65c_9 rfl rfl (fun v3 => ?_)
  refine s_getD C 8 rfl fs_Jx4a65c_39 ?_
  refine s_acmpeq C 9 rfl ?_ ?_
  · refine s_blk C 27 3 [] (pc' := 49) (lv' := []) (st' := [.inl x1, .inl 10, .inr (.inl (some a0))]) rfl ?_
    refine s_max C (CE_EM _ _ _ _ _ _) 30 rfl ml_Jx4a65c_79 (by decide) rfl ?_
    refine s_newP C (CE_EM _ _ _ _ _ _) 31 rfl (Or.inl ⟨rfl, rfl⟩) cw_Jx4a65c_7 (by decide) (by decide) (fun y4 M5 n6 _ _ => ?_)
    refine s_blk C 32 1 [] (pc' := 56) (lv' := []) (st' := [.inr (.inl y4), .inr (.inl (some a0)), .inr (.inl y4)]) rfl ?_
    refine s_pR C 33 rfl fl_Jx4a65c_9 fp_Jx4a65c_12_1 (fun h => Bool.noConfusion h) rfl rfl rfl (fun M7 _ => ?_)
    exact s_aret (Or.inr ⟨_, rfl⟩) C 34 rfl rfl
  exact wAl_grow1_j20 C htab a0 _ _ _ _
theorem cAl_grow1 {l : Launch} {G : GE} (htr : l.stackTraces = false) (σ : Sg) (M : Mm) (n : Nat) (a0 : Nat) (x1 : Int32) : ∀ o, fAl_grow1 a0 x1 M n = some o → MetX l G yJx4a65c_grow_92f84 cJx4a65c_grow_92f84 4 (some (.array (.object "java/lang/Object"))) 4 300 [.inr (.inl (some a0)), .inl x1] (σ, M, n) ((eC rvR σ) o) :=
  c_ofX (by decide) kAl_grow1 htr rfl rfl fun X _ _ C htab => wAl_grow1 C htab a0 x1 _ _
def pAl_grow0 : List BR := [(0, .aload_n 0, 1, 0, 1), (1, .aload_n 0, 1, 0, 2), (2, .getfield 48, 3, 0, 5), (5, .iconst 1, 1, 1, 6), (6, .iadd, 1, 0, 7), (7, .invokevirtual 69, 3, 0, 10), (10, .areturn, 1, 0, 11)]
theorem kAl_grow0 : bOK cJx4a65c_grow_d5877 1 pAl_grow0 = true := by decide +kernel
def fAl_grow0 (a0 : Nat) (M : Mm) (n : Nat) : Option ((Option Nat ⊕ Nat) × Mm × Nat) :=
  fgI 12 1202 (some a0) M fun v1 =>
  rk 12 (some a0) M fun _ =>
  bdC (fAl_grow1 a0 (v1 + 1) M n) n fun v3 M4 n5 =>
  some (.inl v3, M4, n5)
theorem wAl_grow0 {X : MC} {G : GE} {n0 : Nat} (C : CX X G RJx4a65c cJx4a65c_grow_d5877 pAl_grow0 1 (some (.array (.object "java/lang/Object"))) n0) (htab : ∀ z ∈ X.2.2.2.2.2.2.2.2.exceptionTable.toList, False) {σ : Sg} (a0 : Nat) (M : Mm) (n : Nat) : JS X G 1 300 0 n0 (EM X G n0 5 300 (eC rvR σ)) (fAl_grow0 a0 M n) (σ, M, n) 0 [(0, .inr (.inl (some a0)))] [] := by
  unfold fAl_grow0
  refine s_blk C 0 2 [] (pc' := 2) (lv' := []) (st' := [.inr (.inl (some a0)), .inr (.inl (some a0))]) rfl ?_
  refine s_gI C 2 rfl fl_Jx4a65c_48 rfl rfl (fun v1 => ?_)
  refine s_blk C 3 2 [] (pc' := 7) (lv' := []) (st' := [.inl (v1 + 1), .inr (.inl (some a0))]) rfl ?_
  refine s_rks (fun hk2 => ?_)
  refine s_CR C htab (st := []) (fun o ho => j_callV (As := [.inl (v1 + 1)]) (st := []) (b := a0) C 5 rfl mf_Al_grow1 ml_Jx4a65c_69 rfl (recv_K C (by decide) (by decide) rfl hk2) (by decide) (by decide) (Nat.le_refl _) rfl (cAl_grow1 (CX_tr C) σ M n a0 (v1 + 1) o ho)) (fun v3 M4 n5 _ => ?_)
  exact s_aret (Or.inr ⟨_, rfl⟩) C 6 rfl rfl
theorem cAl_grow0 {l : Launch} {G : GE} (htr : l.stackTraces = false) (σ : Sg) (M : Mm) (n : Nat) (a0 : Nat) : ∀ o, fAl_grow0 a0 M n = some o → MetX l G yJx4a65c_grow_d5877 cJx4a65c_grow_d5877 1 (some (.array (.object "java/lang/Object"))) 5 300 [.inr (.inl (some a0))] (σ, M, n) ((eC rvR σ) o) :=
  c_ofX (by decide) kAl_grow0 htr rfl rfl fun X _ _ C htab => wAl_grow0 C htab a0 _ _
def pAl_add2 : List BR := [(0, .iload_n 3, 1, 0, 1), (1, .aload_n 2, 1, 0, 2), (2, .arraylength, 1, 0, 3), (3, .if_icmp .ne (8), 3, 0, 11), (6, .aload_n 0, 1, 0, 7), (7, .invokevirtual 129, 3, 0, 10), (10, .astore_n 2, 1, 0, 11), (11, .aload_n 2, 1, 0, 12), (12, .iload_n 3, 1, 0, 13), (13, .aload_n 1, 1, 0, 14), (14, .aastore, 1, 0, 15), (15, .aload_n 0, 1, 0, 16), (16, .iload_n 3, 1, 0, 17), (17, .iconst 1, 1, 1, 18), (18, .iadd, 1, 0, 19), (19, .putfield 48, 3, 0, 22), (22, .return_, 1, 0, 23)]
theorem kAl_add2 : bOK cJx4a65c_add_72be8 4 pAl_add2 = true := by decide +kernel
def fAl_add2_j11 (a0 : Nat) (r1 : Option Nat) (r2 : Option Nat) (x3 : Int32) (M : Mm) (n : Nat) : Option ((Unit ⊕ Nat) × Mm × Nat) :=
  asP 23 r2 x3 r1 M fun M1 =>
  fpI 12 1202 (some a0) (x3 + 1) M1 fun M2 =>
  some (.inl (), M2, n)
theorem wAl_add2_j11 {X : MC} {G : GE} {n0 : Nat} (C : CX X G RJx4a65c cJx4a65c_add_72be8 pAl_add2 4 none n0) (htab : ∀ z ∈ X.2.2.2.2.2.2.2.2.exceptionTable.toList, False) {σ : Sg} (a0 : Nat) (r1 : Option Nat) (r2 : Option Nat) (x3 : Int32) (M : Mm) (n : Nat) : JS X G 4 300 0 n0 (EM X G n0 6 300 (eC rvU σ)) (fAl_add2_j11 a0 r1 r2 x3 M n) (σ, M, n) 11 [(0, .inr (.inl (some a0))), (1, .inr (.inl r1)), (2, .inr (.inl r2)), (3, .inl x3)] [] := by
  unfold fAl_add2_j11
  refine s_blk C 7 3 [0, 3] (pc' := 14) (lv' := [(0, .inr (.inl (some a0))), (3, .inl x3)]) (st' := [.inr (.inl r1), .inl x3, .inr (.inl r2)]) rfl ?_
  refine s_stP C 10 rfl (Or.inl rfl) (fun M1 _ => ?_)
  refine s_blk C 11 4 [] (pc' := 19) (lv' := []) (st' := [.inl (x3 + 1), .inr (.inl (some a0))]) rfl ?_
  refine s_pI C 15 rfl fl_Jx4a65c_48 fp_Jx4a65c_12_2 (fun h => Bool.noConfusion h) rfl rfl (fun M2 _ => ?_)
  exact s_vret C 16 rfl rfl
def fAl_add2 (a0 : Nat) (r1 : Option Nat) (r2 : Option Nat) (x3 : Int32) (M : Mm) (n : Nat) : Option ((Unit ⊕ Nat) × Mm × Nat) :=
  aln r2 M fun v1 =>
  if x3 = v1 then
    rk 12 (some a0) M fun _ =>
    bdC (fAl_grow0 a0 M n) n fun v3 M4 n5 =>
    fAl_add2_j11 a0 r1 v3 x3 M4 n5
  else
    fAl_add2_j11 a0 r1 r2 x3 M n
theorem wAl_add2 {X : MC} {G : GE} {n0 : Nat} (C : CX X G RJx4a65c cJx4a65c_add_72be8 pAl_add2 4 none n0) (htab : ∀ z ∈ X.2.2.2.2.2.2.2.2.exceptionTable.toList, False) {σ : Sg} (a0 : Nat) (r1 : Option Nat) (r2 : Option Nat) (x3 : Int32) (M : Mm) (n : Nat) : JS X G 4 300 0 n0 (EM X G n0 6 300 (eC rvU σ)) (fAl_add2 a0 r1 r2 x3 M n) (σ, M, n) 0 [(0, .inr (.inl (some a0))), (1, .inr (.inl r1)), (2, .inr (.inl r2)), (3, .inl x3)] [] := by
  unfold fAl_add2
  refine s_blk C 0 2 [0, 1, 2, 3] (pc' := 2) (lv' := [(0, .inr (.inl (some a0))), (1, .inr (.inl r1)), (2, .inr (.inl r2)), (3, .inl x3)]) (st' := [.inr (.inl r2), .inl x3]) rfl ?_
  refine s_len C 2 rfl (fun v1 => ?_)
  refine s_icne C 3 rfl (fun _ => ?_) (fun _ => ?_)
  · refine s_blk C 4 1 [0, 1, 3] (pc' := 7) (lv' := [(0, .inr (.inl (some a0))), (1, .inr (.inl r1)), (3, .inl x3)]) (st' := [.inr (.inl (some a0))]) rfl ?_
    refine s_rks (fun hk2 => ?_)
    refine s_CR C htab (st := []) (fun o ho => j_callV (As := []) (st := []) (b := a0) C 5 rfl mf_Al_grow0 ml_Jx4a65c_129 rfl (recv_K C (by decide) (by decide) rfl hk2) (by decide) (by decide) (Nat.le_refl _) rfl (cAl_grow0 (CX_tr C) σ M n a0 o ho)) (fun v3 M4 n5 _ => ?_)
    refine s_blk C 6 1 [0, 1, 2, 3] (pc' := 11) (lv' := [(0, .inr (.inl (some a0))), (1, .inr (.inl r1)), (2, .inr (.inl v3)), (3, .inl x3)]) (st' := []) rfl ?_
    exact wAl_add2_j11 C htab a0 _ _ _ _ _
  exact wAl_add2_j11 C htab a0 _ _ _ _ _
theorem cAl_add2 {l : Launch} {G : GE} (htr : l.stackTraces = false) (σ : Sg) (M : Mm) (n : Nat) (a0 : Nat) (r1 : Option Nat) (r2 : Option Nat) (x3 : Int32) : ∀ o, fAl_add2 a0 r1 r2 x3 M n = some o → MetX l G yJx4a65c_add_72be8 cJx4a65c_add_72be8 4 none 6 300 [.inr (.inl (some a0)), .inr (.inl r1), .inr (.inl r2), .inl x3] (σ, M, n) ((eC rvU σ) o) :=
  c_ofX (by decide) kAl_add2 htr rfl rfl fun X _ _ C htab => wAl_add2 C htab a0 r1 r2 x3 _ _
def pAl_add1 : List BR := [(0, .aload_n 0, 1, 0, 1), (1, .dup, 1, 0, 2), (2, .getfield 63, 3, 0, 5), (5, .iconst 1, 1, 1, 6), (6, .iadd, 1, 0, 7), (7, .putfield 63, 3, 0, 10), (10, .aload_n 0, 1, 0, 11), (11, .aload_n 1, 1, 0, 12), (12, .aload_n 0, 1, 0, 13), (13, .getfield 9, 3, 0, 16), (16, .aload_n 0, 1, 0, 17), (17, .getfield 48, 3, 0, 20), (20, .invokevirtual 131, 3, 0, 23), (23, .iconst 1, 1, 1, 24), (24, .ireturn, 1, 0, 25)]
theorem kAl_add1 : bOK cJx4a65c_add_9ea2d 2 pAl_add1 = true := by decide +kernel
def fAl_add1 (a0 : Nat) (r1 : Option Nat) (M : Mm) (n : Nat) : Option ((Int32 ⊕ Nat) × Mm × Nat) :=
  fgI 12 1200 (some a0) M fun v1 =>
  fpI 12 1200 (some a0) (v1 + 1) M fun M2 =>
  fgR 12 1201 (some a0) M2 fun v3 =>
  fgI 12 1202 (some a0) M2 fun v4 =>
  rk 12 (some a0) M2 fun _ =>
  bdC (fAl_add2 a0 r1 v3 v4 M2 n) n fun v6 M7 n8 =>
  rZ 1 (some (.inl 1, M7, n8))
theorem wAl_add1 {X : MC} {G : GE} {n0 : Nat} (C : CX X G RJx4a65c cJx4a65c_add_9ea2d pAl_add1 2 (some .boolean) n0) (htab : ∀ z ∈ X.2.2.2.2.2.2.2.2.exceptionTable.toList, False) {σ : Sg} (a0 : Nat) (r1 : Option Nat) (M : Mm) (n : Nat) : JS X G 2 300 0 n0 (EM X G n0 7 300 (eC rvI σ)) (fAl_add1 a0 r1 M n) (σ, M, n) 0 [(0, .inr (.inl (some a0))), (1, .inr (.inl r1))] [] := by
  unfold fAl_add1
  refine s_blk C 0 2 [0, 1] (pc' := 2) (lv' := [(0, .inr (.inl (some a0))), (1, .inr (.inl r1))]) (st' := [.inr (.inl (some a0)), .inr (.inl (some a0))]) rfl ?_
  refine s_gI C 2 rfl fl_Jx4a65c_63 rfl rfl (fun v1 => ?_)
  refine s_blk C 3 2 [0, 1] (pc' := 7) (lv' := [(0, .inr (.inl (some a0))), (1, .inr (.inl r1))]) (st' := [.inl (v1 + 1), .inr (.inl (some a0))]) rfl ?_
  refine s_pI C 5 rfl fl_Jx4a65c_63 fp_Jx4a65c_12_0 (fun h => Bool.noConfusion h) rfl rfl (fun M2 _ => ?_)
  refine s_blk C 6 3 [0] (pc' := 13) (lv' := [(0, .inr (.inl (some a0)))]) (st' := [.inr (.inl (some a0)), .inr (.inl r1), .inr (.inl (some a0))]) rfl ?_
  refine s_gR C 9 rfl fl_Jx4a65c_9 rfl rfl (fun v3 => ?_)
  refine s_blk C 10 1 [] (pc' := 17) (lv' := []) (st' := [.inr (.inl (some a0)), .inr (.inl v3), .inr (.inl r1), .inr (.inl (some a0))]) rfl ?_
  refine s_gI C 11 rfl fl_Jx4a65c_48 rfl rfl (fun v4 => ?_)
  refine s_rks (fun hk5 => ?_)
  refine s_CU C htab (st := []) (fun o ho => j_callV (As := [.inr (.inl r1), .inr (.inl v3), .inl v4]) (st := []) (b := a0) C 12 rfl mf_Al_add2 ml_Jx4a65c_131 rfl (recv_K C (by decide) (by decide) rfl hk5) (by decide) (by decide) (Nat.le_refl _) rfl (cAl_add2 (CX_tr C) σ M2 n a0 r1 v3 v4 o ho)) (fun v6 M7 n8 _ => ?_)
  refine s_blk C 13 1 [] (pc' := 24) (lv' := []) (st' := [.inl 1]) rfl ?_
  exact s_zret C 14 rfl rfl
theorem cAl_add1 {l : Launch} {G : GE} (htr : l.stackTraces = false) (σ : Sg) (M : Mm) (n : Nat) (a0 : Nat) (r1 : Option Nat) : ∀ o, fAl_add1 a0 r1 M n = some o → MetX l G yJx4a65c_add_9ea2d cJx4a65c_add_9ea2d 2 (some .boolean) 7 300 [.inr (.inl (some a0)), .inr (.inl r1)] (σ, M, n) ((eC rvI σ) o) :=
  c_ofX (by decide) kAl_add1 htr rfl rfl fun X _ _ C htab => wAl_add1 C htab a0 r1 _ _
def pStore_findOrAdd : List BR := [(0, .aload_n 0, 1, 0, 1), (1, .aload_n 1, 1, 0, 2), (2, .iload_n 2, 1, 0, 3), (3, .iload_n 3, 1, 0, 4), (4, .invokevirtual 75, 3, 0, 7), (7, .astore 4, 2, 0, 9), (9, .aload 4, 2, 0, 11), (11, .ifnonnull (32), 3, 0, 43), (14, .new 48, 3, 0, 17), (17, .dup, 1, 0, 18), (18, .aload_n 0, 1, 0, 19), (19, .getfield 18, 3, 0, 22), (22, .invokevirtual 40, 3, 0, 25), (25, .aload_n 1, 1, 0, 26), (26, .iload_n 2, 1, 0, 27), (27, .iload_n 3, 1, 0, 28), (28, .invokespecial 118, 3, 0, 31), (31, .astore 4, 2, 0, 33), (33, .aload_n 0, 1, 0, 34), (34, .getfield 18, 3, 0, 37), (37, .aload 4, 2, 0, 39), (39, .invokevirtual 121, 3, 0, 42), (42, .pop, 1, 0, 43), (43, .aload 4, 2, 0, 45), (45, .areturn, 1, 0, 46)]
theorem kStore_findOrAdd : bOK cX8_findOrAdd 5 pStore_findOrAdd = true := by decide +kernel
def fStore_findOrAdd (a0 : Nat) (r1 : Option Nat) (x2 : Int32) (x3 : Int32) (M : Mm) (n : Nat) : Option ((Option Nat ⊕ Nat) × Mm × Nat) :=
  rk 8 (some a0) M fun _ =>
  bdR (fStore_find a0 r1 x2 x3 M) fun v2 =>
  ifN v2
    (nwO 5 M n fun y3 M4 n5 =>
    fgR 8 801 (some a0) M4 fun v6 =>
    rk 12 v6 M4 fun a7 =>
    bdR (fAl_size a7 M4) fun v10 =>
    rk 5 y3 M4 fun a11 =>
    bdN (fPart_init a11 v10 r1 x2 x3 M4 n5) n5 fun v14 M15 n16 =>
    fgR 8 801 (some a0) M15 fun v17 =>
    rk 12 v17 M15 fun a18 =>
    bdC (fAl_add1 a18 y3 M15 n16) n16 fun v21 M22 n23 =>
    some (.inl y3, M22, n23))
    (some (.inl v2, M, n))
theorem wStore_findOrAdd {X : MC} {G : GE} {n0 : Nat} (C : CX X G RX8 cX8_findOrAdd pStore_findOrAdd 5 (some (.object "BlobHarbor$Part")) n0) (htab : ∀ z ∈ X.2.2.2.2.2.2.2.2.exceptionTable.toList, False) {σ : Sg} (a0 : Nat) (r1 : Option Nat) (x2 : Int32) (x3 : Int32) (M : Mm) (n : Nat) : JS X G 5 300 0 n0 (EM X G n0 8 300 (eC rvR σ)) (fStore_findOrAdd a0 r1 x2 x3 M n) (σ, M, n) 0 [(0, .inr (.inl (some a0))), (1, .inr (.inl r1)), (2, .inl x2), (3, .inl x3)] [] := by
  unfold fStore_findOrAdd
  refine s_blk C 0 4 [0, 1, 2, 3] (pc' := 4) (lv' := [(0, .inr (.inl (some a0))), (1, .inr (.inl r1)), (2, .inl x2), (3, .inl x3)]) (st' := [.inl x3, .inl x2, .inr (.inl r1), .inr (.inl (some a0))]) rfl ?_
  refine s_rks (fun hk1 => ?_)
  refine s_RR (CE_EM _ _ _ _ _ _) (st := []) (fun o ho => j_callV (As := [.inr (.inl r1), .inl x2, .inl x3]) (st := []) (b := a0) C 4 rfl mf_Store_find ml_X8_75 rfl (recv_K C (by decide) (by decide) rfl hk1) (by decide) (by decide) (Nat.le_refl _) rfl (cStore_find (CX_tr C) σ M n a0 r1 x2 x3 o ho)) (fun v2 => ?_)
  refine s_blk C 5 2 [0, 1, 2, 3, 4] (pc' := 11) (lv' := [(0, .inr (.inl (some a0))), (1, .inr (.inl r1)), (2, .inl x2), (3, .inl x3), (4, .inr (.inl v2))]) (st' := [.inr (.inl v2)]) rfl ?_
  refine s_nonnull C 7 rfl ?_ ?_
  · refine s_new C (CE_EM _ _ _ _ _ _) 8 rfl cl_X8_48 (by decide) (fun y3 M4 n5 _ _ => ?_)
    refine s_blk C 9 2 [0, 1, 2, 3] (pc' := 19) (lv' := [(0, .inr (.inl (some a0))), (1, .inr (.inl r1)), (2, .inl x2), (3, .inl x3)]) (st' := [.inr (.inl (some a0)), .inr (.inl y3), .inr (.inl y3)]) rfl ?_
    refine s_gR C 11 rfl fl_X8_18 rfl rfl (fun v6 => ?_)
    refine s_rk (fun a7 ha8 hk9 => ?_)
    subst ha8
    refine s_RI (CE_EM _ _ _ _ _ _) (st := [.inr (.inl y3), .inr (.inl y3)]) (fun o ho => j_callV (As := []) (st := [.inr (.inl y3), .inr (.inl y3)]) (b := a7) C 12 rfl mf_Al_size ml_X8_40 rfl (recv_K C (by decide) (by decide) rfl hk9) (by decide) (by decide) (Nat.le_refl _) rfl (cAl_size (CX_tr C) σ M4 n5 a7 o ho)) (fun v10 => ?_)
    refine s_blk C 13 3 [0] (pc' := 28) (lv' := [(0, .inr (.inl (some a0)))]) (st' := [.inl x3, .inl x2, .inr (.inl r1), .inl v10, .inr (.inl y3), .inr (.inl y3)]) rfl ?_
    refine s_rk (fun a11 ha12 hk13 => ?_)
    subst ha12
    refine s_NU C htab (st := [.inr (.inl (some a11))]) (fun v M1 n1 ho => j_callI (As := [.inl v10, .inr (.inl r1), .inl x2, .inl x3]) (st := [.inr (.inl (some a11))]) (b := a11) C 16 rfl mf_Part_init (Or.inl ml_X8_118) rfl (by decide) (by decide) (Nat.le_refl _) rfl (cPart_init (CX_tr C) σ M4 n5 a11 v10 r1 x2 x3 _ ho) rfl) (fun v14 M15 n16 _ => ?_)
    refine s_blk C 17 2 [4] (pc' := 34) (lv' := [(4, .inr (.inl (some a11)))]) (st' := [.inr (.inl (some a0))]) rfl ?_
    refine s_gR C 19 rfl fl_X8_18 rfl rfl (fun v17 => ?_)
    refine s_blk C 20 1 [4] (pc' := 39) (lv' := [(4, .inr (.inl (some a11)))]) (st' := [.inr (.inl (some a11)), .inr (.inl v17)]) rfl ?_
    refine s_rk (fun a18 ha19 hk20 => ?_)
    subst ha19
    refine s_CI C htab (st := []) (fun o ho => j_callV (As := [.inr (.inl (some a11))]) (st := []) (b := a18) C 21 rfl mf_Al_add1 ml_X8_121 rfl (recv_K C (by decide) (by decide) rfl hk20) (by decide) (by decide) (Nat.le_refl _) rfl (cAl_add1 (CX_tr C) σ M15 n16 a18 (some a11) o ho)) (fun v21 M22 n23 _ => ?_)
    refine s_blk C 22 2 [] (pc' := 45) (lv' := []) (st' := [.inr (.inl (some a11))]) rfl ?_
    exact s_aret (Or.inl ⟨_, rfl⟩) C 24 rfl rfl
  refine s_blk C 23 1 [] (pc' := 45) (lv' := []) (st' := [.inr (.inl v2)]) rfl ?_
  exact s_aret (Or.inl ⟨_, rfl⟩) C 24 rfl rfl
theorem cStore_findOrAdd {l : Launch} {G : GE} (htr : l.stackTraces = false) (σ : Sg) (M : Mm) (n : Nat) (a0 : Nat) (r1 : Option Nat) (x2 : Int32) (x3 : Int32) : ∀ o, fStore_findOrAdd a0 r1 x2 x3 M n = some o → MetX l G yX8_findOrAdd cX8_findOrAdd 5 (some (.object "BlobHarbor$Part")) 8 300 [.inr (.inl (some a0)), .inr (.inl r1), .inl x2, .inl x3] (σ, M, n) ((eC rvR σ) o) :=
  c_ofX (by decide) kStore_findOrAdd htr rfl rfl fun X _ _ C htab => wStore_findOrAdd C htab a0 r1 x2 x3 _ _

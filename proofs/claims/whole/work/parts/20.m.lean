def pBytes_init : List BR := [(0, .aload_n 0, 1, 0, 1), (1, .invokespecial 3, 3, 0, 4), (4, .aload_n 0, 1, 0, 5), (5, .bipush 40, 2, 40, 7), (7, .newarray .byte, 2, 0, 9), (9, .putfield 9, 3, 0, 12), (12, .return_, 1, 0, 13)]
theorem kBytes_init : bOK cX0_init 1 pBytes_init = true := by decide +kernel
def fBytes_init (a0 : Nat) (M : Mm) (n : Nat) : Option ((Unit ⊕ Nat) × Mm × Nat) :=
  nwA 20 300 40 M n fun r1 M2 n3 =>
  fpR 1 100 (some a0) r1 M2 fun M4 =>
  some (.inl (), M4, n3)
theorem wBytes_init {X : MC} {G : GE} {n0 : Nat} (C : CX X G RX0 cX0_init pBytes_init 1 none n0) (htab : ∀ z ∈ X.2.2.2.2.2.2.2.2.exceptionTable.toList, False) (hin : X.2.2.2.2.2.2.2.1.name = "<init>") {σ : Sg} (a0 : Nat) (M : Mm) (n : Nat) : JS X G 1 300 0 n0 (EM X G n0 2 300 (eC rvU σ)) (fBytes_init a0 M n) (σ, M, n) 0 [(0, .inr (.inl (some a0)))] [] := by
  unfold fBytes_init
  refine s_blk C 0 1 [0] (pc' := 1) (lv' := [(0, .inr (.inl (some a0)))]) (st' := [.inr (.inl (some a0))]) rfl ?_
  refine s_sup C (CE_EM _ _ _ _ _ _) 1 rfl ml_X0_3 (by decide) rfl ?_
  refine s_blk C 2 2 [] (pc' := 7) (lv' := []) (st' := [.inl 40, .inr (.inl (some a0))]) rfl ?_
  refine s_newB C (CE_EM _ _ _ _ _ _) 4 rfl (by decide) (by decide) (fun r1 M2 n3 _ _ => ?_)
  refine s_pR C 5 rfl fl_X0_9 fp_X0_1_0 (fun _ => hin) rfl rfl rfl (fun M4 _ => ?_)
  exact s_vret C 6 rfl rfl
theorem cBytes_init {l : Launch} {G : GE} (htr : l.stackTraces = false) (σ : Sg) (M : Mm) (n : Nat) (a0 : Nat) : ∀ o, fBytes_init a0 M n = some o → MetX l G yX0_init cX0_init 1 none 2 300 [.inr (.inl (some a0))] (σ, M, n) ((eC rvU σ) o) :=
  c_ofX (by decide) kBytes_init htr rfl rfl fun X _ hin C htab => wBytes_init C htab hin a0 _ _
def pBytes_at : List BR := [(0, .iload_n 1, 1, 0, 1), (1, .ifCond .lt (21), 3, 0, 22), (4, .iload_n 1, 1, 0, 5), (5, .aload_n 0, 1, 0, 6), (6, .getfield 9, 3, 0, 9), (9, .arraylength, 1, 0, 10), (10, .if_icmp .ge (12), 3, 0, 22), (13, .aload_n 0, 1, 0, 14), (14, .getfield 9, 3, 0, 17), (17, .iload_n 1, 1, 0, 18), (18, .baload, 1, 0, 19), (19, .goto (4), 3, 0, 23), (22, .iconst 0, 1, 0, 23), (23, .ireturn, 1, 0, 24)]
theorem kBytes_at : bOK cX0_at 2 pBytes_at = true := by decide +kernel
def fBytes_at (a0 : Nat) (x1 : Int32) (M : Mm) : Option (Int32) :=
  if x1 < 0 then
    some 0
  else
    fgR 1 100 (some a0) M fun v1 =>
    aln v1 M fun v2 =>
    if v2 ≤ x1 then
      some 0
    else
      fgR 1 100 (some a0) M fun v3 =>
      alI 20 v3 x1 M fun v4 =>
      some v4
theorem wBytes_at {X : MC} {G : GE} {n0 : Nat} (C : CX X G RX0 cX0_at pBytes_at 2 (some .int) n0) (htab : ∀ z ∈ X.2.2.2.2.2.2.2.2.exceptionTable.toList, False) {σ : Sg} {M : Mm} {n : Nat} (a0 : Nat) (x1 : Int32) : JS X G 2 300 0 n0 (EM X G n0 2 300 (eR rvI σ M n)) (fBytes_at a0 x1 M) (σ, M, n) 0 [(0, .inr (.inl (some a0))), (1, .inl x1)] [] := by
  unfold fBytes_at
  refine s_blk C 0 1 [0, 1] (pc' := 1) (lv' := [(0, .inr (.inl (some a0))), (1, .inl x1)]) (st' := [.inl x1]) rfl ?_
  refine s_ilt C 1 rfl (fun _ => ?_) (fun _ => ?_)
  · refine s_blk C 12 1 [] (pc' := 23) (lv' := []) (st' := [.inl 0]) rfl ?_
    exact s_iret C 13 rfl rfl
  refine s_blk C 2 2 [0, 1] (pc' := 6) (lv' := [(0, .inr (.inl (some a0))), (1, .inl x1)]) (st' := [.inr (.inl (some a0)), .inl x1]) rfl ?_
  refine s_gR C 4 rfl fl_X0_9 rfl rfl (fun v1 => ?_)
  refine s_len C 5 rfl (fun v2 => ?_)
  refine s_icge C 6 rfl (fun _ => ?_) (fun _ => ?_)
  · refine s_blk C 12 1 [] (pc' := 23) (lv' := []) (st' := [.inl 0]) rfl ?_
    exact s_iret C 13 rfl rfl
  refine s_blk C 7 1 [1] (pc' := 14) (lv' := [(1, .inl x1)]) (st' := [.inr (.inl (some a0))]) rfl ?_
  refine s_gR C 8 rfl fl_X0_9 rfl rfl (fun v3 => ?_)
  refine s_blk C 9 1 [] (pc' := 18) (lv' := []) (st' := [.inl x1, .inr (.inl v3)]) rfl ?_
  refine s_ldB C 10 rfl (fun v4 => ?_)
  refine s_blk C 11 1 [] (pc' := 23) (lv' := []) (st' := [.inl v4]) rfl ?_
  exact s_iret C 13 rfl rfl
theorem cBytes_at {l : Launch} {G : GE} (htr : l.stackTraces = false) (σ : Sg) (M : Mm) (n : Nat) (a0 : Nat) (x1 : Int32) : ∀ o, fBytes_at a0 x1 M = some o → MetX l G yX0_at cX0_at 2 (some .int) 2 300 [.inr (.inl (some a0)), .inl x1] (σ, M, n) ((eR rvI σ M n) o) :=
  c_ofX (by decide) kBytes_at htr rfl rfl fun X _ _ C htab => wBytes_at C htab a0 x1
def pBytes_isSame : List BR := [(0, .aload_n 0, 1, 0, 1), (1, .getfield 15, 3, 0, 4), (4, .aload_n 1, 1, 0, 5), (5, .getfield 15, 3, 0, 8), (8, .if_icmp .eq (5), 3, 0, 13), (11, .iconst 0, 1, 0, 12), (12, .ireturn, 1, 0, 13), (13, .iconst 0, 1, 0, 14), (14, .istore_n 2, 1, 0, 15), (15, .iload_n 2, 1, 0, 16), (16, .aload_n 0, 1, 0, 17), (17, .getfield 15, 3, 0, 20), (20, .if_icmp .ge (24), 3, 0, 44), (23, .aload_n 0, 1, 0, 24), (24, .iload_n 2, 1, 0, 25), (25, .invokevirtual 19, 3, 0, 28), (28, .aload_n 1, 1, 0, 29), (29, .iload_n 2, 1, 0, 30), (30, .invokevirtual 19, 3, 0, 33), (33, .if_icmp .eq (5), 3, 0, 38), (36, .iconst 0, 1, 0, 37), (37, .ireturn, 1, 0, 38), (38, .iinc 2 (1), 3, 1, 41), (41, .goto (-26), 3, 0, 15), (44, .iconst 1, 1, 1, 45), (45, .ireturn, 1, 0, 46)]
theorem kBytes_isSame : bOK cX0_isSame 3 pBytes_isSame = true := by decide +kernel
def fBytes_isSame_b15 (a0 : Nat) (k15 : Option Nat → Int32 → Mm → Option (Int32)) (r1 : Option Nat) (x2 : Int32) (M : Mm) : Option (Int32) :=
  fgI 1 101 (some a0) M fun v1 =>
  if v1 ≤ x2 then
    rZ 1 (some 1)
  else
    rk 1 (some a0) M fun _ =>
    bdR (fBytes_at a0 x2 M) fun v3 =>
    rk 1 r1 M fun a4 =>
    bdR (fBytes_at a4 x2 M) fun v7 =>
    if v3 = v7 then
      k15 r1 (x2 + 1) M
    else
      rZ 0 (some 0)
theorem wBytes_isSame_b15 {X : MC} {G : GE} {n0 : Nat} (C : CX X G RX0 cX0_isSame pBytes_isSame 3 (some .boolean) n0) (htab : ∀ z ∈ X.2.2.2.2.2.2.2.2.exceptionTable.toList, False) {σ : Sg} {M : Mm} {n : Nat} {a0 : Nat} (k15 : Option Nat → Int32 → Mm → Option (Int32)) (H15 : ∀ (r1 : Option Nat) (x2 : Int32), JS X G 3 300 0 n0 (EM X G n0 3 300 (eR rvI σ M n)) (k15 r1 x2 M) (σ, M, n) 15 [(0, .inr (.inl (some a0))), (1, .inr (.inl r1)), (2, .inl x2)] []) (r1 : Option Nat) (x2 : Int32) : JS X G 3 300 0 n0 (EM X G n0 3 300 (eR rvI σ M n)) (fBytes_isSame_b15 a0 k15 r1 x2 M) (σ, M, n) 15 [(0, .inr (.inl (some a0))), (1, .inr (.inl r1)), (2, .inl x2)] [] := by
  unfold fBytes_isSame_b15
  refine s_blk C 9 2 [0, 1, 2] (pc' := 17) (lv' := [(0, .inr (.inl (some a0))), (1, .inr (.inl r1)), (2, .inl x2)]) (st' := [.inr (.inl (some a0)), .inl x2]) rfl ?_
  refine s_gI C 11 rfl fl_X0_15 rfl rfl (fun v1 => ?_)
  refine s_icge C 12 rfl (fun _ => ?_) (fun _ => ?_)
  · refine s_blk C 24 1 [] (pc' := 45) (lv' := []) (st' := [.inl 1]) rfl ?_
    exact s_zret C 25 rfl rfl
  refine s_blk C 13 2 [0, 1, 2] (pc' := 25) (lv' := [(0, .inr (.inl (some a0))), (1, .inr (.inl r1)), (2, .inl x2)]) (st' := [.inl x2, .inr (.inl (some a0))]) rfl ?_
  refine s_rks (fun hk2 => ?_)
  refine s_RI (CE_EM _ _ _ _ _ _) (st := []) (fun o ho => j_callV (As := [.inl x2]) (st := []) (b := a0) C 15 rfl mf_Bytes_at ml_X0_19 rfl (recv_K C (by decide) (by decide) rfl hk2) (by decide) (by decide) (Nat.le_refl _) rfl (cBytes_at (CX_tr C) σ M n a0 x2 o ho)) (fun v3 => ?_)
  refine s_blk C 16 2 [0, 1, 2] (pc' := 30) (lv' := [(0, .inr (.inl (some a0))), (1, .inr (.inl r1)), (2, .inl x2)]) (st' := [.inl x2, .inr (.inl r1), .inl v3]) rfl ?_
  refine s_rk (fun a4 ha5 hk6 => ?_)
  subst ha5
  refine s_RI (CE_EM _ _ _ _ _ _) (st := [.inl v3]) (fun o ho => j_callV (As := [.inl x2]) (st := [.inl v3]) (b := a4) C 18 rfl mf_Bytes_at ml_X0_19 rfl (recv_K C (by decide) (by decide) rfl hk6) (by decide) (by decide) (Nat.le_refl _) rfl (cBytes_at (CX_tr C) σ M n a4 x2 o ho)) (fun v7 => ?_)
  refine s_iceq C 19 rfl (fun _ => ?_) (fun _ => ?_)
  · refine s_blk C 22 2 [0, 1, 2] (pc' := 15) (lv' := [(0, .inr (.inl (some a0))), (1, .inr (.inl (some a4))), (2, .inl (x2 + 1))]) (st' := []) rfl ?_
    exact H15 _ _
  refine s_blk C 20 1 [] (pc' := 37) (lv' := []) (st' := [.inl 0]) rfl ?_
  exact s_zret C 21 rfl rfl
def fBytes_isSame_l15 (a0 : Nat) (fu : Nat) : Option Nat → Int32 → Mm → Option (Int32) := Nat.rec (fun r1 x2 M => none) (fun _ k => fBytes_isSame_b15 a0 k) fu
theorem wBytes_isSame_l15 {X : MC} {G : GE} {n0 : Nat} (C : CX X G RX0 cX0_isSame pBytes_isSame 3 (some .boolean) n0) (htab : ∀ z ∈ X.2.2.2.2.2.2.2.2.exceptionTable.toList, False) {σ : Sg} {M : Mm} {n : Nat} {a0 : Nat} : ∀ (fu : Nat) (r1 : Option Nat) (x2 : Int32), JS X G 3 300 0 n0 (EM X G n0 3 300 (eR rvI σ M n)) (fBytes_isSame_l15 a0 fu r1 x2 M) (σ, M, n) 15 [(0, .inr (.inl (some a0))), (1, .inr (.inl r1)), (2, .inl x2)] [] := by
  intro fu
  induction fu with
  | zero => intro r1 x2; exact s_none
  | succ fu ih => intro r1 x2; exact wBytes_isSame_b15 C htab (fBytes_isSame_l15 a0 fu) ih _ _
def fBytes_isSame (a0 : Nat) (r1 : Option Nat) (M : Mm) : Option (Int32) :=
  fgI 1 101 (some a0) M fun v1 =>
  fgI 1 101 r1 M fun v2 =>
  if v1 = v2 then
    fBytes_isSame_l15 a0 FU r1 0 M
  else
    rZ 0 (some 0)
theorem wBytes_isSame {X : MC} {G : GE} {n0 : Nat} (C : CX X G RX0 cX0_isSame pBytes_isSame 3 (some .boolean) n0) (htab : ∀ z ∈ X.2.2.2.2.2.2.2.2.exceptionTable.toList, False) {σ : Sg} {M : Mm} {n : Nat} (a0 : Nat) (r1 : Option Nat) : JS X G 3 300 0 n0 (EM X G n0 3 300 (eR rvI σ M n)) (fBytes_isSame a0 r1 M) (σ, M, n) 0 [(0, .inr (.inl (some a0))), (1, .inr (.inl r1))] [] := by
  unfold fBytes_isSame
  refine s_blk C 0 1 [0, 1] (pc' := 1) (lv' := [(0, .inr (.inl (some a0))), (1, .inr (.inl r1))]) (st' := [.inr (.inl (some a0))]) rfl ?_
  refine s_gI C 1 rfl fl_X0_15 rfl rfl (fun v1 => ?_)
  refine s_blk C 2 1 [0, 1] (pc' := 5) (lv' := [(0, .inr (.inl (some a0))), (1, .inr (.inl r1))]) (st' := [.inr (.inl r1), .inl v1]) rfl ?_
  refine s_gI C 3 rfl fl_X0_15 rfl rfl (fun v2 => ?_)
  refine s_iceq C 4 rfl (fun _ => ?_) (fun _ => ?_)
  · refine s_blk C 7 2 [0, 1, 2] (pc' := 15) (lv' := [(0, .inr (.inl (some a0))), (1, .inr (.inl r1)), (2, .inl 0)]) (st' := []) rfl ?_
    exact wBytes_isSame_l15 C htab FU _ _
  refine s_blk C 5 1 [] (pc' := 12) (lv' := []) (st' := [.inl 0]) rfl ?_
  exact s_zret C 6 rfl rfl
theorem cBytes_isSame {l : Launch} {G : GE} (htr : l.stackTraces = false) (σ : Sg) (M : Mm) (n : Nat) (a0 : Nat) (r1 : Option Nat) : ∀ o, fBytes_isSame a0 r1 M = some o → MetX l G yX0_isSame cX0_isSame 3 (some .boolean) 3 300 [.inr (.inl (some a0)), .inr (.inl r1)] (σ, M, n) ((eR rvI σ M n) o) :=
  c_ofX (by decide) kBytes_isSame htr rfl rfl fun X _ _ C htab => wBytes_isSame C htab a0 r1
def pBytes_append : List BR := [(0, .aload_n 0, 1, 0, 1), (1, .getfield 15, 3, 0, 4), (4, .ifCond .lt (36), 3, 0, 40), (7, .aload_n 0, 1, 0, 8), (8, .getfield 15, 3, 0, 11), (11, .aload_n 0, 1, 0, 12), (12, .getfield 9, 3, 0, 15), (15, .arraylength, 1, 0, 16), (16, .if_icmp .ge (24), 3, 0, 40), (19, .aload_n 0, 1, 0, 20), (20, .getfield 9, 3, 0, 23), (23, .aload_n 0, 1, 0, 24), (24, .getfield 15, 3, 0, 27), (27, .iload_n 1, 1, 0, 28), (28, .i2b, 1, 0, 29), (29, .bastore, 1, 0, 30), (30, .aload_n 0, 1, 0, 31), (31, .dup, 1, 0, 32), (32, .getfield 15, 3, 0, 35), (35, .iconst 1, 1, 1, 36), (36, .iadd, 1, 0, 37), (37, .putfield 15, 3, 0, 40), (40, .return_, 1, 0, 41)]
theorem kBytes_append : bOK cX0_append 2 pBytes_append = true := by decide +kernel
def fBytes_append (a0 : Nat) (x1 : Int32) (M : Mm) : Option (Unit × Mm) :=
  fgI 1 101 (some a0) M fun v1 =>
  if v1 < 0 then
    some ((), M)
  else
    fgI 1 101 (some a0) M fun v2 =>
    fgR 1 100 (some a0) M fun v3 =>
    aln v3 M fun v4 =>
    if v4 ≤ v2 then
      some ((), M)
    else
      fgR 1 100 (some a0) M fun v5 =>
      fgI 1 101 (some a0) M fun v6 =>
      asB v5 v6 ((x1).toInt8.toInt32) M fun M7 =>
      fgI 1 101 (some a0) M7 fun v8 =>
      fpI 1 101 (some a0) (v8 + 1) M7 fun M9 =>
      some ((), M9)
theorem wBytes_append {X : MC} {G : GE} {n0 : Nat} (C : CX X G RX0 cX0_append pBytes_append 2 none n0) (htab : ∀ z ∈ X.2.2.2.2.2.2.2.2.exceptionTable.toList, False) {σ : Sg} {n : Nat} (a0 : Nat) (x1 : Int32) (M : Mm) : JS X G 2 300 0 n0 (EM X G n0 2 300 (eW rvU σ n)) (fBytes_append a0 x1 M) (σ, M, n) 0 [(0, .inr (.inl (some a0))), (1, .inl x1)] [] := by
  unfold fBytes_append
  refine s_blk C 0 1 [0, 1] (pc' := 1) (lv' := [(0, .inr (.inl (some a0))), (1, .inl x1)]) (st' := [.inr (.inl (some a0))]) rfl ?_
  refine s_gI C 1 rfl fl_X0_15 rfl rfl (fun v1 => ?_)
  refine s_ilt C 2 rfl (fun _ => ?_) (fun _ => ?_)
  · exact s_vret C 22 rfl rfl
  refine s_blk C 3 1 [0, 1] (pc' := 8) (lv' := [(0, .inr (.inl (some a0))), (1, .inl x1)]) (st' := [.inr (.inl (some a0))]) rfl ?_
  refine s_gI C 4 rfl fl_X0_15 rfl rfl (fun v2 => ?_)
  refine s_blk C 5 1 [0, 1] (pc' := 12) (lv' := [(0, .inr (.inl (some a0))), (1, .inl x1)]) (st' := [.inr (.inl (some a0)), .inl v2]) rfl ?_
  refine s_gR C 6 rfl fl_X0_9 rfl rfl (fun v3 => ?_)
  refine s_len C 7 rfl (fun v4 => ?_)
  refine s_icge C 8 rfl (fun _ => ?_) (fun _ => ?_)
  · exact s_vret C 22 rfl rfl
  refine s_blk C 9 1 [0, 1] (pc' := 20) (lv' := [(0, .inr (.inl (some a0))), (1, .inl x1)]) (st' := [.inr (.inl (some a0))]) rfl ?_
  refine s_gR C 10 rfl fl_X0_9 rfl rfl (fun v5 => ?_)
  refine s_blk C 11 1 [0, 1] (pc' := 24) (lv' := [(0, .inr (.inl (some a0))), (1, .inl x1)]) (st' := [.inr (.inl (some a0)), .inr (.inl v5)]) rfl ?_
  refine s_gI C 12 rfl fl_X0_15 rfl rfl (fun v6 => ?_)
  refine s_blk C 13 2 [0] (pc' := 29) (lv' := [(0, .inr (.inl (some a0)))]) (st' := [.inl ((x1).toInt8.toInt32), .inl v6, .inr (.inl v5)]) rfl ?_
  refine s_stB C 15 rfl (fun M7 _ => ?_)
  refine s_blk C 16 2 [] (pc' := 32) (lv' := []) (st' := [.inr (.inl (some a0)), .inr (.inl (some a0))]) rfl ?_
  refine s_gI C 18 rfl fl_X0_15 rfl rfl (fun v8 => ?_)
  refine s_blk C 19 2 [] (pc' := 37) (lv' := []) (st' := [.inl (v8 + 1), .inr (.inl (some a0))]) rfl ?_
  refine s_pI C 21 rfl fl_X0_15 fp_X0_1_1 (fun h => Bool.noConfusion h) rfl rfl (fun M9 _ => ?_)
  exact s_vret C 22 rfl rfl
theorem cBytes_append {l : Launch} {G : GE} (htr : l.stackTraces = false) (σ : Sg) (M : Mm) (n : Nat) (a0 : Nat) (x1 : Int32) : ∀ o, fBytes_append a0 x1 M = some o → MetX l G yX0_append cX0_append 2 none 2 300 [.inr (.inl (some a0)), .inl x1] (σ, M, n) ((eW rvU σ n) o) :=
  c_ofX (by decide) kBytes_append htr rfl rfl fun X _ _ C htab => wBytes_append C htab a0 x1 _
def pKeys_asWord : List BR := [(0, .iload_n 0, 1, 0, 1), (1, .invokestatic 9, 3, 0, 4), (4, .istore_n 1, 1, 0, 5), (5, .iload_n 1, 1, 0, 6), (6, .iconst 1, 1, 1, 7), (7, .if_icmp .ne (8), 3, 0, 15), (10, .iload_n 0, 1, 0, 11), (11, .bipush 25, 2, 25, 13), (13, .imul, 1, 0, 14), (14, .ireturn, 1, 0, 15), (15, .iload_n 1, 1, 0, 16), (16, .iconst 2, 1, 2, 17), (17, .if_icmp .ne (9), 3, 0, 26), (20, .iload_n 0, 1, 0, 21), (21, .iconst 5, 1, 5, 22), (22, .imul, 1, 0, 23), (23, .goto (4), 3, 0, 27), (26, .iload_n 0, 1, 0, 27), (27, .ireturn, 1, 0, 28)]
theorem kKeys_asWord : bOK cX4_asWord 2 pKeys_asWord = true := by decide +kernel
def fKeys_asWord (x0 : Int32) : Option (Int32) :=
  bdR (fKeys_lettersOf x0) fun v1 =>
  if v1 = 1 then
    some (x0 * 25)
  else
    if v1 = 2 then
      some (x0 * 5)
    else
      some x0
theorem wKeys_asWord {X : MC} {G : GE} {n0 : Nat} (C : CX X G RX4 cX4_asWord pKeys_asWord 2 (some .int) n0) (htab : ∀ z ∈ X.2.2.2.2.2.2.2.2.exceptionTable.toList, False) {σ : Sg} {M : Mm} {n : Nat} (x0 : Int32) : JS X G 2 300 0 n0 (EM X G n0 3 300 (eR rvI σ M n)) (fKeys_asWord x0) (σ, M, n) 0 [(0, .inl x0)] [] := by
  unfold fKeys_asWord
  refine s_blk C 0 1 [0] (pc' := 1) (lv' := [(0, .inl x0)]) (st' := [.inl x0]) rfl ?_
  refine s_RI (CE_EM _ _ _ _ _ _) (st := []) (fun o ho => j_callS (As := [.inl x0]) (st := []) C 1 rfl mf_Keys_lettersOf ml_X4_9 rfl (by decide) (by decide) (Nat.le_refl _) rfl (cKeys_lettersOf (CX_tr C) σ M n x0 o ho)) (fun v1 => ?_)
  refine s_blk C 2 3 [0, 1] (pc' := 7) (lv' := [(0, .inl x0), (1, .inl v1)]) (st' := [.inl 1, .inl v1]) rfl ?_
  refine s_icne C 5 rfl (fun _ => ?_) (fun _ => ?_)
  · refine s_blk C 6 3 [] (pc' := 14) (lv' := []) (st' := [.inl (x0 * 25)]) rfl ?_
    exact s_iret C 9 rfl rfl
  refine s_blk C 10 2 [0] (pc' := 17) (lv' := [(0, .inl x0)]) (st' := [.inl 2, .inl v1]) rfl ?_
  refine s_icne C 12 rfl (fun _ => ?_) (fun _ => ?_)
  · refine s_blk C 13 4 [] (pc' := 27) (lv' := []) (st' := [.inl (x0 * 5)]) rfl ?_
    exact s_iret C 18 rfl rfl
  refine s_blk C 17 1 [] (pc' := 27) (lv' := []) (st' := [.inl x0]) rfl ?_
  exact s_iret C 18 rfl rfl
theorem cKeys_asWord {l : Launch} {G : GE} (htr : l.stackTraces = false) (σ : Sg) (M : Mm) (n : Nat) (x0 : Int32) : ∀ o, fKeys_asWord x0 = some o → MetX l G yX4_asWord cX4_asWord 2 (some .int) 3 300 [.inl x0] (σ, M, n) ((eR rvI σ M n) o) :=
  c_ofX (by decide) kKeys_asWord htr rfl rfl fun X _ _ C htab => wKeys_asWord C htab x0
def pKeys_digit : List BR := [(0, .iload_n 0, 1, 0, 1), (1, .invokestatic 13, 3, 0, 4), (4, .istore_n 2, 1, 0, 5), (5, .iload_n 1, 1, 0, 6), (6, .tableswitch (41) (0) (2) #[(26), (31), (37)], 26, 0, 32), (32, .iload_n 2, 1, 0, 33), (33, .bipush 25, 2, 25, 35), (35, .idiv, 1, 0, 36), (36, .ireturn, 1, 0, 37), (37, .iload_n 2, 1, 0, 38), (38, .iconst 5, 1, 5, 39), (39, .idiv, 1, 0, 40), (40, .iconst 5, 1, 5, 41), (41, .irem, 1, 0, 42), (42, .ireturn, 1, 0, 43), (43, .iload_n 2, 1, 0, 44), (44, .iconst 5, 1, 5, 45), (45, .irem, 1, 0, 46), (46, .ireturn, 1, 0, 47), (47, .iconst 0, 1, 0, 48), (48, .ireturn, 1, 0, 49)]
theorem kKeys_digit : bOK cX4_digit 3 pKeys_digit = true := by decide +kernel
def fKeys_digit (x0 : Int32) (x1 : Int32) : Option (Int32) :=
  bdR (fKeys_asWord x0) fun v1 =>
  tsw 0 2 x1 (tsl [
    (some (v1 / 25)),
    (some ((v1 / 5) - (v1 / 5) / 5 * 5)),
    (some (v1 - v1 / 5 * 5))])
    (some 0)
theorem wKeys_digit {X : MC} {G : GE} {n0 : Nat} (C : CX X G RX4 cX4_digit pKeys_digit 3 (some .int) n0) (htab : ∀ z ∈ X.2.2.2.2.2.2.2.2.exceptionTable.toList, False) {σ : Sg} {M : Mm} {n : Nat} (x0 : Int32) (x1 : Int32) : JS X G 3 300 0 n0 (EM X G n0 4 300 (eR rvI σ M n)) (fKeys_digit x0 x1) (σ, M, n) 0 [(0, .inl x0), (1, .inl x1)] [] := by
  unfold fKeys_digit
  refine s_blk C 0 1 [1] (pc' := 1) (lv' := [(1, .inl x1)]) (st' := [.inl x0]) rfl ?_
  refine s_RI (CE_EM _ _ _ _ _ _) (st := []) (fun o ho => j_callS (As := [.inl x0]) (st := []) C 1 rfl mf_Keys_asWord ml_X4_13 rfl (by decide) (by decide) (Nat.le_refl _) rfl (cKeys_asWord (CX_tr C) σ M n x0 o ho)) (fun v1 => ?_)
  refine s_blk C 2 2 [2] (pc' := 6) (lv' := [(2, .inl v1)]) (st' := [.inl x1]) rfl ?_
  refine s_tsw C 4 (tg := 47) rfl (by decide) (by decide) ?_ (fun j off hj => ?_)
  · refine s_blk C 19 1 [] (pc' := 48) (lv' := []) (st' := [.inl 0]) rfl ?_
    exact s_iret C 20 rfl rfl
  rcases j with _ | _ | _ | j
  · obtain rfl : (26 : Int) = off := Option.some.inj hj
    refine ⟨32, by decide, ?_⟩
    dsimp only [tsl]
    refine s_blk C 5 2 [] (pc' := 35) (lv' := []) (st' := [.inl 25, .inl v1]) rfl ?_
    refine s_idiv C 7 rfl (by decide) ?_
    exact s_iret C 8 rfl rfl
  · obtain rfl : (31 : Int) = off := Option.some.inj hj
    refine ⟨37, by decide, ?_⟩
    dsimp only [tsl]
    refine s_blk C 9 2 [] (pc' := 39) (lv' := []) (st' := [.inl 5, .inl v1]) rfl ?_
    refine s_idiv C 11 rfl (by decide) ?_
    refine s_blk C 12 1 [] (pc' := 41) (lv' := []) (st' := [.inl 5, .inl (v1 / 5)]) rfl ?_
    refine s_irem C 13 rfl (by decide) ?_
    exact s_iret C 14 rfl rfl
  · obtain rfl : (37 : Int) = off := Option.some.inj hj
    refine ⟨43, by decide, ?_⟩
    dsimp only [tsl]
    refine s_blk C 15 2 [] (pc' := 45) (lv' := []) (st' := [.inl 5, .inl v1]) rfl ?_
    refine s_irem C 17 rfl (by decide) ?_
    exact s_iret C 18 rfl rfl
  exact absurd (Array.getElem?_eq_some_iff.mp hj).1 (Nat.not_lt.mpr (Nat.le_add_left 3 j))
theorem cKeys_digit {l : Launch} {G : GE} (htr : l.stackTraces = false) (σ : Sg) (M : Mm) (n : Nat) (x0 : Int32) (x1 : Int32) : ∀ o, fKeys_digit x0 x1 = some o → MetX l G yX4_digit cX4_digit 3 (some .int) 4 300 [.inl x0, .inl x1] (σ, M, n) ((eR rvI σ M n) o) :=
  c_ofX (by decide) kKeys_digit htr rfl rfl fun X _ _ C htab => wKeys_digit C htab x0 x1

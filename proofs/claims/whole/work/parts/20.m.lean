def pAbc_init : List BR := [(0, .aload_n 0, 1, 0, 1), (1, .invokespecial 1, 3, 0, 4), (4, .return_, 1, 0, 5)]
theorem kAbc_init : bOK cJxa1e45_init_da8c8 1 pAbc_init = true := by decide +kernel
def fAbc_init (a0 : Nat) : Option (Unit) :=
  some ()
theorem wAbc_init {X : MC} {G : GE} {n0 : Nat} (C : CX X G RJxa1e45 cJxa1e45_init_da8c8 pAbc_init 1 none n0) (htab : ∀ z ∈ X.2.2.2.2.2.2.2.2.exceptionTable.toList, False) (hin : X.2.2.2.2.2.2.2.1.name = "<init>") {σ : Sg} {M : Mm} {n : Nat} (a0 : Nat) : JS X G 1 300 0 n0 (EM X G n0 2 300 (eR rvU σ M n)) (fAbc_init a0) (σ, M, n) 0 [(0, .inr (.inl (some a0)))] [] := by
  unfold fAbc_init
  refine s_blk C 0 1 [] (pc' := 1) (lv' := []) (st' := [.inr (.inl (some a0))]) rfl ?_
  refine s_sup C (CE_EM _ _ _ _ _ _) 1 rfl ml_Jxa1e45_1 (by decide) rfl ?_
  exact s_vret C 2 rfl rfl
theorem cAbc_init {l : Launch} {G : GE} (htr : l.stackTraces = false) (σ : Sg) (M : Mm) (n : Nat) (a0 : Nat) : ∀ o, fAbc_init a0 = some o → MetX l G yJxa1e45_init_da8c8 cJxa1e45_init_da8c8 1 none 2 300 [.inr (.inl (some a0))] (σ, M, n) ((eR rvU σ M n) o) :=
  c_ofX (by decide) kAbc_init htr rfl rfl fun X _ hin C htab => wAbc_init C htab hin a0
def pAbl_init : List BR := [(0, .aload_n 0, 1, 0, 1), (1, .invokespecial 1, 3, 0, 4), (4, .aload_n 0, 1, 0, 5), (5, .iconst 0, 1, 0, 6), (6, .putfield 7, 3, 0, 9), (9, .return_, 1, 0, 10)]
theorem kAbl_init : bOK cJxc12de_init_da8c8 1 pAbl_init = true := by decide +kernel
def fAbl_init (a0 : Nat) (M : Mm) : Option (Unit × Mm) :=
  bdR (fAbc_init a0) fun v1 =>
  fpI 12 1200 (some a0) 0 M fun M2 =>
  some ((), M2)
theorem wAbl_init {X : MC} {G : GE} {n0 : Nat} (C : CX X G RJxc12de cJxc12de_init_da8c8 pAbl_init 1 none n0) (htab : ∀ z ∈ X.2.2.2.2.2.2.2.2.exceptionTable.toList, False) (hin : X.2.2.2.2.2.2.2.1.name = "<init>") {σ : Sg} {n : Nat} (a0 : Nat) (M : Mm) : JS X G 1 300 0 n0 (EM X G n0 3 300 (eW rvU σ n)) (fAbl_init a0 M) (σ, M, n) 0 [(0, .inr (.inl (some a0)))] [] := by
  unfold fAbl_init
  refine s_blk C 0 1 [0] (pc' := 1) (lv' := [(0, .inr (.inl (some a0)))]) (st' := [.inr (.inl (some a0))]) rfl ?_
  refine s_RU (CE_EM _ _ _ _ _ _) (st := []) (fun o ho => j_callI (As := []) (st := []) (b := a0) C 1 rfl mf_Abc_init (Or.inl ml_Jxc12de_1) rfl (by decide) (by decide) (Nat.le_refl _) rfl (cAbc_init (CX_tr C) σ M n a0 o ho) rfl) (fun v1 => ?_)
  refine s_blk C 2 2 [] (pc' := 6) (lv' := []) (st' := [.inl 0, .inr (.inl (some a0))]) rfl ?_
  refine s_pI C 4 rfl fl_Jxc12de_7 fp_Jxc12de_12_0 (fun h => Bool.noConfusion h) rfl rfl (fun M2 _ => ?_)
  exact s_vret C 5 rfl rfl
theorem cAbl_init {l : Launch} {G : GE} (htr : l.stackTraces = false) (σ : Sg) (M : Mm) (n : Nat) (a0 : Nat) : ∀ o, fAbl_init a0 M = some o → MetX l G yJxc12de_init_da8c8 cJxc12de_init_da8c8 1 none 3 300 [.inr (.inl (some a0))] (σ, M, n) ((eW rvU σ n) o) :=
  c_ofX (by decide) kAbl_init htr rfl rfl fun X _ hin C htab => wAbl_init C htab hin a0 _
def pAl_init : List BR := [(0, .aload_n 0, 1, 0, 1), (1, .invokespecial 1, 3, 0, 4), (4, .aload_n 0, 1, 0, 5), (5, .getstatic 39, 3, 0, 8), (8, .putfield 9, 3, 0, 11), (11, .return_, 1, 0, 12)]
theorem kAl_init : bOK cJx4a65c_init_da8c8 1 pAl_init = true := by decide +kernel
def fAl_init (a0 : Nat) (M : Mm) : Option (Unit × Mm) :=
  bdW (fAbl_init a0 M) fun v1 M2 =>
  fpR 12 1201 (some a0) (some (mL M2 0)) M2 fun M3 =>
  some ((), M3)
theorem wAl_init {X : MC} {G : GE} {n0 : Nat} (C : CX X G RJx4a65c cJx4a65c_init_da8c8 pAl_init 1 none n0) (htab : ∀ z ∈ X.2.2.2.2.2.2.2.2.exceptionTable.toList, False) (hin : X.2.2.2.2.2.2.2.1.name = "<init>") {σ : Sg} {n : Nat} (a0 : Nat) (M : Mm) : JS X G 1 300 0 n0 (EM X G n0 4 300 (eW rvU σ n)) (fAl_init a0 M) (σ, M, n) 0 [(0, .inr (.inl (some a0)))] [] := by
  unfold fAl_init
  refine s_blk C 0 1 [0] (pc' := 1) (lv' := [(0, .inr (.inl (some a0)))]) (st' := [.inr (.inl (some a0))]) rfl ?_
  refine s_WU (CE_EM _ _ _ _ _ _) (st := []) (fun o ho => j_callI (As := []) (st := []) (b := a0) C 1 rfl mf_Abl_init (Or.inl ml_Jx4a65c_1) rfl (by decide) (by decide) (Nat.le_refl _) rfl (cAbl_init (CX_tr C) σ M n a0 o ho) rfl) (fun v1 M2 => ?_)
  refine s_blk C 2 1 [] (pc' := 5) (lv' := []) (st' := [.inr (.inl (some a0))]) rfl ?_
  refine s_getD C 3 rfl fs_Jx4a65c_39 ?_
  refine s_pR C 4 rfl fl_Jx4a65c_9 fp_Jx4a65c_12_1 (fun h => Bool.noConfusion h) rfl rfl rfl (fun M3 _ => ?_)
  exact s_vret C 5 rfl rfl
theorem cAl_init {l : Launch} {G : GE} (htr : l.stackTraces = false) (σ : Sg) (M : Mm) (n : Nat) (a0 : Nat) : ∀ o, fAl_init a0 M = some o → MetX l G yJx4a65c_init_da8c8 cJx4a65c_init_da8c8 1 none 4 300 [.inr (.inl (some a0))] (σ, M, n) ((eW rvU σ n) o) :=
  c_ofX (by decide) kAl_init htr rfl rfl fun X _ hin C htab => wAl_init C htab hin a0 _
def pCut_init : List BR := [(0, .aload_n 0, 1, 0, 1), (1, .invokespecial 3, 3, 0, 4), (4, .aload_n 0, 1, 0, 5), (5, .bipush 40, 2, 40, 7), (7, .newarray .int, 2, 0, 9), (9, .putfield 9, 3, 0, 12), (12, .aload_n 0, 1, 0, 13), (13, .bipush 40, 2, 40, 15), (15, .newarray .int, 2, 0, 17), (17, .putfield 15, 3, 0, 20), (20, .return_, 1, 0, 21)]
theorem kCut_init : bOK cX2_init 1 pCut_init = true := by decide +kernel
def fCut_init (a0 : Nat) (M : Mm) (n : Nat) : Option ((Unit ⊕ Nat) × Mm × Nat) :=
  nwA 21 300 40 M n fun y1 M2 n3 =>
  fpR 3 300 (some a0) y1 M2 fun M4 =>
  nwA 21 300 40 M4 n3 fun y5 M6 n7 =>
  fpR 3 301 (some a0) y5 M6 fun M8 =>
  some (.inl (), M8, n7)
theorem wCut_init {X : MC} {G : GE} {n0 : Nat} (C : CX X G RX2 cX2_init pCut_init 1 none n0) (htab : ∀ z ∈ X.2.2.2.2.2.2.2.2.exceptionTable.toList, False) (hin : X.2.2.2.2.2.2.2.1.name = "<init>") {σ : Sg} (a0 : Nat) (M : Mm) (n : Nat) : JS X G 1 300 0 n0 (EM X G n0 2 300 (eC rvU σ)) (fCut_init a0 M n) (σ, M, n) 0 [(0, .inr (.inl (some a0)))] [] := by
  unfold fCut_init
  refine s_blk C 0 1 [0] (pc' := 1) (lv' := [(0, .inr (.inl (some a0)))]) (st' := [.inr (.inl (some a0))]) rfl ?_
  refine s_sup C (CE_EM _ _ _ _ _ _) 1 rfl ml_X2_3 (by decide) rfl ?_
  refine s_blk C 2 2 [0] (pc' := 7) (lv' := [(0, .inr (.inl (some a0)))]) (st' := [.inl 40, .inr (.inl (some a0))]) rfl ?_
  refine s_newI C (CE_EM _ _ _ _ _ _) 4 rfl (by decide) (by decide) (fun y1 M2 n3 _ _ => ?_)
  refine s_pR C 5 rfl fl_X2_9 fp_X2_3_0 (fun _ => hin) rfl rfl rfl (fun M4 _ => ?_)
  refine s_blk C 6 2 [] (pc' := 15) (lv' := []) (st' := [.inl 40, .inr (.inl (some a0))]) rfl ?_
  refine s_newI C (CE_EM _ _ _ _ _ _) 8 rfl (by decide) (by decide) (fun y5 M6 n7 _ _ => ?_)
  refine s_pR C 9 rfl fl_X2_15 fp_X2_3_1 (fun _ => hin) rfl rfl rfl (fun M8 _ => ?_)
  exact s_vret C 10 rfl rfl
theorem cCut_init {l : Launch} {G : GE} (htr : l.stackTraces = false) (σ : Sg) (M : Mm) (n : Nat) (a0 : Nat) : ∀ o, fCut_init a0 M n = some o → MetX l G yX2_init cX2_init 1 none 2 300 [.inr (.inl (some a0))] (σ, M, n) ((eC rvU σ) o) :=
  c_ofX (by decide) kCut_init htr rfl rfl fun X _ hin C htab => wCut_init C htab hin a0 _ _
def pCode_init : List BR := [(0, .aload_n 0, 1, 0, 1), (1, .invokespecial 3, 3, 0, 4), (4, .aload_n 0, 1, 0, 5), (5, .bipush 6, 2, 6, 7), (7, .newarray .byte, 2, 0, 9), (9, .putfield 9, 3, 0, 12), (12, .aload_n 0, 1, 0, 13), (13, .bipush 10, 2, 10, 15), (15, .newarray .byte, 2, 0, 17), (17, .putfield 15, 3, 0, 20), (20, .aload_n 0, 1, 0, 21), (21, .iconst 3, 1, 3, 22), (22, .newarray .int, 2, 0, 24), (24, .putfield 18, 3, 0, 27), (27, .aload_n 0, 1, 0, 28), (28, .iconst 3, 1, 3, 29), (29, .newarray .int, 2, 0, 31), (31, .putfield 22, 3, 0, 34), (34, .return_, 1, 0, 35)]
theorem kCode_init : bOK cX1_init 1 pCode_init = true := by decide +kernel
def fCode_init (a0 : Nat) (M : Mm) (n : Nat) : Option ((Unit ⊕ Nat) × Mm × Nat) :=
  nwA 20 300 6 M n fun y1 M2 n3 =>
  fpR 2 200 (some a0) y1 M2 fun M4 =>
  nwA 20 300 10 M4 n3 fun y5 M6 n7 =>
  fpR 2 201 (some a0) y5 M6 fun M8 =>
  nwA 21 300 3 M8 n7 fun y9 M10 n11 =>
  fpR 2 202 (some a0) y9 M10 fun M12 =>
  nwA 21 300 3 M12 n11 fun y13 M14 n15 =>
  fpR 2 203 (some a0) y13 M14 fun M16 =>
  some (.inl (), M16, n15)
theorem wCode_init {X : MC} {G : GE} {n0 : Nat} (C : CX X G RX1 cX1_init pCode_init 1 none n0) (htab : ∀ z ∈ X.2.2.2.2.2.2.2.2.exceptionTable.toList, False) (hin : X.2.2.2.2.2.2.2.1.name = "<init>") {σ : Sg} (a0 : Nat) (M : Mm) (n : Nat) : JS X G 1 300 0 n0 (EM X G n0 2 300 (eC rvU σ)) (fCode_init a0 M n) (σ, M, n) 0 [(0, .inr (.inl (some a0)))] [] := by
  unfold fCode_init
  refine s_blk C 0 1 [0] (pc' := 1) (lv' := [(0, .inr (.inl (some a0)))]) (st' := [.inr (.inl (some a0))]) rfl ?_
  refine s_sup C (CE_EM _ _ _ _ _ _) 1 rfl ml_X1_3 (by decide) rfl ?_
  refine s_blk C 2 2 [0] (pc' := 7) (lv' := [(0, .inr (.inl (some a0)))]) (st' := [.inl 6, .inr (.inl (some a0))]) rfl ?_
  refine s_newB C (CE_EM _ _ _ _ _ _) 4 rfl (by decide) (by decide) (fun y1 M2 n3 _ _ => ?_)
  refine s_pR C 5 rfl fl_X1_9 fp_X1_2_0 (fun _ => hin) rfl rfl rfl (fun M4 _ => ?_)
  refine s_blk C 6 2 [0] (pc' := 15) (lv' := [(0, .inr (.inl (some a0)))]) (st' := [.inl 10, .inr (.inl (some a0))]) rfl ?_
  refine s_newB C (CE_EM _ _ _ _ _ _) 8 rfl (by decide) (by decide) (fun y5 M6 n7 _ _ => ?_)
  refine s_pR C 9 rfl fl_X1_15 fp_X1_2_1 (fun _ => hin) rfl rfl rfl (fun M8 _ => ?_)
  refine s_blk C 10 2 [0] (pc' := 22) (lv' := [(0, .inr (.inl (some a0)))]) (st' := [.inl 3, .inr (.inl (some a0))]) rfl ?_
  refine s_newI C (CE_EM _ _ _ _ _ _) 12 rfl (by decide) (by decide) (fun y9 M10 n11 _ _ => ?_)
  refine s_pR C 13 rfl fl_X1_18 fp_X1_2_2 (fun _ => hin) rfl rfl rfl (fun M12 _ => ?_)
  refine s_blk C 14 2 [] (pc' := 29) (lv' := []) (st' := [.inl 3, .inr (.inl (some a0))]) rfl ?_
  refine s_newI C (CE_EM _ _ _ _ _ _) 16 rfl (by decide) (by decide) (fun y13 M14 n15 _ _ => ?_)
  refine s_pR C 17 rfl fl_X1_22 fp_X1_2_3 (fun _ => hin) rfl rfl rfl (fun M16 _ => ?_)
  exact s_vret C 18 rfl rfl
theorem cCode_init {l : Launch} {G : GE} (htr : l.stackTraces = false) (σ : Sg) (M : Mm) (n : Nat) (a0 : Nat) : ∀ o, fCode_init a0 M n = some o → MetX l G yX1_init cX1_init 1 none 2 300 [.inr (.inl (some a0))] (σ, M, n) ((eC rvU σ) o) :=
  c_ofX (by decide) kCode_init htr rfl rfl fun X _ hin C htab => wCode_init C htab hin a0 _ _
def pStore_init : List BR := [(0, .aload_n 0, 1, 0, 1), (1, .invokespecial 3, 3, 0, 4), (4, .aload_n 0, 1, 0, 5), (5, .bipush 6, 2, 6, 7), (7, .newarray .boolean, 2, 0, 9), (9, .putfield 9, 3, 0, 12), (12, .aload_n 0, 1, 0, 13), (13, .new 15, 3, 0, 16), (16, .dup, 1, 0, 17), (17, .invokespecial 17, 3, 0, 20), (20, .putfield 18, 3, 0, 23), (23, .aload_n 0, 1, 0, 24), (24, .new 22, 3, 0, 27), (27, .dup, 1, 0, 28), (28, .invokespecial 24, 3, 0, 31), (31, .putfield 25, 3, 0, 34), (34, .aload_n 0, 1, 0, 35), (35, .new 29, 3, 0, 38), (38, .dup, 1, 0, 39), (39, .invokespecial 31, 3, 0, 42), (42, .putfield 32, 3, 0, 45), (45, .aload_n 0, 1, 0, 46), (46, .bipush 90, 2, 90, 48), (48, .newarray .int, 2, 0, 50), (50, .putfield 36, 3, 0, 53), (53, .iconst 0, 1, 0, 54), (54, .istore_n 1, 1, 0, 55), (55, .iload_n 1, 1, 0, 56), (56, .aload_n 0, 1, 0, 57), (57, .getfield 9, 3, 0, 60), (60, .arraylength, 1, 0, 61), (61, .if_icmp .ge (16), 3, 0, 77), (64, .aload_n 0, 1, 0, 65), (65, .getfield 9, 3, 0, 68), (68, .iload_n 1, 1, 0, 69), (69, .iconst 1, 1, 1, 70), (70, .bastore, 1, 0, 71), (71, .iinc 1 (1), 3, 1, 74), (74, .goto (-19), 3, 0, 55), (77, .return_, 1, 0, 78)]
theorem kStore_init : bOK cX8_init 2 pStore_init = true := by decide +kernel
def fStore_init_b55 (a0 : Nat) (k55 : Int32 → Mm → Nat → Option ((Unit ⊕ Nat) × Mm × Nat)) (x1 : Int32) (M : Mm) (n : Nat) : Option ((Unit ⊕ Nat) × Mm × Nat) :=
  fgR 8 800 (some a0) M fun v1 =>
  aln v1 M fun v2 =>
  if v2 ≤ x1 then
    some (.inl (), M, n)
  else
    fgR 8 800 (some a0) M fun v3 =>
    asZ v3 x1 1 M fun M4 =>
    k55 (x1 + 1) M4 n
theorem wStore_init_b55 {X : MC} {G : GE} {n0 : Nat} (C : CX X G RX8 cX8_init pStore_init 2 none n0) (htab : ∀ z ∈ X.2.2.2.2.2.2.2.2.exceptionTable.toList, False) (hin : X.2.2.2.2.2.2.2.1.name = "<init>") {σ : Sg} (a0 : Nat) (k55 : Int32 → Mm → Nat → Option ((Unit ⊕ Nat) × Mm × Nat)) (H55 : ∀ (x1 : Int32) (M : Mm) (n : Nat), JS X G 2 300 0 n0 (EM X G n0 5 300 (eC rvU σ)) (k55 x1 M n) (σ, M, n) 55 [(0, .inr (.inl (some a0))), (1, .inl x1)] []) (x1 : Int32) (M : Mm) (n : Nat) : JS X G 2 300 0 n0 (EM X G n0 5 300 (eC rvU σ)) (fStore_init_b55 a0 k55 x1 M n) (σ, M, n) 55 [(0, .inr (.inl (some a0))), (1, .inl x1)] [] := by
  unfold fStore_init_b55
  refine s_blk C 27 2 [0, 1] (pc' := 57) (lv' := [(0, .inr (.inl (some a0))), (1, .inl x1)]) (st' := [.inr (.inl (some a0)), .inl x1]) rfl ?_
  refine s_gR C 29 rfl fl_X8_9 rfl rfl (fun v1 => ?_)
  refine s_len C 30 rfl (fun v2 => ?_)
  refine s_icge C 31 rfl (fun _ => ?_) (fun _ => ?_)
  · exact s_vret C 39 rfl rfl
  refine s_blk C 32 1 [0, 1] (pc' := 65) (lv' := [(0, .inr (.inl (some a0))), (1, .inl x1)]) (st' := [.inr (.inl (some a0))]) rfl ?_
  refine s_gR C 33 rfl fl_X8_9 rfl rfl (fun v3 => ?_)
  refine s_blk C 34 2 [0, 1] (pc' := 70) (lv' := [(0, .inr (.inl (some a0))), (1, .inl x1)]) (st' := [.inl 1, .inl x1, .inr (.inl v3)]) rfl ?_
  refine s_stZ C 36 rfl (fun M4 _ => ?_)
  refine s_blk C 37 2 [0, 1] (pc' := 55) (lv' := [(0, .inr (.inl (some a0))), (1, .inl (x1 + 1))]) (st' := []) rfl ?_
  exact H55 _ _ _
def fStore_init_l55 (a0 : Nat) (fu : Nat) : Int32 → Mm → Nat → Option ((Unit ⊕ Nat) × Mm × Nat) := Nat.rec (fun x1 M n => none) (fun _ k => fStore_init_b55 a0 k) fu
theorem wStore_init_l55 {X : MC} {G : GE} {n0 : Nat} (C : CX X G RX8 cX8_init pStore_init 2 none n0) (htab : ∀ z ∈ X.2.2.2.2.2.2.2.2.exceptionTable.toList, False) (hin : X.2.2.2.2.2.2.2.1.name = "<init>") {σ : Sg} (a0 : Nat) : ∀ (fu : Nat) (x1 : Int32) (M : Mm) (n : Nat), JS X G 2 300 0 n0 (EM X G n0 5 300 (eC rvU σ)) (fStore_init_l55 a0 fu x1 M n) (σ, M, n) 55 [(0, .inr (.inl (some a0))), (1, .inl x1)] [] := by
  intro fu
  induction fu with
  | zero => intro x1 M n; exact s_none
  | succ fu ih => intro x1 M n; exact wStore_init_b55 C htab hin a0 (fStore_init_l55 a0 fu) ih _ _ _
def fStore_init (a0 : Nat) (M : Mm) (n : Nat) : Option ((Unit ⊕ Nat) × Mm × Nat) :=
  nwA 22 300 6 M n fun y1 M2 n3 =>
  fpR 8 800 (some a0) y1 M2 fun M4 =>
  nwO 12 M4 n3 fun y5 M6 n7 =>
  rk 12 y5 M6 fun a8 =>
  bdW (fAl_init a8 M6) fun v11 M12 =>
  fpR 8 801 (some a0) y5 M12 fun M13 =>
  nwO 3 M13 n7 fun y14 M15 n16 =>
  rk 3 y14 M15 fun a17 =>
  bdN (fCut_init a17 M15 n16) n16 fun v20 M21 n22 =>
  fpR 8 802 (some a0) y14 M21 fun M23 =>
  nwO 2 M23 n22 fun y24 M25 n26 =>
  rk 2 y24 M25 fun a27 =>
  bdN (fCode_init a27 M25 n26) n26 fun v30 M31 n32 =>
  fpR 8 803 (some a0) y24 M31 fun M33 =>
  nwA 21 300 90 M33 n32 fun y34 M35 n36 =>
  fpR 8 804 (some a0) y34 M35 fun M37 =>
  fStore_init_l55 a0 FU 0 M37 n36
theorem wStore_init {X : MC} {G : GE} {n0 : Nat} (C : CX X G RX8 cX8_init pStore_init 2 none n0) (htab : ∀ z ∈ X.2.2.2.2.2.2.2.2.exceptionTable.toList, False) (hin : X.2.2.2.2.2.2.2.1.name = "<init>") {σ : Sg} (a0 : Nat) (M : Mm) (n : Nat) : JS X G 2 300 0 n0 (EM X G n0 5 300 (eC rvU σ)) (fStore_init a0 M n) (σ, M, n) 0 [(0, .inr (.inl (some a0)))] [] := by
  unfold fStore_init
  refine s_blk C 0 1 [0] (pc' := 1) (lv' := [(0, .inr (.inl (some a0)))]) (st' := [.inr (.inl (some a0))]) rfl ?_
  refine s_sup C (CE_EM _ _ _ _ _ _) 1 rfl ml_X8_3 (by decide) rfl ?_
  refine s_blk C 2 2 [0] (pc' := 7) (lv' := [(0, .inr (.inl (some a0)))]) (st' := [.inl 6, .inr (.inl (some a0))]) rfl ?_
  refine s_newZ C (CE_EM _ _ _ _ _ _) 4 rfl (by decide) (by decide) (fun y1 M2 n3 _ _ => ?_)
  refine s_pR C 5 rfl fl_X8_9 fp_X8_8_0 (fun _ => hin) rfl rfl rfl (fun M4 _ => ?_)
  refine s_blk C 6 1 [0] (pc' := 13) (lv' := [(0, .inr (.inl (some a0)))]) (st' := [.inr (.inl (some a0))]) rfl ?_
  refine s_new C (CE_EM _ _ _ _ _ _) 7 rfl cl_X8_15 (by decide) (fun y5 M6 n7 _ _ => ?_)
  refine s_blk C 8 1 [0] (pc' := 17) (lv' := [(0, .inr (.inl (some a0)))]) (st' := [.inr (.inl y5), .inr (.inl y5), .inr (.inl (some a0))]) rfl ?_
  refine s_rk (fun a8 ha9 hk10 => ?_)
  subst ha9
  refine s_WU (CE_EM _ _ _ _ _ _) (st := [.inr (.inl (some a8)), .inr (.inl (some a0))]) (fun o ho => j_callI (As := []) (st := [.inr (.inl (some a8)), .inr (.inl (some a0))]) (b := a8) C 9 rfl mf_Al_init (Or.inl ml_X8_17) rfl (by decide) (by decide) (Nat.le_refl _) rfl (cAl_init (CX_tr C) σ M6 n7 a8 o ho) rfl) (fun v11 M12 => ?_)
  refine s_pR C 10 rfl fl_X8_18 fp_X8_8_1 (fun _ => hin) rfl rfl rfl (fun M13 _ => ?_)
  refine s_blk C 11 1 [0] (pc' := 24) (lv' := [(0, .inr (.inl (some a0)))]) (st' := [.inr (.inl (some a0))]) rfl ?_
  refine s_new C (CE_EM _ _ _ _ _ _) 12 rfl cl_X8_22 (by decide) (fun y14 M15 n16 _ _ => ?_)
  refine s_blk C 13 1 [0] (pc' := 28) (lv' := [(0, .inr (.inl (some a0)))]) (st' := [.inr (.inl y14), .inr (.inl y14), .inr (.inl (some a0))]) rfl ?_
  refine s_rk (fun a17 ha18 hk19 => ?_)
  subst ha18
  refine s_NU C htab (st := [.inr (.inl (some a17)), .inr (.inl (some a0))]) (fun v M1 n1 ho => j_callI (As := []) (st := [.inr (.inl (some a17)), .inr (.inl (some a0))]) (b := a17) C 14 rfl mf_Cut_init (Or.inr ml_X8_24) rfl (by decide) (by decide) (Nat.le_refl _) rfl (cCut_init (CX_tr C) σ M15 n16 a17 _ ho) rfl) (fun v20 M21 n22 _ => ?_)
  refine s_pR C 15 rfl fl_X8_25 fp_X8_8_2 (fun _ => hin) rfl rfl rfl (fun M23 _ => ?_)
  refine s_blk C 16 1 [0] (pc' := 35) (lv' := [(0, .inr (.inl (some a0)))]) (st' := [.inr (.inl (some a0))]) rfl ?_
  refine s_new C (CE_EM _ _ _ _ _ _) 17 rfl cl_X8_29 (by decide) (fun y24 M25 n26 _ _ => ?_)
  refine s_blk C 18 1 [0] (pc' := 39) (lv' := [(0, .inr (.inl (some a0)))]) (st' := [.inr (.inl y24), .inr (.inl y24), .inr (.inl (some a0))]) rfl ?_
  refine s_rk (fun a27 ha28 hk29 => ?_)
  subst ha28
  refine s_NU C htab (st := [.inr (.inl (some a27)), .inr (.inl (some a0))]) (fun v M1 n1 ho => j_callI (As := []) (st := [.inr (.inl (some a27)), .inr (.inl (some a0))]) (b := a27) C 19 rfl mf_Code_init (Or.inr ml_X8_31) rfl (by decide) (by decide) (Nat.le_refl _) rfl (cCode_init (CX_tr C) σ M25 n26 a27 _ ho) rfl) (fun v30 M31 n32 _ => ?_)
  refine s_pR C 20 rfl fl_X8_32 fp_X8_8_3 (fun _ => hin) rfl rfl rfl (fun M33 _ => ?_)
  refine s_blk C 21 2 [0] (pc' := 48) (lv' := [(0, .inr (.inl (some a0)))]) (st' := [.inl 90, .inr (.inl (some a0))]) rfl ?_
  refine s_newI C (CE_EM _ _ _ _ _ _) 23 rfl (by decide) (by decide) (fun y34 M35 n36 _ _ => ?_)
  refine s_pR C 24 rfl fl_X8_36 fp_X8_8_4 (fun _ => hin) rfl rfl rfl (fun M37 _ => ?_)
  refine s_blk C 25 2 [0, 1] (pc' := 55) (lv' := [(0, .inr (.inl (some a0))), (1, .inl 0)]) (st' := []) rfl ?_
  exact wStore_init_l55 C htab hin a0 FU _ _ _
theorem cStore_init {l : Launch} {G : GE} (htr : l.stackTraces = false) (σ : Sg) (M : Mm) (n : Nat) (a0 : Nat) : ∀ o, fStore_init a0 M n = some o → MetX l G yX8_init cX8_init 2 none 5 300 [.inr (.inl (some a0))] (σ, M, n) ((eC rvU σ) o) :=
  c_ofX (by decide) kStore_init htr rfl rfl fun X _ hin C htab => wStore_init C htab hin a0 _ _
def pRegion_init : List BR := [(0, .aload_n 0, 1, 0, 1), (1, .invokespecial 3, 3, 0, 4), (4, .aload_n 0, 1, 0, 5), (5, .new 9, 3, 0, 8), (8, .dup, 1, 0, 9), (9, .invokespecial 11, 3, 0, 12), (12, .putfield 12, 3, 0, 15), (15, .aload_n 0, 1, 0, 16), (16, .new 18, 3, 0, 19), (19, .dup, 1, 0, 20), (20, .invokespecial 20, 3, 0, 23), (23, .putfield 21, 3, 0, 26), (26, .aload_n 0, 1, 0, 27), (27, .new 18, 3, 0, 30), (30, .dup, 1, 0, 31), (31, .invokespecial 20, 3, 0, 34), (34, .putfield 25, 3, 0, 37), (37, .aload_n 0, 1, 0, 38), (38, .sipush 201, 3, 201, 41), (41, .newarray .boolean, 2, 0, 43), (43, .putfield 28, 3, 0, 46), (46, .return_, 1, 0, 47)]
theorem kRegion_init : bOK cX6_init 1 pRegion_init = true := by decide +kernel
def fRegion_init (a0 : Nat) (M : Mm) (n : Nat) : Option ((Unit ⊕ Nat) × Mm × Nat) :=
  nwO 8 M n fun y1 M2 n3 =>
  rk 8 y1 M2 fun a4 =>
  bdN (fStore_init a4 M2 n3) n3 fun v7 M8 n9 =>
  fpR 6 600 (some a0) y1 M8 fun M10 =>
  nwO 12 M10 n9 fun y11 M12 n13 =>
  rk 12 y11 M12 fun a14 =>
  bdW (fAl_init a14 M12) fun v17 M18 =>
  fpR 6 601 (some a0) y11 M18 fun M19 =>
  nwO 12 M19 n13 fun y20 M21 n22 =>
  rk 12 y20 M21 fun a23 =>
  bdW (fAl_init a23 M21) fun v26 M27 =>
  fpR 6 602 (some a0) y20 M27 fun M28 =>
  nwA 22 300 201 M28 n22 fun y29 M30 n31 =>
  fpR 6 603 (some a0) y29 M30 fun M32 =>
  some (.inl (), M32, n31)
theorem wRegion_init {X : MC} {G : GE} {n0 : Nat} (C : CX X G RX6 cX6_init pRegion_init 1 none n0) (htab : ∀ z ∈ X.2.2.2.2.2.2.2.2.exceptionTable.toList, False) (hin : X.2.2.2.2.2.2.2.1.name = "<init>") {σ : Sg} (a0 : Nat) (M : Mm) (n : Nat) : JS X G 1 300 0 n0 (EM X G n0 6 300 (eC rvU σ)) (fRegion_init a0 M n) (σ, M, n) 0 [(0, .inr (.inl (some a0)))] [] := by
  unfold fRegion_init
  refine s_blk C 0 1 [0] (pc' := 1) (lv' := [(0, .inr (.inl (some a0)))]) (st' := [.inr (.inl (some a0))]) rfl ?_
  refine s_sup C (CE_EM _ _ _ _ _ _) 1 rfl ml_X6_3 (by decide) rfl ?_
  refine s_blk C 2 1 [0] (pc' := 5) (lv' := [(0, .inr (.inl (some a0)))]) (st' := [.inr (.inl (some a0))]) rfl ?_
  refine s_new C (CE_EM _ _ _ _ _ _) 3 rfl cl_X6_9 (by decide) (fun y1 M2 n3 _ _ => ?_)
  refine s_blk C 4 1 [0] (pc' := 9) (lv' := [(0, .inr (.inl (some a0)))]) (st' := [.inr (.inl y1), .inr (.inl y1), .inr (.inl (some a0))]) rfl ?_
  refine s_rk (fun a4 ha5 hk6 => ?_)
  subst ha5
  refine s_NU C htab (st := [.inr (.inl (some a4)), .inr (.inl (some a0))]) (fun v M1 n1 ho => j_callI (As := []) (st := [.inr (.inl (some a4)), .inr (.inl (some a0))]) (b := a4) C 5 rfl mf_Store_init (Or.inl ml_X6_11) rfl (by decide) (by decide) (Nat.le_refl _) rfl (cStore_init (CX_tr C) σ M2 n3 a4 _ ho) rfl) (fun v7 M8 n9 _ => ?_)
  refine s_pR C 6 rfl fl_X6_12 fp_X6_6_0 (fun _ => hin) rfl rfl rfl (fun M10 _ => ?_)
  refine s_blk C 7 1 [0] (pc' := 16) (lv' := [(0, .inr (.inl (some a0)))]) (st' := [.inr (.inl (some a0))]) rfl ?_
  refine s_new C (CE_EM _ _ _ _ _ _) 8 rfl cl_X6_18 (by decide) (fun y11 M12 n13 _ _ => ?_)
  refine s_blk C 9 1 [0] (pc' := 20) (lv' := [(0, .inr (.inl (some a0)))]) (st' := [.inr (.inl y11), .inr (.inl y11), .inr (.inl (some a0))]) rfl ?_
  refine s_rk (fun a14 ha15 hk16 => ?_)
  subst ha15
  refine s_WU (CE_EM _ _ _ _ _ _) (st := [.inr (.inl (some a14)), .inr (.inl (some a0))]) (fun o ho => j_callI (As := []) (st := [.inr (.inl (some a14)), .inr (.inl (some a0))]) (b := a14) C 10 rfl mf_Al_init (Or.inl ml_X6_20) rfl (by decide) (by decide) (Nat.le_refl _) rfl (cAl_init (CX_tr C) σ M12 n13 a14 o ho) rfl) (fun v17 M18 => ?_)
  refine s_pR C 11 rfl fl_X6_21 fp_X6_6_1 (fun _ => hin) rfl rfl rfl (fun M19 _ => ?_)
  refine s_blk C 12 1 [0] (pc' := 27) (lv' := [(0, .inr (.inl (some a0)))]) (st' := [.inr (.inl (some a0))]) rfl ?_
  refine s_new C (CE_EM _ _ _ _ _ _) 13 rfl cl_X6_18 (by decide) (fun y20 M21 n22 _ _ => ?_)
  refine s_blk C 14 1 [0] (pc' := 31) (lv' := [(0, .inr (.inl (some a0)))]) (st' := [.inr (.inl y20), .inr (.inl y20), .inr (.inl (some a0))]) rfl ?_
  refine s_rk (fun a23 ha24 hk25 => ?_)
  subst ha24
  refine s_WU (CE_EM _ _ _ _ _ _) (st := [.inr (.inl (some a23)), .inr (.inl (some a0))]) (fun o ho => j_callI (As := []) (st := [.inr (.inl (some a23)), .inr (.inl (some a0))]) (b := a23) C 15 rfl mf_Al_init (Or.inl ml_X6_20) rfl (by decide) (by decide) (Nat.le_refl _) rfl (cAl_init (CX_tr C) σ M21 n22 a23 o ho) rfl) (fun v26 M27 => ?_)
  refine s_pR C 16 rfl fl_X6_25 fp_X6_6_2 (fun _ => hin) rfl rfl rfl (fun M28 _ => ?_)
  refine s_blk C 17 2 [] (pc' := 41) (lv' := []) (st' := [.inl 201, .inr (.inl (some a0))]) rfl ?_
  refine s_newZ C (CE_EM _ _ _ _ _ _) 19 rfl (by decide) (by decide) (fun y29 M30 n31 _ _ => ?_)
  refine s_pR C 20 rfl fl_X6_28 fp_X6_6_3 (fun _ => hin) rfl rfl rfl (fun M32 _ => ?_)
  exact s_vret C 21 rfl rfl
theorem cRegion_init {l : Launch} {G : GE} (htr : l.stackTraces = false) (σ : Sg) (M : Mm) (n : Nat) (a0 : Nat) : ∀ o, fRegion_init a0 M n = some o → MetX l G yX6_init cX6_init 1 none 6 300 [.inr (.inl (some a0))] (σ, M, n) ((eC rvU σ) o) :=
  c_ofX (by decide) kRegion_init htr rfl rfl fun X _ hin C htab => wRegion_init C htab hin a0 _ _
def pBytes_init : List BR := [(0, .aload_n 0, 1, 0, 1), (1, .invokespecial 3, 3, 0, 4), (4, .aload_n 0, 1, 0, 5), (5, .bipush 40, 2, 40, 7), (7, .newarray .byte, 2, 0, 9), (9, .putfield 9, 3, 0, 12), (12, .return_, 1, 0, 13)]
theorem kBytes_init : bOK cX0_init 1 pBytes_init = true := by decide +kernel
def fBytes_init (a0 : Nat) (M : Mm) (n : Nat) : Option ((Unit ⊕ Nat) × Mm × Nat) :=
  nwA 20 300 40 M n fun y1 M2 n3 =>
  fpR 1 100 (some a0) y1 M2 fun M4 =>
  some (.inl (), M4, n3)
theorem wBytes_init {X : MC} {G : GE} {n0 : Nat} (C : CX X G RX0 cX0_init pBytes_init 1 none n0) (htab : ∀ z ∈ X.2.2.2.2.2.2.2.2.exceptionTable.toList, False) (hin : X.2.2.2.2.2.2.2.1.name = "<init>") {σ : Sg} (a0 : Nat) (M : Mm) (n : Nat) : JS X G 1 300 0 n0 (EM X G n0 2 300 (eC rvU σ)) (fBytes_init a0 M n) (σ, M, n) 0 [(0, .inr (.inl (some a0)))] [] := by
  unfold fBytes_init
  refine s_blk C 0 1 [0] (pc' := 1) (lv' := [(0, .inr (.inl (some a0)))]) (st' := [.inr (.inl (some a0))]) rfl ?_
  refine s_sup C (CE_EM _ _ _ _ _ _) 1 rfl ml_X0_3 (by decide) rfl ?_
  refine s_blk C 2 2 [] (pc' := 7) (lv' := []) (st' := [.inl 40, .inr (.inl (some a0))]) rfl ?_
  refine s_newB C (CE_EM _ _ _ _ _ _) 4 rfl (by decide) (by decide) (fun y1 M2 n3 _ _ => ?_)
  refine s_pR C 5 rfl fl_X0_9 fp_X0_1_0 (fun _ => hin) rfl rfl rfl (fun M4 _ => ?_)
  exact s_vret C 6 rfl rfl
theorem cBytes_init {l : Launch} {G : GE} (htr : l.stackTraces = false) (σ : Sg) (M : Mm) (n : Nat) (a0 : Nat) : ∀ o, fBytes_init a0 M n = some o → MetX l G yX0_init cX0_init 1 none 2 300 [.inr (.inl (some a0))] (σ, M, n) ((eC rvU σ) o) :=
  c_ofX (by decide) kBytes_init htr rfl rfl fun X _ hin C htab => wBytes_init C htab hin a0 _ _
def pHb_init_0 : List BR := [(0, .aload_n 0, 1, 0, 1), (1, .invokespecial 1, 3, 0, 4), (4, .aload_n 0, 1, 0, 5), (5, .new 7, 3, 0, 8), (8, .dup, 1, 0, 9), (9, .invokespecial 9, 3, 0, 12), (12, .putfield 10, 3, 0, 15), (15, .aload_n 0, 1, 0, 16), (16, .new 7, 3, 0, 19), (19, .dup, 1, 0, 20), (20, .invokespecial 9, 3, 0, 23), (23, .putfield 16, 3, 0, 26), (26, .aload_n 0, 1, 0, 27), (27, .new 19, 3, 0, 30), (30, .dup, 1, 0, 31), (31, .invokespecial 21, 3, 0, 34), (34, .putfield 22, 3, 0, 37), (37, .aload_n 0, 1, 0, 38), (38, .new 19, 3, 0, 41), (41, .dup, 1, 0, 42), (42, .invokespecial 21, 3, 0, 45), (45, .putfield 26, 3, 0, 48), (48, .aload_n 0, 1, 0, 49), (49, .new 19, 3, 0, 52), (52, .dup, 1, 0, 53), (53, .invokespecial 21, 3, 0, 56), (56, .putfield 29, 3, 0, 59), (59, .aload_n 0, 1, 0, 60), (60, .new 32, 3, 0, 63), (63, .dup, 1, 0, 64), (64, .invokespecial 34, 3, 0, 67), (67, .putfield 35, 3, 0, 70), (70, .aload_n 0, 1, 0, 71), (71, .new 32, 3, 0, 74), (74, .dup, 1, 0, 75), (75, .invokespecial 34, 3, 0, 78), (78, .putfield 39, 3, 0, 81), (81, .aload_n 0, 1, 0, 82), (82, .iconst 3, 1, 3, 83), (83, .newarray .int, 2, 0, 85)]
theorem kHb_init_0 : bOK cX11_init 1 pHb_init_0 = true := by decide +kernel
def pHb_init_1 : List BR := [(85, .putfield 42, 3, 0, 88), (88, .return_, 1, 0, 89)]
theorem kHb_init_1 : bOK cX11_init 1 pHb_init_1 = true := by decide +kernel
def pHb_init : List BR := (pHb_init_0 ++ pHb_init_1)
theorem kHb_init : bOK cX11_init 1 pHb_init = true := (bOK_app kHb_init_0 kHb_init_1)
def fHb_init (a0 : Nat) (M : Mm) (n : Nat) : Option ((Unit ⊕ Nat) × Mm × Nat) :=
  nwO 6 M n fun y1 M2 n3 =>
  rk 6 y1 M2 fun a4 =>
  bdN (fRegion_init a4 M2 n3) n3 fun v7 M8 n9 =>
  fpR 11 1100 (some a0) y1 M8 fun M10 =>
  nwO 6 M10 n9 fun y11 M12 n13 =>
  rk 6 y11 M12 fun a14 =>
  bdN (fRegion_init a14 M12 n13) n13 fun v17 M18 n19 =>
  fpR 11 1101 (some a0) y11 M18 fun M20 =>
  nwO 1 M20 n19 fun y21 M22 n23 =>
  rk 1 y21 M22 fun a24 =>
  bdN (fBytes_init a24 M22 n23) n23 fun v27 M28 n29 =>
  fpR 11 1102 (some a0) y21 M28 fun M30 =>
  nwO 1 M30 n29 fun y31 M32 n33 =>
  rk 1 y31 M32 fun a34 =>
  bdN (fBytes_init a34 M32 n33) n33 fun v37 M38 n39 =>
  fpR 11 1103 (some a0) y31 M38 fun M40 =>
  nwO 1 M40 n39 fun y41 M42 n43 =>
  rk 1 y41 M42 fun a44 =>
  bdN (fBytes_init a44 M42 n43) n43 fun v47 M48 n49 =>
  fpR 11 1104 (some a0) y41 M48 fun M50 =>
  nwO 12 M50 n49 fun y51 M52 n53 =>
  rk 12 y51 M52 fun a54 =>
  bdW (fAl_init a54 M52) fun v57 M58 =>
  fpR 11 1105 (some a0) y51 M58 fun M59 =>
  nwO 12 M59 n53 fun y60 M61 n62 =>
  rk 12 y60 M61 fun a63 =>
  bdW (fAl_init a63 M61) fun v66 M67 =>
  fpR 11 1106 (some a0) y60 M67 fun M68 =>
  nwA 21 300 3 M68 n62 fun y69 M70 n71 =>
  fpR 11 1107 (some a0) y69 M70 fun M72 =>
  some (.inl (), M72, n71)
theorem wHb_init {X : MC} {G : GE} {n0 : Nat} (C : CX X G RX11 cX11_init pHb_init 1 none n0) (htab : ∀ z ∈ X.2.2.2.2.2.2.2.2.exceptionTable.toList, False) (hin : X.2.2.2.2.2.2.2.1.name = "<init>") {σ : Sg} (a0 : Nat) (M : Mm) (n : Nat) : JS X G 1 300 0 n0 (EM X G n0 7 300 (eC rvU σ)) (fHb_init a0 M n) (σ, M, n) 0 [(0, .inr (.inl (some a0)))] [] := by
  unfold fHb_init
  refine s_blk C 0 1 [0] (pc' := 1) (lv' := [(0, .inr (.inl (some a0)))]) (st' := [.inr (.inl (some a0))]) rfl ?_
  refine s_sup C (CE_EM _ _ _ _ _ _) 1 rfl ml_X11_1 (by decide) rfl ?_
  refine s_blk C 2 1 [0] (pc' := 5) (lv' := [(0, .inr (.inl (some a0)))]) (st' := [.inr (.inl (some a0))]) rfl ?_
  refine s_new C (CE_EM _ _ _ _ _ _) 3 rfl cl_X11_7 (by decide) (fun y1 M2 n3 _ _ => ?_)
  refine s_blk C 4 1 [0] (pc' := 9) (lv' := [(0, .inr (.inl (some a0)))]) (st' := [.inr (.inl y1), .inr (.inl y1), .inr (.inl (some a0))]) rfl ?_
  refine s_rk (fun a4 ha5 hk6 => ?_)
  subst ha5
  refine s_NU C htab (st := [.inr (.inl (some a4)), .inr (.inl (some a0))]) (fun v M1 n1 ho => j_callI (As := []) (st := [.inr (.inl (some a4)), .inr (.inl (some a0))]) (b := a4) C 5 rfl mf_Region_init (Or.inr ml_X11_9) rfl (by decide) (by decide) (Nat.le_refl _) rfl (cRegion_init (CX_tr C) σ M2 n3 a4 _ ho) rfl) (fun v7 M8 n9 _ => ?_)
  refine s_pR C 6 rfl fl_X11_10 fp_X11_11_0 (fun _ => hin) rfl rfl rfl (fun M10 _ => ?_)
  refine s_blk C 7 1 [0] (pc' := 16) (lv' := [(0, .inr (.inl (some a0)))]) (st' := [.inr (.inl (some a0))]) rfl ?_
  refine s_new C (CE_EM _ _ _ _ _ _) 8 rfl cl_X11_7 (by decide) (fun y11 M12 n13 _ _ => ?_)
  refine s_blk C 9 1 [0] (pc' := 20) (lv' := [(0, .inr (.inl (some a0)))]) (st' := [.inr (.inl y11), .inr (.inl y11), .inr (.inl (some a0))]) rfl ?_
  refine s_rk (fun a14 ha15 hk16 => ?_)
  subst ha15
  refine s_NU C htab (st := [.inr (.inl (some a14)), .inr (.inl (some a0))]) (fun v M1 n1 ho => j_callI (As := []) (st := [.inr (.inl (some a14)), .inr (.inl (some a0))]) (b := a14) C 10 rfl mf_Region_init (Or.inr ml_X11_9) rfl (by decide) (by decide) (Nat.le_refl _) rfl (cRegion_init (CX_tr C) σ M12 n13 a14 _ ho) rfl) (fun v17 M18 n19 _ => ?_)
  refine s_pR C 11 rfl fl_X11_16 fp_X11_11_1 (fun _ => hin) rfl rfl rfl (fun M20 _ => ?_)
  refine s_blk C 12 1 [0] (pc' := 27) (lv' := [(0, .inr (.inl (some a0)))]) (st' := [.inr (.inl (some a0))]) rfl ?_
  refine s_new C (CE_EM _ _ _ _ _ _) 13 rfl cl_X11_19 (by decide) (fun y21 M22 n23 _ _ => ?_)
  refine s_blk C 14 1 [0] (pc' := 31) (lv' := [(0, .inr (.inl (some a0)))]) (st' := [.inr (.inl y21), .inr (.inl y21), .inr (.inl (some a0))]) rfl ?_
  refine s_rk (fun a24 ha25 hk26 => ?_)
  subst ha25
  refine s_NU C htab (st := [.inr (.inl (some a24)), .inr (.inl (some a0))]) (fun v M1 n1 ho => j_callI (As := []) (st := [.inr (.inl (some a24)), .inr (.inl (some a0))]) (b := a24) C 15 rfl mf_Bytes_init (Or.inr ml_X11_21) rfl (by decide) (by decide) (Nat.le_refl _) rfl (cBytes_init (CX_tr C) σ M22 n23 a24 _ ho) rfl) (fun v27 M28 n29 _ => ?_)
  refine s_pR C 16 rfl fl_X11_22 fp_X11_11_2 (fun _ => hin) rfl rfl rfl (fun M30 _ => ?_)
  refine s_blk C 17 1 [0] (pc' := 38) (lv' := [(0, .inr (.inl (some a0)))]) (st' := [.inr (.inl (some a0))]) rfl ?_
  refine s_new C (CE_EM _ _ _ _ _ _) 18 rfl cl_X11_19 (by decide) (fun y31 M32 n33 _ _ => ?_)
  refine s_blk C 19 1 [0] (pc' := 42) (lv' := [(0, .inr (.inl (some a0)))]) (st' := [.inr (.inl y31), .inr (.inl y31), .inr (.inl (some a0))]) rfl ?_
  refine s_rk (fun a34 ha35 hk36 => ?_)
  subst ha35
  refine s_NU C htab (st := [.inr (.inl (some a34)), .inr (.inl (some a0))]) (fun v M1 n1 ho => j_callI (As := []) (st := [.inr (.inl (some a34)), .inr (.inl (some a0))]) (b := a34) C 20 rfl mf_Bytes_init (Or.inr ml_X11_21) rfl (by decide) (by decide) (Nat.le_refl _) rfl (cBytes_init (CX_tr C) σ M32 n33 a34 _ ho) rfl) (fun v37 M38 n39 _ => ?_)
  refine s_pR C 21 rfl fl_X11_26 fp_X11_11_3 (fun _ => hin) rfl rfl rfl (fun M40 _ => ?_)
  refine s_blk C 22 1 [0] (pc' := 49) (lv' := [(0, .inr (.inl (some a0)))]) (st' := [.inr (.inl (some a0))]) rfl ?_
  refine s_new C (CE_EM _ _ _ _ _ _) 23 rfl cl_X11_19 (by decide) (fun y41 M42 n43 _ _ => ?_)
  refine s_blk C 24 1 [0] (pc' := 53) (lv' := [(0, .inr (.inl (some a0)))]) (st' := [.inr (.inl y41), .inr (.inl y41), .inr (.inl (some a0))]) rfl ?_
  refine s_rk (fun a44 ha45 hk46 => ?_)
  subst ha45
  refine s_NU C htab (st := [.inr (.inl (some a44)), .inr (.inl (some a0))]) (fun v M1 n1 ho => j_callI (As := []) (st := [.inr (.inl (some a44)), .inr (.inl (some a0))]) (b := a44) C 25 rfl mf_Bytes_init (Or.inr ml_X11_21) rfl (by decide) (by decide) (Nat.le_refl _) rfl (cBytes_init (CX_tr C) σ M42 n43 a44 _ ho) rfl) (fun v47 M48 n49 _ => ?_)
  refine s_pR C 26 rfl fl_X11_29 fp_X11_11_4 (fun _ => hin) rfl rfl rfl (fun M50 _ => ?_)
  refine s_blk C 27 1 [0] (pc' := 60) (lv' := [(0, .inr (.inl (some a0)))]) (st' := [.inr (.inl (some a0))]) rfl ?_
  refine s_new C (CE_EM _ _ _ _ _ _) 28 rfl cl_X11_32 (by decide) (fun y51 M52 n53 _ _ => ?_)
  refine s_blk C 29 1 [0] (pc' := 64) (lv' := [(0, .inr (.inl (some a0)))]) (st' := [.inr (.inl y51), .inr (.inl y51), .inr (.inl (some a0))]) rfl ?_
  refine s_rk (fun a54 ha55 hk56 => ?_)
  subst ha55
  refine s_WU (CE_EM _ _ _ _ _ _) (st := [.inr (.inl (some a54)), .inr (.inl (some a0))]) (fun o ho => j_callI (As := []) (st := [.inr (.inl (some a54)), .inr (.inl (some a0))]) (b := a54) C 30 rfl mf_Al_init (Or.inl ml_X11_34) rfl (by decide) (by decide) (Nat.le_refl _) rfl (cAl_init (CX_tr C) σ M52 n53 a54 o ho) rfl) (fun v57 M58 => ?_)
  refine s_pR C 31 rfl fl_X11_35 fp_X11_11_5 (fun _ => hin) rfl rfl rfl (fun M59 _ => ?_)
  refine s_blk C 32 1 [0] (pc' := 71) (lv' := [(0, .inr (.inl (some a0)))]) (st' := [.inr (.inl (some a0))]) rfl ?_
  refine s_new C (CE_EM _ _ _ _ _ _) 33 rfl cl_X11_32 (by decide) (fun y60 M61 n62 _ _ => ?_)
  refine s_blk C 34 1 [0] (pc' := 75) (lv' := [(0, .inr (.inl (some a0)))]) (st' := [.inr (.inl y60), .inr (.inl y60), .inr (.inl (some a0))]) rfl ?_
  refine s_rk (fun a63 ha64 hk65 => ?_)
  subst ha64
  refine s_WU (CE_EM _ _ _ _ _ _) (st := [.inr (.inl (some a63)), .inr (.inl (some a0))]) (fun o ho => j_callI (As := []) (st := [.inr (.inl (some a63)), .inr (.inl (some a0))]) (b := a63) C 35 rfl mf_Al_init (Or.inl ml_X11_34) rfl (by decide) (by decide) (Nat.le_refl _) rfl (cAl_init (CX_tr C) σ M61 n62 a63 o ho) rfl) (fun v66 M67 => ?_)
  refine s_pR C 36 rfl fl_X11_39 fp_X11_11_6 (fun _ => hin) rfl rfl rfl (fun M68 _ => ?_)
  refine s_blk C 37 2 [] (pc' := 83) (lv' := []) (st' := [.inl 3, .inr (.inl (some a0))]) rfl ?_
  refine s_newI C (CE_EM _ _ _ _ _ _) 39 rfl (by decide) (by decide) (fun y69 M70 n71 _ _ => ?_)
  refine s_pR C 40 rfl fl_X11_42 fp_X11_11_7 (fun _ => hin) rfl rfl rfl (fun M72 _ => ?_)
  exact s_vret C 41 rfl rfl
theorem cHb_init {l : Launch} {G : GE} (htr : l.stackTraces = false) (σ : Sg) (M : Mm) (n : Nat) (a0 : Nat) : ∀ o, fHb_init a0 M n = some o → MetX l G yX11_init cX11_init 1 none 7 300 [.inr (.inl (some a0))] (σ, M, n) ((eC rvU σ) o) :=
  c_ofX (by decide) kHb_init htr rfl rfl fun X _ hin C htab => wHb_init C htab hin a0 _ _
def pHb_checkIndex : List BR := [(0, .iload_n 0, 1, 0, 1), (1, .ifCond .ne (14), 3, 0, 15), (4, .new 286, 3, 0, 7), (7, .dup, 1, 0, 8), (8, .ldc_w 288, 3, 0, 11), (11, .invokespecial 290, 3, 0, 14), (14, .athrow, 1, 0, 15), (15, .return_, 1, 0, 16)]
theorem kHb_checkIndex : bOK cX11_checkIndex 1 pHb_checkIndex = true := by decide +kernel
def fHb_checkIndex (x0 : Int32) (M : Mm) (n : Nat) : Option ((Unit ⊕ Nat) × Mm × Nat) :=
  if x0 = 0 then
    some (.inr 0, M, n + 1)
  else
    some (.inl (), M, n)
theorem wHb_checkIndex {X : MC} {G : GE} {n0 : Nat} (C : CX X G RX11 cX11_checkIndex pHb_checkIndex 1 none n0) (htab : ∀ z ∈ X.2.2.2.2.2.2.2.2.exceptionTable.toList, False) {σ : Sg} (x0 : Int32) (M : Mm) (n : Nat) : JS X G 1 300 0 n0 (EM X G n0 6 300 (eC rvU σ)) (fHb_checkIndex x0 M n) (σ, M, n) 0 [(0, .inl x0)] [] := by
  unfold fHb_checkIndex
  refine s_blk C 0 1 [] (pc' := 1) (lv' := []) (st' := [.inl x0]) rfl ?_
  refine s_ine C 1 rfl (fun _ => ?_) (fun _ => ?_)
  · exact s_thr C htab th_288 2 rfl rfl rfl rfl rfl (by decide) (by decide) rfl
  exact s_vret C 7 rfl rfl
theorem cHb_checkIndex {l : Launch} {G : GE} (htr : l.stackTraces = false) (σ : Sg) (M : Mm) (n : Nat) (x0 : Int32) : ∀ o, fHb_checkIndex x0 M n = some o → MetX l G yX11_checkIndex cX11_checkIndex 1 none 6 300 [.inl x0] (σ, M, n) ((eC rvU σ) o) :=
  c_ofX (by decide) kHb_checkIndex htr rfl rfl fun X _ _ C htab => wHb_checkIndex C htab x0 _ _
def pHb_regionOf : List BR := [(0, .iload_n 1, 1, 0, 1), (1, .ifCond .eq (8), 3, 0, 9), (4, .iload_n 1, 1, 0, 5), (5, .iconst 1, 1, 1, 6), (6, .if_icmp .ne (7), 3, 0, 13), (9, .iconst 1, 1, 1, 10), (10, .goto (4), 3, 0, 14), (13, .iconst 0, 1, 0, 14), (14, .invokestatic 115, 3, 0, 17), (17, .iload_n 1, 1, 0, 18), (18, .ifCond .ne (10), 3, 0, 28), (21, .aload_n 0, 1, 0, 22), (22, .getfield 10, 3, 0, 25), (25, .goto (7), 3, 0, 32), (28, .aload_n 0, 1, 0, 29), (29, .getfield 16, 3, 0, 32), (32, .areturn, 1, 0, 33)]
theorem kHb_regionOf : bOK cX11_regionOf 2 pHb_regionOf = true := by decide +kernel
def fHb_regionOf_j14 (a0 : Nat) (x1 : Int32) (s0 : Int32) (M : Mm) (n : Nat) : Option ((Option Nat ⊕ Nat) × Mm × Nat) :=
  bdC (fHb_checkIndex s0 M n) n fun v1 M2 n3 =>
  if x1 = 0 then
    fgR 11 1100 (some a0) M2 fun v4 =>
    some (.inl v4, M2, n3)
  else
    fgR 11 1101 (some a0) M2 fun v5 =>
    some (.inl v5, M2, n3)
theorem wHb_regionOf_j14 {X : MC} {G : GE} {n0 : Nat} (C : CX X G RX11 cX11_regionOf pHb_regionOf 2 (some (.object "BlobHarbor$Region")) n0) (htab : ∀ z ∈ X.2.2.2.2.2.2.2.2.exceptionTable.toList, False) {σ : Sg} (a0 : Nat) (x1 : Int32) (s0 : Int32) (M : Mm) (n : Nat) : JS X G 2 300 0 n0 (EM X G n0 7 300 (eC rvR σ)) (fHb_regionOf_j14 a0 x1 s0 M n) (σ, M, n) 14 [(0, .inr (.inl (some a0))), (1, .inl x1)] [.inl s0] := by
  unfold fHb_regionOf_j14
  refine s_CU C htab (st := []) (fun o ho => j_callS (As := [.inl s0]) (st := []) C 8 rfl mf_Hb_checkIndex ml_X11_115 rfl (by decide) (by decide) (Nat.le_refl _) rfl (cHb_checkIndex (CX_tr C) σ M n s0 o ho)) (fun v1 M2 n3 _ => ?_)
  refine s_blk C 9 1 [0] (pc' := 18) (lv' := [(0, .inr (.inl (some a0)))]) (st' := [.inl x1]) rfl ?_
  refine s_ine C 10 rfl (fun _ => ?_) (fun _ => ?_)
  · refine s_blk C 11 1 [] (pc' := 22) (lv' := []) (st' := [.inr (.inl (some a0))]) rfl ?_
    refine s_gR C 12 rfl fl_X11_10 rfl rfl (fun v4 => ?_)
    refine s_blk C 13 1 [] (pc' := 32) (lv' := []) (st' := [.inr (.inl v4)]) rfl ?_
    exact s_aret (Or.inl ⟨_, rfl⟩) C 16 rfl rfl
  refine s_blk C 14 1 [] (pc' := 29) (lv' := []) (st' := [.inr (.inl (some a0))]) rfl ?_
  refine s_gR C 15 rfl fl_X11_16 rfl rfl (fun v5 => ?_)
  exact s_aret (Or.inl ⟨_, rfl⟩) C 16 rfl rfl
def fHb_regionOf_j9 (a0 : Nat) (x1 : Int32) (M : Mm) (n : Nat) : Option ((Option Nat ⊕ Nat) × Mm × Nat) :=
  fHb_regionOf_j14 a0 x1 1 M n
theorem wHb_regionOf_j9 {X : MC} {G : GE} {n0 : Nat} (C : CX X G RX11 cX11_regionOf pHb_regionOf 2 (some (.object "BlobHarbor$Region")) n0) (htab : ∀ z ∈ X.2.2.2.2.2.2.2.2.exceptionTable.toList, False) {σ : Sg} (a0 : Nat) (x1 : Int32) (M : Mm) (n : Nat) : JS X G 2 300 0 n0 (EM X G n0 7 300 (eC rvR σ)) (fHb_regionOf_j9 a0 x1 M n) (σ, M, n) 9 [(0, .inr (.inl (some a0))), (1, .inl x1)] [] := by
  unfold fHb_regionOf_j9
  refine s_blk C 5 2 [0, 1] (pc' := 14) (lv' := [(0, .inr (.inl (some a0))), (1, .inl x1)]) (st' := [.inl 1]) rfl ?_
  exact wHb_regionOf_j14 C htab a0 _ _ _ _
def fHb_regionOf (a0 : Nat) (x1 : Int32) (M : Mm) (n : Nat) : Option ((Option Nat ⊕ Nat) × Mm × Nat) :=
  if x1 = 0 then
    fHb_regionOf_j9 a0 x1 M n
  else
    if x1 = 1 then
      fHb_regionOf_j9 a0 x1 M n
    else
      fHb_regionOf_j14 a0 x1 0 M n
theorem wHb_regionOf {X : MC} {G : GE} {n0 : Nat} (C : CX X G RX11 cX11_regionOf pHb_regionOf 2 (some (.object "BlobHarbor$Region")) n0) (htab : ∀ z ∈ X.2.2.2.2.2.2.2.2.exceptionTable.toList, False) {σ : Sg} (a0 : Nat) (x1 : Int32) (M : Mm) (n : Nat) : JS X G 2 300 0 n0 (EM X G n0 7 300 (eC rvR σ)) (fHb_regionOf a0 x1 M n) (σ, M, n) 0 [(0, .inr (.inl (some a0))), (1, .inl x1)] [] := by
  unfold fHb_regionOf
  refine s_blk C 0 1 [0, 1] (pc' := 1) (lv' := [(0, .inr (.inl (some a0))), (1, .inl x1)]) (st' := [.inl x1]) rfl ?_
  refine s_ieq C 1 rfl (fun _ => ?_) (fun _ => ?_)
  · exact wHb_regionOf_j9 C htab a0 _ _ _
  refine s_blk C 2 2 [0, 1] (pc' := 6) (lv' := [(0, .inr (.inl (some a0))), (1, .inl x1)]) (st' := [.inl 1, .inl x1]) rfl ?_
  refine s_icne C 4 rfl (fun _ => ?_) (fun _ => ?_)
  · exact wHb_regionOf_j9 C htab a0 _ _ _
  refine s_blk C 7 1 [0, 1] (pc' := 14) (lv' := [(0, .inr (.inl (some a0))), (1, .inl x1)]) (st' := [.inl 0]) rfl ?_
  exact wHb_regionOf_j14 C htab a0 _ _ _ _
theorem cHb_regionOf {l : Launch} {G : GE} (htr : l.stackTraces = false) (σ : Sg) (M : Mm) (n : Nat) (a0 : Nat) (x1 : Int32) : ∀ o, fHb_regionOf a0 x1 M n = some o → MetX l G yX11_regionOf cX11_regionOf 2 (some (.object "BlobHarbor$Region")) 7 300 [.inr (.inl (some a0)), .inl x1] (σ, M, n) ((eC rvR σ) o) :=
  c_ofX (by decide) kHb_regionOf htr rfl rfl fun X _ _ C htab => wHb_regionOf C htab a0 x1 _ _
def pAl_size : List BR := [(0, .aload_n 0, 1, 0, 1), (1, .getfield 48, 3, 0, 4), (4, .ireturn, 1, 0, 5)]
theorem kAl_size : bOK cJx4a65c_size_8abf5 1 pAl_size = true := by decide +kernel
def fAl_size (a0 : Nat) (M : Mm) : Option (Int32) :=
  fgI 12 1202 (some a0) M fun v1 =>
  some v1
theorem wAl_size {X : MC} {G : GE} {n0 : Nat} (C : CX X G RJx4a65c cJx4a65c_size_8abf5 pAl_size 1 (some .int) n0) (htab : ∀ z ∈ X.2.2.2.2.2.2.2.2.exceptionTable.toList, False) {σ : Sg} {M : Mm} {n : Nat} (a0 : Nat) : JS X G 1 300 0 n0 (EM X G n0 2 300 (eR rvI σ M n)) (fAl_size a0 M) (σ, M, n) 0 [(0, .inr (.inl (some a0)))] [] := by
  unfold fAl_size
  refine s_blk C 0 1 [] (pc' := 1) (lv' := []) (st' := [.inr (.inl (some a0))]) rfl ?_
  refine s_gI C 1 rfl fl_Jx4a65c_48 rfl rfl (fun v1 => ?_)
  exact s_iret C 2 rfl rfl
theorem cAl_size {l : Launch} {G : GE} (htr : l.stackTraces = false) (σ : Sg) (M : Mm) (n : Nat) (a0 : Nat) : ∀ o, fAl_size a0 M = some o → MetX l G yJx4a65c_size_8abf5 cJx4a65c_size_8abf5 1 (some .int) 2 300 [.inr (.inl (some a0))] (σ, M, n) ((eR rvI σ M n) o) :=
  c_ofX (by decide) kAl_size htr rfl rfl fun X _ _ C htab => wAl_size C htab a0

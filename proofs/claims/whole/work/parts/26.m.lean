def pAl_remove : List BR := [(0, .iload_n 1, 1, 0, 1), (1, .aload_n 0, 1, 0, 2), (2, .getfield 48, 3, 0, 5), (5, .invokestatic 118, 3, 0, 8), (8, .pop, 1, 0, 9), (9, .aload_n 0, 1, 0, 10), (10, .getfield 9, 3, 0, 13), (13, .astore_n 2, 1, 0, 14), (14, .aload_n 2, 1, 0, 15), (15, .iload_n 1, 1, 0, 16), (16, .aaload, 1, 0, 17), (17, .astore_n 3, 1, 0, 18), (18, .aload_n 0, 1, 0, 19), (19, .aload_n 2, 1, 0, 20), (20, .iload_n 1, 1, 0, 21), (21, .invokevirtual 144, 3, 0, 24), (24, .aload_n 3, 1, 0, 25), (25, .areturn, 1, 0, 26)]
theorem kAl_remove : bOK cJx4a65c_remove_915e3 4 pAl_remove = true := by decide +kernel
def fAl_remove (a0 : Nat) (x1 : Int32) (M : Mm) : Option (Option Nat × Mm) :=
  fgI 12 1202 (some a0) M fun v1 =>
  bdR (fOb_checkIndex x1 v1) fun v2 =>
  fgR 12 1201 (some a0) M fun v3 =>
  alP 23 v3 x1 M fun v4 =>
  rk 12 (some a0) M fun _ =>
  bdW (fAl_fastRemove a0 v3 x1 M) fun v6 M7 =>
  some (v4, M7)
theorem wAl_remove {X : MC} {G : GE} {n0 : Nat} (C : CX X G RJx4a65c cJx4a65c_remove_915e3 pAl_remove 4 (some (.object "java/lang/Object")) n0) (htab : ∀ z ∈ X.2.2.2.2.2.2.2.2.exceptionTable.toList, False) {σ : Sg} {n : Nat} (a0 : Nat) (x1 : Int32) (M : Mm) : JS X G 4 300 0 n0 (EM X G n0 4 300 (eW rvR σ n)) (fAl_remove a0 x1 M) (σ, M, n) 0 [(0, .inr (.inl (some a0))), (1, .inl x1)] [] := by
  unfold fAl_remove
  refine s_blk C 0 2 [0, 1] (pc' := 2) (lv' := [(0, .inr (.inl (some a0))), (1, .inl x1)]) (st' := [.inr (.inl (some a0)), .inl x1]) rfl ?_
  refine s_gI C 2 rfl fl_Jx4a65c_48 rfl rfl (fun v1 => ?_)
  refine s_RI (CE_EM _ _ _ _ _ _) (st := []) (fun o ho => j_callS (As := [.inl x1, .inl v1]) (st := []) C 3 rfl mf_Ob_checkIndex ml_Jx4a65c_118 rfl (by decide) (by decide) (Nat.le_refl _) rfl (cOb_checkIndex (CX_tr C) σ M n x1 v1 o ho)) (fun v2 => ?_)
  refine s_blk C 4 2 [0, 1] (pc' := 10) (lv' := [(0, .inr (.inl (some a0))), (1, .inl x1)]) (st' := [.inr (.inl (some a0))]) rfl ?_
  refine s_gR C 6 rfl fl_Jx4a65c_9 rfl rfl (fun v3 => ?_)
  refine s_blk C 7 3 [0, 1, 2] (pc' := 16) (lv' := [(0, .inr (.inl (some a0))), (1, .inl x1), (2, .inr (.inl v3))]) (st' := [.inl x1, .inr (.inl v3)]) rfl ?_
  refine s_ldO C 10 rfl (fun v4 => ?_)
  refine s_blk C 11 4 [3] (pc' := 21) (lv' := [(3, .inr (.inl v4))]) (st' := [.inl x1, .inr (.inl v3), .inr (.inl (some a0))]) rfl ?_
  refine s_rks (fun hk5 => ?_)
  refine s_WU (CE_EM _ _ _ _ _ _) (st := []) (fun o ho => j_callV (As := [.inr (.inl v3), .inl x1]) (st := []) (b := a0) C 15 rfl mf_Al_fastRemove ml_Jx4a65c_144 rfl (recv_K C (by decide) (by decide) rfl hk5) (by decide) (by decide) (Nat.le_refl _) rfl (cAl_fastRemove (CX_tr C) σ M n a0 v3 x1 o ho)) (fun v6 M7 => ?_)
  refine s_blk C 16 1 [] (pc' := 25) (lv' := []) (st' := [.inr (.inl v4)]) rfl ?_
  exact s_aret (Or.inl ⟨_, rfl⟩) C 17 rfl rfl
theorem cAl_remove {l : Launch} {G : GE} (htr : l.stackTraces = false) (σ : Sg) (M : Mm) (n : Nat) (a0 : Nat) (x1 : Int32) : ∀ o, fAl_remove a0 x1 M = some o → MetX l G yJx4a65c_remove_915e3 cJx4a65c_remove_915e3 4 (some (.object "java/lang/Object")) 4 300 [.inr (.inl (some a0)), .inl x1] (σ, M, n) ((eW rvR σ n) o) :=
  c_ofX (by decide) kAl_remove htr rfl rfl fun X _ _ C htab => wAl_remove C htab a0 x1 _
def pRegion_takeOut : List BR := [(0, .aload_n 0, 1, 0, 1), (1, .getfield 21, 3, 0, 4), (4, .invokevirtual 32, 3, 0, 7), (7, .iconst 1, 1, 1, 8), (8, .isub, 1, 0, 9), (9, .istore_n 2, 1, 0, 10), (10, .iload_n 2, 1, 0, 11), (11, .ifCond .lt (57), 3, 0, 68), (14, .aload_n 0, 1, 0, 15), (15, .getfield 21, 3, 0, 18), (18, .iload_n 2, 1, 0, 19), (19, .invokevirtual 36, 3, 0, 22), (22, .checkcast 40, 3, 0, 25), (25, .getfield 42, 3, 0, 28), (28, .getfield 52, 3, 0, 31), (31, .aload_n 1, 1, 0, 32), (32, .getfield 42, 3, 0, 35), (35, .getfield 52, 3, 0, 38), (38, .if_icmp .ne (24), 3, 0, 62), (41, .aload_n 0, 1, 0, 42), (42, .getfield 12, 3, 0, 45), (45, .aload_n 1, 1, 0, 46), (46, .getfield 82, 3, 0, 49), (49, .invokevirtual 86, 3, 0, 52), (52, .aload_n 0, 1, 0, 53), (53, .getfield 21, 3, 0, 56), (56, .iload_n 2, 1, 0, 57), (57, .invokevirtual 90, 3, 0, 60), (60, .pop, 1, 0, 61), (61, .return_, 1, 0, 62), (62, .iinc 2 (-1), 3, -1, 65), (65, .goto (-55), 3, 0, 10), (68, .return_, 1, 0, 69)]
theorem kRegion_takeOut : bOK cX6_takeOut 3 pRegion_takeOut = true := by decide +kernel
def fRegion_takeOut_b10 (a0 : Nat) (k10 : Option Nat → Int32 → Mm → Option (Unit × Mm)) (r1 : Option Nat) (x2 : Int32) (M : Mm) : Option (Unit × Mm) :=
  if x2 < 0 then
    some ((), M)
  else
    fgR 6 601 (some a0) M fun v1 =>
    rk 12 v1 M fun a2 =>
    bdR (fAl_get a2 x2 M) fun v5 =>
    fca 10 v5 M fun v6 =>
    fgR 10 1000 v6 M fun v7 =>
    fgI 4 401 v7 M fun v8 =>
    fgR 10 1000 r1 M fun v9 =>
    fgI 4 401 v9 M fun v10 =>
    if v8 = v10 then
      fgR 6 600 (some a0) M fun v11 =>
      fgR 10 1001 r1 M fun v12 =>
      rk 8 v11 M fun a13 =>
      bdW (fStore_letGo a13 v12 M) fun v16 M17 =>
      fgR 6 601 (some a0) M17 fun v18 =>
      rk 12 v18 M17 fun a19 =>
      bdW (fAl_remove a19 x2 M17) fun v22 M23 =>
      some ((), M23)
    else
      k10 r1 (x2 + (-1)) M
theorem wRegion_takeOut_b10 {X : MC} {G : GE} {n0 : Nat} (C : CX X G RX6 cX6_takeOut pRegion_takeOut 3 none n0) (htab : ∀ z ∈ X.2.2.2.2.2.2.2.2.exceptionTable.toList, False) {σ : Sg} {n : Nat} (a0 : Nat) (k10 : Option Nat → Int32 → Mm → Option (Unit × Mm)) (H10 : ∀ (r1 : Option Nat) (x2 : Int32) (M : Mm), JS X G 3 300 0 n0 (EM X G n0 7 300 (eW rvU σ n)) (k10 r1 x2 M) (σ, M, n) 10 [(0, .inr (.inl (some a0))), (1, .inr (.inl r1)), (2, .inl x2)] []) (r1 : Option Nat) (x2 : Int32) (M : Mm) : JS X G 3 300 0 n0 (EM X G n0 7 300 (eW rvU σ n)) (fRegion_takeOut_b10 a0 k10 r1 x2 M) (σ, M, n) 10 [(0, .inr (.inl (some a0))), (1, .inr (.inl r1)), (2, .inl x2)] [] := by
  unfold fRegion_takeOut_b10
  refine s_blk C 6 1 [0, 1, 2] (pc' := 11) (lv' := [(0, .inr (.inl (some a0))), (1, .inr (.inl r1)), (2, .inl x2)]) (st' := [.inl x2]) rfl ?_
  refine s_ilt C 7 rfl (fun _ => ?_) (fun _ => ?_)
  · exact s_vret C 32 rfl rfl
  refine s_blk C 8 1 [0, 1, 2] (pc' := 15) (lv' := [(0, .inr (.inl (some a0))), (1, .inr (.inl r1)), (2, .inl x2)]) (st' := [.inr (.inl (some a0))]) rfl ?_
  refine s_gR C 9 rfl fl_X6_21 rfl rfl (fun v1 => ?_)
  refine s_blk C 10 1 [0, 1, 2] (pc' := 19) (lv' := [(0, .inr (.inl (some a0))), (1, .inr (.inl r1)), (2, .inl x2)]) (st' := [.inl x2, .inr (.inl v1)]) rfl ?_
  refine s_rk (fun a2 ha3 hk4 => ?_)
  subst ha3
  refine s_RR (CE_EM _ _ _ _ _ _) (st := []) (fun o ho => j_callV (As := [.inl x2]) (st := []) (b := a2) C 11 rfl mf_Al_get ml_X6_36 rfl (recv_K C (by decide) (by decide) rfl hk4) (by decide) (by decide) (Nat.le_refl _) rfl (cAl_get (CX_tr C) σ M n a2 x2 o ho)) (fun v5 => ?_)
  refine s_cast C 12 rfl rfl (by decide) (by decide) cw_X6_40 (fun v6 => ?_)
  refine s_gR C 13 rfl fl_X6_42 rfl rfl (fun v7 => ?_)
  refine s_gI C 14 rfl fl_X6_52 rfl rfl (fun v8 => ?_)
  refine s_blk C 15 1 [0, 1, 2] (pc' := 32) (lv' := [(0, .inr (.inl (some a0))), (1, .inr (.inl r1)), (2, .inl x2)]) (st' := [.inr (.inl r1), .inl v8]) rfl ?_
  refine s_gR C 16 rfl fl_X6_42 rfl rfl (fun v9 => ?_)
  refine s_gI C 17 rfl fl_X6_52 rfl rfl (fun v10 => ?_)
  refine s_icne C 18 rfl (fun _ => ?_) (fun _ => ?_)
  · refine s_blk C 19 1 [0, 1, 2] (pc' := 42) (lv' := [(0, .inr (.inl (some a0))), (1, .inr (.inl r1)), (2, .inl x2)]) (st' := [.inr (.inl (some a0))]) rfl ?_
    refine s_gR C 20 rfl fl_X6_12 rfl rfl (fun v11 => ?_)
    refine s_blk C 21 1 [0, 2] (pc' := 46) (lv' := [(0, .inr (.inl (some a0))), (2, .inl x2)]) (st' := [.inr (.inl r1), .inr (.inl v11)]) rfl ?_
    refine s_gR C 22 rfl fl_X6_82 rfl rfl (fun v12 => ?_)
    refine s_rk (fun a13 ha14 hk15 => ?_)
    subst ha14
    refine s_WU (CE_EM _ _ _ _ _ _) (st := []) (fun o ho => j_callV (As := [.inr (.inl v12)]) (st := []) (b := a13) C 23 rfl mf_Store_letGo ml_X6_86 rfl (recv_K C (by decide) (by decide) rfl hk15) (by decide) (by decide) (Nat.le_refl _) rfl (cStore_letGo (CX_tr C) σ M n a13 v12 o ho)) (fun v16 M17 => ?_)
    refine s_blk C 24 1 [2] (pc' := 53) (lv' := [(2, .inl x2)]) (st' := [.inr (.inl (some a0))]) rfl ?_
    refine s_gR C 25 rfl fl_X6_21 rfl rfl (fun v18 => ?_)
    refine s_blk C 26 1 [] (pc' := 57) (lv' := []) (st' := [.inl x2, .inr (.inl v18)]) rfl ?_
    refine s_rk (fun a19 ha20 hk21 => ?_)
    subst ha20
    refine s_WR (CE_EM _ _ _ _ _ _) (st := []) (fun o ho => j_callV (As := [.inl x2]) (st := []) (b := a19) C 27 rfl mf_Al_remove ml_X6_90 rfl (recv_K C (by decide) (by decide) rfl hk21) (by decide) (by decide) (Nat.le_refl _) rfl (cAl_remove (CX_tr C) σ M17 n a19 x2 o ho)) (fun v22 M23 => ?_)
    refine s_blk C 28 1 [] (pc' := 61) (lv' := []) (st' := []) rfl ?_
    exact s_vret C 29 rfl rfl
  refine s_blk C 30 2 [0, 1, 2] (pc' := 10) (lv' := [(0, .inr (.inl (some a0))), (1, .inr (.inl r1)), (2, .inl (x2 + (-1)))]) (st' := []) rfl ?_
  exact H10 _ _ _
def fRegion_takeOut_l10 (a0 : Nat) (fu : Nat) : Option Nat → Int32 → Mm → Option (Unit × Mm) := Nat.rec (fun r1 x2 M => none) (fun _ k => fRegion_takeOut_b10 a0 k) fu
theorem wRegion_takeOut_l10 {X : MC} {G : GE} {n0 : Nat} (C : CX X G RX6 cX6_takeOut pRegion_takeOut 3 none n0) (htab : ∀ z ∈ X.2.2.2.2.2.2.2.2.exceptionTable.toList, False) {σ : Sg} {n : Nat} (a0 : Nat) : ∀ (fu : Nat) (r1 : Option Nat) (x2 : Int32) (M : Mm), JS X G 3 300 0 n0 (EM X G n0 7 300 (eW rvU σ n)) (fRegion_takeOut_l10 a0 fu r1 x2 M) (σ, M, n) 10 [(0, .inr (.inl (some a0))), (1, .inr (.inl r1)), (2, .inl x2)] [] := by
  intro fu
  induction fu with
  | zero => intro r1 x2 M; exact s_none
  | succ fu ih => intro r1 x2 M; exact wRegion_takeOut_b10 C htab a0 (fRegion_takeOut_l10 a0 fu) ih _ _ _
def fRegion_takeOut (a0 : Nat) (r1 : Option Nat) (M : Mm) : Option (Unit × Mm) :=
  fgR 6 601 (some a0) M fun v1 =>
  rk 12 v1 M fun a2 =>
  bdR (fAl_size a2 M) fun v5 =>
  fRegion_takeOut_l10 a0 FU r1 (v5 - 1) M
theorem wRegion_takeOut {X : MC} {G : GE} {n0 : Nat} (C : CX X G RX6 cX6_takeOut pRegion_takeOut 3 none n0) (htab : ∀ z ∈ X.2.2.2.2.2.2.2.2.exceptionTable.toList, False) {σ : Sg} {n : Nat} (a0 : Nat) (r1 : Option Nat) (M : Mm) : JS X G 3 300 0 n0 (EM X G n0 7 300 (eW rvU σ n)) (fRegion_takeOut a0 r1 M) (σ, M, n) 0 [(0, .inr (.inl (some a0))), (1, .inr (.inl r1))] [] := by
  unfold fRegion_takeOut
  refine s_blk C 0 1 [0, 1] (pc' := 1) (lv' := [(0, .inr (.inl (some a0))), (1, .inr (.inl r1))]) (st' := [.inr (.inl (some a0))]) rfl ?_
  refine s_gR C 1 rfl fl_X6_21 rfl rfl (fun v1 => ?_)
  refine s_rk (fun a2 ha3 hk4 => ?_)
  subst ha3
  refine s_RI (CE_EM _ _ _ _ _ _) (st := []) (fun o ho => j_callV (As := []) (st := []) (b := a2) C 2 rfl mf_Al_size ml_X6_32 rfl (recv_K C (by decide) (by decide) rfl hk4) (by decide) (by decide) (Nat.le_refl _) rfl (cAl_size (CX_tr C) σ M n a2 o ho)) (fun v5 => ?_)
  refine s_blk C 3 3 [0, 1, 2] (pc' := 10) (lv' := [(0, .inr (.inl (some a0))), (1, .inr (.inl r1)), (2, .inl (v5 - 1))]) (st' := []) rfl ?_
  exact wRegion_takeOut_l10 C htab a0 FU _ _ _
theorem cRegion_takeOut {l : Launch} {G : GE} (htr : l.stackTraces = false) (σ : Sg) (M : Mm) (n : Nat) (a0 : Nat) (r1 : Option Nat) : ∀ o, fRegion_takeOut a0 r1 M = some o → MetX l G yX6_takeOut cX6_takeOut 3 none 7 300 [.inr (.inl (some a0)), .inr (.inl r1)] (σ, M, n) ((eW rvU σ n) o) :=
  c_ofX (by decide) kRegion_takeOut htr rfl rfl fun X _ _ C htab => wRegion_takeOut C htab a0 r1 _
def pRegion_ageOne_0 : List BR := [(0, .iload_n 2, 1, 0, 1), (1, .iconst 3, 1, 3, 2), (2, .if_icmp .eq (26), 3, 0, 28), (5, .aload_n 1, 1, 0, 6), (6, .getfield 42, 3, 0, 9), (9, .invokevirtual 106, 3, 0, 12), (12, .ifCond .ne (15), 3, 0, 27), (15, .aload_n 1, 1, 0, 16), (16, .aload_n 1, 1, 0, 17), (17, .getfield 110, 3, 0, 20), (20, .iload_n 2, 1, 0, 21), (21, .invokestatic 113, 3, 0, 24), (24, .putfield 110, 3, 0, 27), (27, .return_, 1, 0, 28), (28, .aload_n 0, 1, 0, 29), (29, .aload_n 1, 1, 0, 30), (30, .getfield 42, 3, 0, 33), (33, .getfield 46, 3, 0, 36), (36, .invokevirtual 119, 3, 0, 39), (39, .astore 4, 2, 0, 41), (41, .aload 4, 2, 0, 43), (43, .ifnull (25), 3, 0, 68), (46, .aload 4, 2, 0, 48), (48, .getfield 42, 3, 0, 51), (51, .getfield 52, 3, 0, 54), (54, .aload_n 1, 1, 0, 55), (55, .getfield 42, 3, 0, 58), (58, .getfield 52, 3, 0, 61), (61, .if_icmp .ne (7), 3, 0, 68), (64, .iconst 1, 1, 1, 65), (65, .goto (4), 3, 0, 69), (68, .iconst 0, 1, 0, 69), (69, .istore 5, 2, 0, 71), (71, .iload 5, 2, 0, 73), (73, .ifCond .ne (16), 3, 0, 89), (76, .aload_n 1, 1, 0, 77), (77, .iload_n 3, 1, 0, 78), (78, .invokevirtual 123, 3, 0, 81), (81, .ifCond .ne (8), 3, 0, 89), (84, .aload_n 0, 1, 0, 85)]
theorem kRegion_ageOne_0 : bOK cX6_ageOne 6 pRegion_ageOne_0 = true := by decide +kernel
def pRegion_ageOne_1 : List BR := [(85, .aload_n 1, 1, 0, 86), (86, .invokevirtual 127, 3, 0, 89), (89, .return_, 1, 0, 90)]
theorem kRegion_ageOne_1 : bOK cX6_ageOne 6 pRegion_ageOne_1 = true := by decide +kernel
def pRegion_ageOne : List BR := (pRegion_ageOne_0 ++ pRegion_ageOne_1)
theorem kRegion_ageOne : bOK cX6_ageOne 6 pRegion_ageOne = true := (bOK_app kRegion_ageOne_0 kRegion_ageOne_1)
def fRegion_ageOne_j69 (a0 : Nat) (r1 : Option Nat) (x3 : Int32) (s0 : Int32) (M : Mm) : Option (Unit × Mm) :=
  if s0 = 0 then
    rk 10 r1 M fun a1 =>
    bdR (fVersion_isLocked a1 x3 M) fun v4 =>
    if v4 = 0 then
      rk 6 (some a0) M fun _ =>
      bdW (fRegion_takeOut a0 r1 M) fun v6 M7 =>
      some ((), M7)
    else
      some ((), M)
  else
    some ((), M)
theorem wRegion_ageOne_j69 {X : MC} {G : GE} {n0 : Nat} (C : CX X G RX6 cX6_ageOne pRegion_ageOne 6 none n0) (htab : ∀ z ∈ X.2.2.2.2.2.2.2.2.exceptionTable.toList, False) {σ : Sg} {n : Nat} (a0 : Nat) (r1 : Option Nat) (x3 : Int32) (s0 : Int32) (M : Mm) : JS X G 6 300 0 n0 (EM X G n0 8 300 (eW rvU σ n)) (fRegion_ageOne_j69 a0 r1 x3 s0 M) (σ, M, n) 69 [(0, .inr (.inl (some a0))), (1, .inr (.inl r1)), (3, .inl x3)] [.inl s0] := by
  unfold fRegion_ageOne_j69
  refine s_blk C 32 2 [0, 1, 3] (pc' := 73) (lv' := [(0, .inr (.inl (some a0))), (1, .inr (.inl r1)), (3, .inl x3)]) (st' := [.inl s0]) rfl ?_
  refine s_ine C 34 rfl (fun _ => ?_) (fun _ => ?_)
  · refine s_blk C 35 2 [0, 1] (pc' := 78) (lv' := [(0, .inr (.inl (some a0))), (1, .inr (.inl r1))]) (st' := [.inl x3, .inr (.inl r1)]) rfl ?_
    refine s_rk (fun a1 ha2 hk3 => ?_)
    subst ha2
    refine s_RI (CE_EM _ _ _ _ _ _) (st := []) (fun o ho => j_callV (As := [.inl x3]) (st := []) (b := a1) C 37 rfl mf_Version_isLocked ml_X6_123 rfl (recv_K C (by decide) (by decide) rfl hk3) (by decide) (by decide) (Nat.le_refl _) rfl (cVersion_isLocked (CX_tr C) σ M n a1 x3 o ho)) (fun v4 => ?_)
    refine s_ine C 38 rfl (fun _ => ?_) (fun _ => ?_)
    · refine s_blk C 39 2 [] (pc' := 86) (lv' := []) (st' := [.inr (.inl (some a1)), .inr (.inl (some a0))]) rfl ?_
      refine s_rks (fun hk5 => ?_)
      refine s_WU (CE_EM _ _ _ _ _ _) (st := []) (fun o ho => j_callV (As := [.inr (.inl (some a1))]) (st := []) (b := a0) C 41 rfl mf_Region_takeOut ml_X6_127 rfl (recv_K C (by decide) (by decide) rfl hk5) (by decide) (by decide) (Nat.le_refl _) rfl (cRegion_takeOut (CX_tr C) σ M n a0 (some a1) o ho)) (fun v6 M7 => ?_)
      exact s_vret C 42 rfl rfl
    exact s_vret C 42 rfl rfl
  exact s_vret C 42 rfl rfl
def fRegion_ageOne_j68 (a0 : Nat) (r1 : Option Nat) (x3 : Int32) (M : Mm) : Option (Unit × Mm) :=
  fRegion_ageOne_j69 a0 r1 x3 0 M
theorem wRegion_ageOne_j68 {X : MC} {G : GE} {n0 : Nat} (C : CX X G RX6 cX6_ageOne pRegion_ageOne 6 none n0) (htab : ∀ z ∈ X.2.2.2.2.2.2.2.2.exceptionTable.toList, False) {σ : Sg} {n : Nat} (a0 : Nat) (r1 : Option Nat) (x3 : Int32) (M : Mm) : JS X G 6 300 0 n0 (EM X G n0 8 300 (eW rvU σ n)) (fRegion_ageOne_j68 a0 r1 x3 M) (σ, M, n) 68 [(0, .inr (.inl (some a0))), (1, .inr (.inl r1)), (3, .inl x3)] [] := by
  unfold fRegion_ageOne_j68
  refine s_blk C 31 1 [0, 1, 3] (pc' := 69) (lv' := [(0, .inr (.inl (some a0))), (1, .inr (.inl r1)), (3, .inl x3)]) (st' := [.inl 0]) rfl ?_
  exact wRegion_ageOne_j69 C htab a0 _ _ _ _
def fRegion_ageOne (a0 : Nat) (r1 : Option Nat) (x2 : Int32) (x3 : Int32) (M : Mm) : Option (Unit × Mm) :=
  if x2 = 3 then
    fgR 10 1000 r1 M fun v1 =>
    fgI 4 400 v1 M fun v2 =>
    rk 6 (some a0) M fun _ =>
    bdR (fRegion_latest a0 v2 M) fun v4 =>
    ifN v4
      (fRegion_ageOne_j68 a0 r1 x3 M)
      (fgR 10 1000 v4 M fun v5 =>
      fgI 4 401 v5 M fun v6 =>
      fgR 10 1000 r1 M fun v7 =>
      fgI 4 401 v7 M fun v8 =>
      if v6 = v8 then
        fRegion_ageOne_j69 a0 r1 x3 1 M
      else
        fRegion_ageOne_j68 a0 r1 x3 M)
  else
    fgR 10 1000 r1 M fun v9 =>
    rk 4 v9 M fun a10 =>
    bdR (fEntry_isMark a10 M) fun v13 =>
    if v13 = 0 then
      fgI 10 1002 r1 M fun v14 =>
      fpI 10 1002 r1 (if v14 < x2 then x2 else v14) M fun M15 =>
      some ((), M15)
    else
      some ((), M)
theorem wRegion_ageOne {X : MC} {G : GE} {n0 : Nat} (C : CX X G RX6 cX6_ageOne pRegion_ageOne 6 none n0) (htab : ∀ z ∈ X.2.2.2.2.2.2.2.2.exceptionTable.toList, False) {σ : Sg} {n : Nat} (a0 : Nat) (r1 : Option Nat) (x2 : Int32) (x3 : Int32) (M : Mm) : JS X G 6 300 0 n0 (EM X G n0 8 300 (eW rvU σ n)) (fRegion_ageOne a0 r1 x2 x3 M) (σ, M, n) 0 [(0, .inr (.inl (some a0))), (1, .inr (.inl r1)), (2, .inl x2), (3, .inl x3)] [] := by
  unfold fRegion_ageOne
  refine s_blk C 0 2 [0, 1, 2, 3] (pc' := 2) (lv' := [(0, .inr (.inl (some a0))), (1, .inr (.inl r1)), (2, .inl x2), (3, .inl x3)]) (st' := [.inl 3, .inl x2]) rfl ?_
  refine s_iceq C 2 rfl (fun _ => ?_) (fun _ => ?_)
  · refine s_blk C 14 2 [0, 1, 3] (pc' := 30) (lv' := [(0, .inr (.inl (some a0))), (1, .inr (.inl r1)), (3, .inl x3)]) (st' := [.inr (.inl r1), .inr (.inl (some a0))]) rfl ?_
    refine s_gR C 16 rfl fl_X6_42 rfl rfl (fun v1 => ?_)
    refine s_gI C 17 rfl fl_X6_46 rfl rfl (fun v2 => ?_)
    refine s_rks (fun hk3 => ?_)
    refine s_RR (CE_EM _ _ _ _ _ _) (st := []) (fun o ho => j_callV (As := [.inl v2]) (st := []) (b := a0) C 18 rfl mf_Region_latest ml_X6_119 rfl (recv_K C (by decide) (by decide) rfl hk3) (by decide) (by decide) (Nat.le_refl _) rfl (cRegion_latest (CX_tr C) σ M n a0 v2 o ho)) (fun v4 => ?_)
    refine s_blk C 19 2 [0, 1, 3, 4] (pc' := 43) (lv' := [(0, .inr (.inl (some a0))), (1, .inr (.inl r1)), (3, .inl x3), (4, .inr (.inl v4))]) (st' := [.inr (.inl v4)]) rfl ?_
    refine s_null C 21 rfl ?_ ?_
    · refine s_blk C 0 0 [0, 1, 3] (pc' := 68) (lv' := [(0, .inr (.inl (some a0))), (1, .inr (.inl r1)), (3, .inl x3)]) (st' := []) rfl ?_
      exact wRegion_ageOne_j68 C htab a0 _ _ _
    refine s_blk C 22 1 [0, 1, 3] (pc' := 48) (lv' := [(0, .inr (.inl (some a0))), (1, .inr (.inl r1)), (3, .inl x3)]) (st' := [.inr (.inl v4)]) rfl ?_
    refine s_gR C 23 rfl fl_X6_42 rfl rfl (fun v5 => ?_)
    refine s_gI C 24 rfl fl_X6_52 rfl rfl (fun v6 => ?_)
    refine s_blk C 25 1 [0, 1, 3] (pc' := 55) (lv' := [(0, .inr (.inl (some a0))), (1, .inr (.inl r1)), (3, .inl x3)]) (st' := [.inr (.inl r1), .inl v6]) rfl ?_
    refine s_gR C 26 rfl fl_X6_42 rfl rfl (fun v7 => ?_)
    refine s_gI C 27 rfl fl_X6_52 rfl rfl (fun v8 => ?_)
    refine s_icne C 28 rfl (fun _ => ?_) (fun _ => ?_)
    · refine s_blk C 29 2 [0, 1, 3] (pc' := 69) (lv' := [(0, .inr (.inl (some a0))), (1, .inr (.inl r1)), (3, .inl x3)]) (st' := [.inl 1]) rfl ?_
      exact wRegion_ageOne_j69 C htab a0 _ _ _ _
    exact wRegion_ageOne_j68 C htab a0 _ _ _
  refine s_blk C 3 1 [1, 2] (pc' := 6) (lv' := [(1, .inr (.inl r1)), (2, .inl x2)]) (st' := [.inr (.inl r1)]) rfl ?_
  refine s_gR C 4 rfl fl_X6_42 rfl rfl (fun v9 => ?_)
  refine s_rk (fun a10 ha11 hk12 => ?_)
  subst ha11
  refine s_RI (CE_EM _ _ _ _ _ _) (st := []) (fun o ho => j_callV (As := []) (st := []) (b := a10) C 5 rfl mf_Entry_isMark ml_X6_106 rfl (recv_K C (by decide) (by decide) rfl hk12) (by decide) (by decide) (Nat.le_refl _) rfl (cEntry_isMark (CX_tr C) σ M n a10 o ho)) (fun v13 => ?_)
  refine s_ine C 6 rfl (fun _ => ?_) (fun _ => ?_)
  · refine s_blk C 7 2 [2] (pc' := 17) (lv' := [(2, .inl x2)]) (st' := [.inr (.inl r1), .inr (.inl r1)]) rfl ?_
    refine s_gI C 9 rfl fl_X6_110 rfl rfl (fun v14 => ?_)
    refine s_blk C 10 1 [] (pc' := 21) (lv' := []) (st' := [.inl x2, .inl v14, .inr (.inl r1)]) rfl ?_
    refine s_max C (CE_EM _ _ _ _ _ _) 11 rfl ml_X6_113 (by decide) rfl ?_
    refine s_pI C 12 rfl fl_X6_110 fp_X6_10_2 (fun h => Bool.noConfusion h) rfl rfl (fun M15 _ => ?_)
    exact s_vret C 13 rfl rfl
  exact s_vret C 13 rfl rfl
theorem cRegion_ageOne {l : Launch} {G : GE} (htr : l.stackTraces = false) (σ : Sg) (M : Mm) (n : Nat) (a0 : Nat) (r1 : Option Nat) (x2 : Int32) (x3 : Int32) : ∀ o, fRegion_ageOne a0 r1 x2 x3 M = some o → MetX l G yX6_ageOne cX6_ageOne 6 none 8 300 [.inr (.inl (some a0)), .inr (.inl r1), .inl x2, .inl x3] (σ, M, n) ((eW rvU σ n) o) :=
  c_ofX (by decide) kRegion_ageOne htr rfl rfl fun X _ _ C htab => wRegion_ageOne C htab a0 r1 x2 x3 _
def pRegion_age : List BR := [(0, .aload_n 0, 1, 0, 1), (1, .getfield 21, 3, 0, 4), (4, .invokevirtual 32, 3, 0, 7), (7, .iconst 1, 1, 1, 8), (8, .isub, 1, 0, 9), (9, .istore_n 3, 1, 0, 10), (10, .iload_n 3, 1, 0, 11), (11, .ifCond .lt (46), 3, 0, 57), (14, .aload_n 0, 1, 0, 15), (15, .getfield 21, 3, 0, 18), (18, .iload_n 3, 1, 0, 19), (19, .invokevirtual 36, 3, 0, 22), (22, .checkcast 40, 3, 0, 25), (25, .astore 4, 2, 0, 27), (27, .aload_n 1, 1, 0, 28), (28, .aload 4, 2, 0, 30), (30, .getfield 42, 3, 0, 33), (33, .iload_n 2, 1, 0, 34), (34, .invokevirtual 93, 3, 0, 37), (37, .ifCond .eq (14), 3, 0, 51), (40, .aload_n 0, 1, 0, 41), (41, .aload 4, 2, 0, 43), (43, .aload_n 1, 1, 0, 44), (44, .getfield 99, 3, 0, 47), (47, .iload_n 2, 1, 0, 48), (48, .invokevirtual 102, 3, 0, 51), (51, .iinc 3 (-1), 3, -1, 54), (54, .goto (-44), 3, 0, 10), (57, .return_, 1, 0, 58)]
theorem kRegion_age : bOK cX6_age 5 pRegion_age = true := by decide +kernel
def fRegion_age_j51 (a0 : Nat) (k10 : Option Nat → Int32 → Int32 → Mm → Option (Unit × Mm)) (r1 : Option Nat) (x2 : Int32) (x3 : Int32) (M : Mm) : Option (Unit × Mm) :=
  k10 r1 x2 (x3 + (-1)) M
theorem wRegion_age_j51 {X : MC} {G : GE} {n0 : Nat} (C : CX X G RX6 cX6_age pRegion_age 5 none n0) (htab : ∀ z ∈ X.2.2.2.2.2.2.2.2.exceptionTable.toList, False) {σ : Sg} {n : Nat} (a0 : Nat) (k10 : Option Nat → Int32 → Int32 → Mm → Option (Unit × Mm)) (H10 : ∀ (r1 : Option Nat) (x2 : Int32) (x3 : Int32) (M : Mm), JS X G 5 300 0 n0 (EM X G n0 9 300 (eW rvU σ n)) (k10 r1 x2 x3 M) (σ, M, n) 10 [(0, .inr (.inl (some a0))), (1, .inr (.inl r1)), (2, .inl x2), (3, .inl x3)] []) (r1 : Option Nat) (x2 : Int32) (x3 : Int32) (M : Mm) : JS X G 5 300 0 n0 (EM X G n0 9 300 (eW rvU σ n)) (fRegion_age_j51 a0 k10 r1 x2 x3 M) (σ, M, n) 51 [(0, .inr (.inl (some a0))), (1, .inr (.inl r1)), (2, .inl x2), (3, .inl x3)] [] := by
  unfold fRegion_age_j51
  refine s_blk C 26 2 [0, 1, 2, 3] (pc' := 10) (lv' := [(0, .inr (.inl (some a0))), (1, .inr (.inl r1)), (2, .inl x2), (3, .inl (x3 + (-1)))]) (st' := []) rfl ?_
  exact H10 _ _ _ _
def fRegion_age_b10 (a0 : Nat) (k10 : Option Nat → Int32 → Int32 → Mm → Option (Unit × Mm)) (r1 : Option Nat) (x2 : Int32) (x3 : Int32) (M : Mm) : Option (Unit × Mm) :=
  if x3 < 0 then
    some ((), M)
  else
    fgR 6 601 (some a0) M fun v1 =>
    rk 12 v1 M fun a2 =>
    bdR (fAl_get a2 x3 M) fun v5 =>
    fca 10 v5 M fun v6 =>
    fgR 10 1000 v6 M fun v7 =>
    rk 7 r1 M fun a8 =>
    bdR (fRule_isFor a8 v7 x2 M) fun v11 =>
    if v11 = 0 then
      fRegion_age_j51 a0 k10 r1 x2 x3 M
    else
      fgI 7 702 r1 M fun v12 =>
      rk 6 (some a0) M fun _ =>
      bdW (fRegion_ageOne a0 v6 v12 x2 M) fun v14 M15 =>
      fRegion_age_j51 a0 k10 r1 x2 x3 M15
theorem wRegion_age_b10 {X : MC} {G : GE} {n0 : Nat} (C : CX X G RX6 cX6_age pRegion_age 5 none n0) (htab : ∀ z ∈ X.2.2.2.2.2.2.2.2.exceptionTable.toList, False) {σ : Sg} {n : Nat} (a0 : Nat) (k10 : Option Nat → Int32 → Int32 → Mm → Option (Unit × Mm)) (H10 : ∀ (r1 : Option Nat) (x2 : Int32) (x3 : Int32) (M : Mm), JS X G 5 300 0 n0 (EM X G n0 9 300 (eW rvU σ n)) (k10 r1 x2 x3 M) (σ, M, n) 10 [(0, .inr (.inl (some a0))), (1, .inr (.inl r1)), (2, .inl x2), (3, .inl x3)] []) (r1 : Option Nat) (x2 : Int32) (x3 : Int32) (M : Mm) : JS X G 5 300 0 n0 (EM X G n0 9 300 (eW rvU σ n)) (fRegion_age_b10 a0 k10 r1 x2 x3 M) (σ, M, n) 10 [(0, .inr (.inl (some a0))), (1, .inr (.inl r1)), (2, .inl x2), (3, .inl x3)] [] := by
  unfold fRegion_age_b10
  refine s_blk C 6 1 [0, 1, 2, 3] (pc' := 11) (lv' := [(0, .inr (.inl (some a0))), (1, .inr (.inl r1)), (2, .inl x2), (3, .inl x3)]) (st' := [.inl x3]) rfl ?_
  refine s_ilt C 7 rfl (fun _ => ?_) (fun _ => ?_)
  · exact s_vret C 28 rfl rfl
  refine s_blk C 8 1 [0, 1, 2, 3] (pc' := 15) (lv' := [(0, .inr (.inl (some a0))), (1, .inr (.inl r1)), (2, .inl x2), (3, .inl x3)]) (st' := [.inr (.inl (some a0))]) rfl ?_
  refine s_gR C 9 rfl fl_X6_21 rfl rfl (fun v1 => ?_)
  refine s_blk C 10 1 [0, 1, 2, 3] (pc' := 19) (lv' := [(0, .inr (.inl (some a0))), (1, .inr (.inl r1)), (2, .inl x2), (3, .inl x3)]) (st' := [.inl x3, .inr (.inl v1)]) rfl ?_
  refine s_rk (fun a2 ha3 hk4 => ?_)
  subst ha3
  refine s_RR (CE_EM _ _ _ _ _ _) (st := []) (fun o ho => j_callV (As := [.inl x3]) (st := []) (b := a2) C 11 rfl mf_Al_get ml_X6_36 rfl (recv_K C (by decide) (by decide) rfl hk4) (by decide) (by decide) (Nat.le_refl _) rfl (cAl_get (CX_tr C) σ M n a2 x3 o ho)) (fun v5 => ?_)
  refine s_cast C 12 rfl rfl (by decide) (by decide) cw_X6_40 (fun v6 => ?_)
  refine s_blk C 13 3 [0, 1, 2, 3, 4] (pc' := 30) (lv' := [(0, .inr (.inl (some a0))), (1, .inr (.inl r1)), (2, .inl x2), (3, .inl x3), (4, .inr (.inl v6))]) (st' := [.inr (.inl v6), .inr (.inl r1)]) rfl ?_
  refine s_gR C 16 rfl fl_X6_42 rfl rfl (fun v7 => ?_)
  refine s_blk C 17 1 [0, 1, 2, 3, 4] (pc' := 34) (lv' := [(0, .inr (.inl (some a0))), (1, .inr (.inl r1)), (2, .inl x2), (3, .inl x3), (4, .inr (.inl v6))]) (st' := [.inl x2, .inr (.inl v7), .inr (.inl r1)]) rfl ?_
  refine s_rk (fun a8 ha9 hk10 => ?_)
  subst ha9
  refine s_RI (CE_EM _ _ _ _ _ _) (st := []) (fun o ho => j_callV (As := [.inr (.inl v7), .inl x2]) (st := []) (b := a8) C 18 rfl mf_Rule_isFor ml_X6_93 rfl (recv_K C (by decide) (by decide) rfl hk10) (by decide) (by decide) (Nat.le_refl _) rfl (cRule_isFor (CX_tr C) σ M n a8 v7 x2 o ho)) (fun v11 => ?_)
  refine s_ieq C 19 rfl (fun _ => ?_) (fun _ => ?_)
  · refine s_blk C 0 0 [0, 1, 2, 3] (pc' := 51) (lv' := [(0, .inr (.inl (some a0))), (1, .inr (.inl (some a8))), (2, .inl x2), (3, .inl x3)]) (st' := []) rfl ?_
    exact wRegion_age_j51 C htab a0 k10 H10 _ _ _ _
  refine s_blk C 20 3 [0, 1, 2, 3] (pc' := 44) (lv' := [(0, .inr (.inl (some a0))), (1, .inr (.inl (some a8))), (2, .inl x2), (3, .inl x3)]) (st' := [.inr (.inl (some a8)), .inr (.inl v6), .inr (.inl (some a0))]) rfl ?_
  refine s_gI C 23 rfl fl_X6_99 rfl rfl (fun v12 => ?_)
  refine s_blk C 24 1 [0, 1, 2, 3] (pc' := 48) (lv' := [(0, .inr (.inl (some a0))), (1, .inr (.inl (some a8))), (2, .inl x2), (3, .inl x3)]) (st' := [.inl x2, .inl v12, .inr (.inl v6), .inr (.inl (some a0))]) rfl ?_
  refine s_rks (fun hk13 => ?_)
  refine s_WU (CE_EM _ _ _ _ _ _) (st := []) (fun o ho => j_callV (As := [.inr (.inl v6), .inl v12, .inl x2]) (st := []) (b := a0) C 25 rfl mf_Region_ageOne ml_X6_102 rfl (recv_K C (by decide) (by decide) rfl hk13) (by decide) (by decide) (Nat.le_refl _) rfl (cRegion_ageOne (CX_tr C) σ M n a0 v6 v12 x2 o ho)) (fun v14 M15 => ?_)
  exact wRegion_age_j51 C htab a0 k10 H10 _ _ _ _
def fRegion_age_l10 (a0 : Nat) (fu : Nat) : Option Nat → Int32 → Int32 → Mm → Option (Unit × Mm) := Nat.rec (fun r1 x2 x3 M => none) (fun _ k => fRegion_age_b10 a0 k) fu
theorem wRegion_age_l10 {X : MC} {G : GE} {n0 : Nat} (C : CX X G RX6 cX6_age pRegion_age 5 none n0) (htab : ∀ z ∈ X.2.2.2.2.2.2.2.2.exceptionTable.toList, False) {σ : Sg} {n : Nat} (a0 : Nat) : ∀ (fu : Nat) (r1 : Option Nat) (x2 : Int32) (x3 : Int32) (M : Mm), JS X G 5 300 0 n0 (EM X G n0 9 300 (eW rvU σ n)) (fRegion_age_l10 a0 fu r1 x2 x3 M) (σ, M, n) 10 [(0, .inr (.inl (some a0))), (1, .inr (.inl r1)), (2, .inl x2), (3, .inl x3)] [] := by
  intro fu
  induction fu with
  | zero => intro r1 x2 x3 M; exact s_none
  | succ fu ih => intro r1 x2 x3 M; exact wRegion_age_b10 C htab a0 (fRegion_age_l10 a0 fu) ih _ _ _ _
def fRegion_age (a0 : Nat) (r1 : Option Nat) (x2 : Int32) (M : Mm) : Option (Unit × Mm) :=
  fgR 6 601 (some a0) M fun v1 =>
  rk 12 v1 M fun a2 =>
  bdR (fAl_size a2 M) fun v5 =>
  fRegion_age_l10 a0 FU r1 x2 (v5 - 1) M
theorem wRegion_age {X : MC} {G : GE} {n0 : Nat} (C : CX X G RX6 cX6_age pRegion_age 5 none n0) (htab : ∀ z ∈ X.2.2.2.2.2.2.2.2.exceptionTable.toList, False) {σ : Sg} {n : Nat} (a0 : Nat) (r1 : Option Nat) (x2 : Int32) (M : Mm) : JS X G 5 300 0 n0 (EM X G n0 9 300 (eW rvU σ n)) (fRegion_age a0 r1 x2 M) (σ, M, n) 0 [(0, .inr (.inl (some a0))), (1, .inr (.inl r1)), (2, .inl x2)] [] := by
  unfold fRegion_age
  refine s_blk C 0 1 [0, 1, 2] (pc' := 1) (lv' := [(0, .inr (.inl (some a0))), (1, .inr (.inl r1)), (2, .inl x2)]) (st' := [.inr (.inl (some a0))]) rfl ?_
  refine s_gR C 1 rfl fl_X6_21 rfl rfl (fun v1 => ?_)
  refine s_rk (fun a2 ha3 hk4 => ?_)
  subst ha3
  refine s_RI (CE_EM _ _ _ _ _ _) (st := []) (fun o ho => j_callV (As := []) (st := []) (b := a2) C 2 rfl mf_Al_size ml_X6_32 rfl (recv_K C (by decide) (by decide) rfl hk4) (by decide) (by decide) (Nat.le_refl _) rfl (cAl_size (CX_tr C) σ M n a2 o ho)) (fun v5 => ?_)
  refine s_blk C 3 3 [0, 1, 2, 3] (pc' := 10) (lv' := [(0, .inr (.inl (some a0))), (1, .inr (.inl r1)), (2, .inl x2), (3, .inl (v5 - 1))]) (st' := []) rfl ?_
  exact wRegion_age_l10 C htab a0 FU _ _ _ _
theorem cRegion_age {l : Launch} {G : GE} (htr : l.stackTraces = false) (σ : Sg) (M : Mm) (n : Nat) (a0 : Nat) (r1 : Option Nat) (x2 : Int32) : ∀ o, fRegion_age a0 r1 x2 M = some o → MetX l G yX6_age cX6_age 5 none 9 300 [.inr (.inl (some a0)), .inr (.inl r1), .inl x2] (σ, M, n) ((eW rvU σ n) o) :=
  c_ofX (by decide) kRegion_age htr rfl rfl fun X _ _ C htab => wRegion_age C htab a0 r1 x2 _
def pHb_beginDay : List BR := [(0, .iconst 0, 1, 0, 1), (1, .istore_n 1, 1, 0, 2), (2, .iload_n 1, 1, 0, 3), (3, .aload_n 0, 1, 0, 4), (4, .getfield 39, 3, 0, 7), (7, .invokevirtual 136, 3, 0, 10), (10, .if_icmp .ge (53), 3, 0, 63), (13, .aload_n 0, 1, 0, 14), (14, .getfield 10, 3, 0, 17), (17, .aload_n 0, 1, 0, 18), (18, .getfield 39, 3, 0, 21), (21, .iload_n 1, 1, 0, 22), (22, .invokevirtual 315, 3, 0, 25), (25, .checkcast 258, 3, 0, 28), (28, .aload_n 0, 1, 0, 29), (29, .getfield 95, 3, 0, 32), (32, .invokevirtual 352, 3, 0, 35), (35, .aload_n 0, 1, 0, 36), (36, .getfield 16, 3, 0, 39), (39, .aload_n 0, 1, 0, 40), (40, .getfield 39, 3, 0, 43), (43, .iload_n 1, 1, 0, 44), (44, .invokevirtual 315, 3, 0, 47), (47, .checkcast 258, 3, 0, 50), (50, .aload_n 0, 1, 0, 51), (51, .getfield 95, 3, 0, 54), (54, .invokevirtual 352, 3, 0, 57), (57, .iinc 1 (1), 3, 1, 60), (60, .goto (-58), 3, 0, 2), (63, .return_, 1, 0, 64)]
theorem kHb_beginDay : bOK cX11_beginDay 2 pHb_beginDay = true := by decide +kernel
def fHb_beginDay_b2 (a0 : Nat) (k2 : Int32 → Mm → Option (Unit × Mm)) (x1 : Int32) (M : Mm) : Option (Unit × Mm) :=
  fgR 11 1106 (some a0) M fun v1 =>
  rk 12 v1 M fun a2 =>
  bdR (fAl_size a2 M) fun v5 =>
  if v5 ≤ x1 then
    some ((), M)
  else
    fgR 11 1100 (some a0) M fun v6 =>
    fgR 11 1106 (some a0) M fun v7 =>
    rk 12 v7 M fun a8 =>
    bdR (fAl_get a8 x1 M) fun v11 =>
    fca 7 v11 M fun v12 =>
    fgI 11 1109 (some a0) M fun v13 =>
    rk 6 v6 M fun a14 =>
    bdW (fRegion_age a14 v12 v13 M) fun v17 M18 =>
    fgR 11 1101 (some a0) M18 fun v19 =>
    fgR 11 1106 (some a0) M18 fun v20 =>
    rk 12 v20 M18 fun a21 =>
    bdR (fAl_get a21 x1 M18) fun v24 =>
    fca 7 v24 M18 fun v25 =>
    fgI 11 1109 (some a0) M18 fun v26 =>
    rk 6 v19 M18 fun a27 =>
    bdW (fRegion_age a27 v25 v26 M18) fun v30 M31 =>
    k2 (x1 + 1) M31
theorem wHb_beginDay_b2 {X : MC} {G : GE} {n0 : Nat} (C : CX X G RX11 cX11_beginDay pHb_beginDay 2 none n0) (htab : ∀ z ∈ X.2.2.2.2.2.2.2.2.exceptionTable.toList, False) {σ : Sg} {n : Nat} (a0 : Nat) (k2 : Int32 → Mm → Option (Unit × Mm)) (H2 : ∀ (x1 : Int32) (M : Mm), JS X G 2 300 0 n0 (EM X G n0 10 300 (eW rvU σ n)) (k2 x1 M) (σ, M, n) 2 [(0, .inr (.inl (some a0))), (1, .inl x1)] []) (x1 : Int32) (M : Mm) : JS X G 2 300 0 n0 (EM X G n0 10 300 (eW rvU σ n)) (fHb_beginDay_b2 a0 k2 x1 M) (σ, M, n) 2 [(0, .inr (.inl (some a0))), (1, .inl x1)] [] := by
  unfold fHb_beginDay_b2
  refine s_blk C 2 2 [0, 1] (pc' := 4) (lv' := [(0, .inr (.inl (some a0))), (1, .inl x1)]) (st' := [.inr (.inl (some a0)), .inl x1]) rfl ?_
  refine s_gR C 4 rfl fl_X11_39 rfl rfl (fun v1 => ?_)
  refine s_rk (fun a2 ha3 hk4 => ?_)
  subst ha3
  refine s_RI (CE_EM _ _ _ _ _ _) (st := [.inl x1]) (fun o ho => j_callV (As := []) (st := [.inl x1]) (b := a2) C 5 rfl mf_Al_size ml_X11_136 rfl (recv_K C (by decide) (by decide) rfl hk4) (by decide) (by decide) (Nat.le_refl _) rfl (cAl_size (CX_tr C) σ M n a2 o ho)) (fun v5 => ?_)
  refine s_icge C 6 rfl (fun _ => ?_) (fun _ => ?_)
  · exact s_vret C 29 rfl rfl
  refine s_blk C 7 1 [0, 1] (pc' := 14) (lv' := [(0, .inr (.inl (some a0))), (1, .inl x1)]) (st' := [.inr (.inl (some a0))]) rfl ?_
  refine s_gR C 8 rfl fl_X11_10 rfl rfl (fun v6 => ?_)
  refine s_blk C 9 1 [0, 1] (pc' := 18) (lv' := [(0, .inr (.inl (some a0))), (1, .inl x1)]) (st' := [.inr (.inl (some a0)), .inr (.inl v6)]) rfl ?_
  refine s_gR C 10 rfl fl_X11_39 rfl rfl (fun v7 => ?_)
  refine s_blk C 11 1 [0, 1] (pc' := 22) (lv' := [(0, .inr (.inl (some a0))), (1, .inl x1)]) (st' := [.inl x1, .inr (.inl v7), .inr (.inl v6)]) rfl ?_
  refine s_rk (fun a8 ha9 hk10 => ?_)
  subst ha9
  refine s_RR (CE_EM _ _ _ _ _ _) (st := [.inr (.inl v6)]) (fun o ho => j_callV (As := [.inl x1]) (st := [.inr (.inl v6)]) (b := a8) C 12 rfl mf_Al_get ml_X11_315 rfl (recv_K C (by decide) (by decide) rfl hk10) (by decide) (by decide) (Nat.le_refl _) rfl (cAl_get (CX_tr C) σ M n a8 x1 o ho)) (fun v11 => ?_)
  refine s_cast C 13 rfl rfl (by decide) (by decide) cw_X11_258 (fun v12 => ?_)
  refine s_blk C 14 1 [0, 1] (pc' := 29) (lv' := [(0, .inr (.inl (some a0))), (1, .inl x1)]) (st' := [.inr (.inl (some a0)), .inr (.inl v12), .inr (.inl v6)]) rfl ?_
  refine s_gI C 15 rfl fl_X11_95 rfl rfl (fun v13 => ?_)
  refine s_rk (fun a14 ha15 hk16 => ?_)
  subst ha15
  refine s_WU (CE_EM _ _ _ _ _ _) (st := []) (fun o ho => j_callV (As := [.inr (.inl v12), .inl v13]) (st := []) (b := a14) C 16 rfl mf_Region_age ml_X11_352 rfl (recv_K C (by decide) (by decide) rfl hk16) (by decide) (by decide) (Nat.le_refl _) rfl (cRegion_age (CX_tr C) σ M n a14 v12 v13 o ho)) (fun v17 M18 => ?_)
  refine s_blk C 17 1 [0, 1] (pc' := 36) (lv' := [(0, .inr (.inl (some a0))), (1, .inl x1)]) (st' := [.inr (.inl (some a0))]) rfl ?_
  refine s_gR C 18 rfl fl_X11_16 rfl rfl (fun v19 => ?_)
  refine s_blk C 19 1 [0, 1] (pc' := 40) (lv' := [(0, .inr (.inl (some a0))), (1, .inl x1)]) (st' := [.inr (.inl (some a0)), .inr (.inl v19)]) rfl ?_
  refine s_gR C 20 rfl fl_X11_39 rfl rfl (fun v20 => ?_)
  refine s_blk C 21 1 [0, 1] (pc' := 44) (lv' := [(0, .inr (.inl (some a0))), (1, .inl x1)]) (st' := [.inl x1, .inr (.inl v20), .inr (.inl v19)]) rfl ?_
  refine s_rk (fun a21 ha22 hk23 => ?_)
  subst ha22
  refine s_RR (CE_EM _ _ _ _ _ _) (st := [.inr (.inl v19)]) (fun o ho => j_callV (As := [.inl x1]) (st := [.inr (.inl v19)]) (b := a21) C 22 rfl mf_Al_get ml_X11_315 rfl (recv_K C (by decide) (by decide) rfl hk23) (by decide) (by decide) (Nat.le_refl _) rfl (cAl_get (CX_tr C) σ M18 n a21 x1 o ho)) (fun v24 => ?_)
  refine s_cast C 23 rfl rfl (by decide) (by decide) cw_X11_258 (fun v25 => ?_)
  refine s_blk C 24 1 [0, 1] (pc' := 51) (lv' := [(0, .inr (.inl (some a0))), (1, .inl x1)]) (st' := [.inr (.inl (some a0)), .inr (.inl v25), .inr (.inl v19)]) rfl ?_
  refine s_gI C 25 rfl fl_X11_95 rfl rfl (fun v26 => ?_)
  refine s_rk (fun a27 ha28 hk29 => ?_)
  subst ha28
  refine s_WU (CE_EM _ _ _ _ _ _) (st := []) (fun o ho => j_callV (As := [.inr (.inl v25), .inl v26]) (st := []) (b := a27) C 26 rfl mf_Region_age ml_X11_352 rfl (recv_K C (by decide) (by decide) rfl hk29) (by decide) (by decide) (Nat.le_refl _) rfl (cRegion_age (CX_tr C) σ M18 n a27 v25 v26 o ho)) (fun v30 M31 => ?_)
  refine s_blk C 27 2 [0, 1] (pc' := 2) (lv' := [(0, .inr (.inl (some a0))), (1, .inl (x1 + 1))]) (st' := []) rfl ?_
  exact H2 _ _
def fHb_beginDay_l2 (a0 : Nat) (fu : Nat) : Int32 → Mm → Option (Unit × Mm) := Nat.rec (fun x1 M => none) (fun _ k => fHb_beginDay_b2 a0 k) fu
theorem wHb_beginDay_l2 {X : MC} {G : GE} {n0 : Nat} (C : CX X G RX11 cX11_beginDay pHb_beginDay 2 none n0) (htab : ∀ z ∈ X.2.2.2.2.2.2.2.2.exceptionTable.toList, False) {σ : Sg} {n : Nat} (a0 : Nat) : ∀ (fu : Nat) (x1 : Int32) (M : Mm), JS X G 2 300 0 n0 (EM X G n0 10 300 (eW rvU σ n)) (fHb_beginDay_l2 a0 fu x1 M) (σ, M, n) 2 [(0, .inr (.inl (some a0))), (1, .inl x1)] [] := by
  intro fu
  induction fu with
  | zero => intro x1 M; exact s_none
  | succ fu ih => intro x1 M; exact wHb_beginDay_b2 C htab a0 (fHb_beginDay_l2 a0 fu) ih _ _
def fHb_beginDay (a0 : Nat) (M : Mm) : Option (Unit × Mm) :=
  fHb_beginDay_l2 a0 FU 0 M
theorem wHb_beginDay {X : MC} {G : GE} {n0 : Nat} (C : CX X G RX11 cX11_beginDay pHb_beginDay 2 none n0) (htab : ∀ z ∈ X.2.2.2.2.2.2.2.2.exceptionTable.toList, False) {σ : Sg} {n : Nat} (a0 : Nat) (M : Mm) : JS X G 2 300 0 n0 (EM X G n0 10 300 (eW rvU σ n)) (fHb_beginDay a0 M) (σ, M, n) 0 [(0, .inr (.inl (some a0)))] [] := by
  unfold fHb_beginDay
  refine s_blk C 0 2 [0, 1] (pc' := 2) (lv' := [(0, .inr (.inl (some a0))), (1, .inl 0)]) (st' := []) rfl ?_
  exact wHb_beginDay_l2 C htab a0 FU _ _
theorem cHb_beginDay {l : Launch} {G : GE} (htr : l.stackTraces = false) (σ : Sg) (M : Mm) (n : Nat) (a0 : Nat) : ∀ o, fHb_beginDay a0 M = some o → MetX l G yX11_beginDay cX11_beginDay 2 none 10 300 [.inr (.inl (some a0))] (σ, M, n) ((eW rvU σ n) o) :=
  c_ofX (by decide) kHb_beginDay htr rfl rfl fun X _ _ C htab => wHb_beginDay C htab a0 _
def pHb_behind : List BR := [(0, .aload_n 0, 1, 0, 1), (1, .iload_n 1, 1, 0, 2), (2, .invokevirtual 65, 3, 0, 5), (5, .getfield 273, 3, 0, 8), (8, .invokevirtual 136, 3, 0, 11), (11, .ireturn, 1, 0, 12)]
theorem kHb_behind : bOK cX11_behind 2 pHb_behind = true := by decide +kernel
def fHb_behind (a0 : Nat) (x1 : Int32) (M : Mm) (n : Nat) : Option ((Int32 ⊕ Nat) × Mm × Nat) :=
  rk 11 (some a0) M fun _ =>
  bdC (fHb_regionOf a0 x1 M n) n fun v2 M3 n4 =>
  fgR 6 602 v2 M3 fun v5 =>
  rk 12 v5 M3 fun a6 =>
  bdR (fAl_size a6 M3) fun v9 =>
  some (.inl v9, M3, n4)
theorem wHb_behind {X : MC} {G : GE} {n0 : Nat} (C : CX X G RX11 cX11_behind pHb_behind 2 (some .int) n0) (htab : ∀ z ∈ X.2.2.2.2.2.2.2.2.exceptionTable.toList, False) {σ : Sg} (a0 : Nat) (x1 : Int32) (M : Mm) (n : Nat) : JS X G 2 300 0 n0 (EM X G n0 8 300 (eC rvI σ)) (fHb_behind a0 x1 M n) (σ, M, n) 0 [(0, .inr (.inl (some a0))), (1, .inl x1)] [] := by
  unfold fHb_behind
  refine s_blk C 0 2 [] (pc' := 2) (lv' := []) (st' := [.inl x1, .inr (.inl (some a0))]) rfl ?_
  refine s_rks (fun hk1 => ?_)
  refine s_CR C htab (st := []) (fun o ho => j_callV (As := [.inl x1]) (st := []) (b := a0) C 2 rfl mf_Hb_regionOf ml_X11_65 rfl (recv_K C (by decide) (by decide) rfl hk1) (by decide) (by decide) (Nat.le_refl _) rfl (cHb_regionOf (CX_tr C) σ M n a0 x1 o ho)) (fun v2 M3 n4 _ => ?_)
  refine s_gR C 3 rfl fl_X11_273 rfl rfl (fun v5 => ?_)
  refine s_rk (fun a6 ha7 hk8 => ?_)
  subst ha7
  refine s_RI (CE_EM _ _ _ _ _ _) (st := []) (fun o ho => j_callV (As := []) (st := []) (b := a6) C 4 rfl mf_Al_size ml_X11_136 rfl (recv_K C (by decide) (by decide) rfl hk8) (by decide) (by decide) (Nat.le_refl _) rfl (cAl_size (CX_tr C) σ M3 n4 a6 o ho)) (fun v9 => ?_)
  exact s_iret C 5 rfl rfl
theorem cHb_behind {l : Launch} {G : GE} (htr : l.stackTraces = false) (σ : Sg) (M : Mm) (n : Nat) (a0 : Nat) (x1 : Int32) : ∀ o, fHb_behind a0 x1 M n = some o → MetX l G yX11_behind cX11_behind 2 (some .int) 8 300 [.inr (.inl (some a0)), .inl x1] (σ, M, n) ((eC rvI σ) o) :=
  c_ofX (by decide) kHb_behind htr rfl rfl fun X _ _ C htab => wHb_behind C htab a0 x1 _ _
def pVersion_isOpen : List BR := [(0, .aload_n 0, 1, 0, 1), (1, .iload_n 1, 1, 0, 2), (2, .invokevirtual 33, 3, 0, 5), (5, .ifCond .eq (15), 3, 0, 20), (8, .iload_n 1, 1, 0, 9), (9, .aload_n 0, 1, 0, 10), (10, .invokevirtual 29, 3, 0, 13), (13, .if_icmp .lt (7), 3, 0, 20), (16, .iconst 1, 1, 1, 17), (17, .goto (4), 3, 0, 21), (20, .iconst 0, 1, 0, 21), (21, .ireturn, 1, 0, 22)]
theorem kVersion_isOpen : bOK cX10_isOpen 2 pVersion_isOpen = true := by decide +kernel
def fVersion_isOpen (a0 : Nat) (x1 : Int32) (M : Mm) : Option (Int32) :=
  rk 10 (some a0) M fun _ =>
  bdR (fVersion_isAskedFor a0 x1 M) fun v2 =>
  if v2 = 0 then
    rZ 0 (some 0)
  else
    rk 10 (some a0) M fun _ =>
    bdR (fVersion_opensOn a0 M) fun v4 =>
    if x1 < v4 then
      rZ 0 (some 0)
    else
      rZ 1 (some 1)
theorem wVersion_isOpen {X : MC} {G : GE} {n0 : Nat} (C : CX X G RX10 cX10_isOpen pVersion_isOpen 2 (some .boolean) n0) (htab : ∀ z ∈ X.2.2.2.2.2.2.2.2.exceptionTable.toList, False) {σ : Sg} {M : Mm} {n : Nat} (a0 : Nat) (x1 : Int32) : JS X G 2 300 0 n0 (EM X G n0 4 300 (eR rvI σ M n)) (fVersion_isOpen a0 x1 M) (σ, M, n) 0 [(0, .inr (.inl (some a0))), (1, .inl x1)] [] := by
  unfold fVersion_isOpen
  refine s_blk C 0 2 [0, 1] (pc' := 2) (lv' := [(0, .inr (.inl (some a0))), (1, .inl x1)]) (st' := [.inl x1, .inr (.inl (some a0))]) rfl ?_
  refine s_rks (fun hk1 => ?_)
  refine s_RI (CE_EM _ _ _ _ _ _) (st := []) (fun o ho => j_callV (As := [.inl x1]) (st := []) (b := a0) C 2 rfl mf_Version_isAskedFor ml_X10_33 rfl (recv_K C (by decide) (by decide) rfl hk1) (by decide) (by decide) (Nat.le_refl _) rfl (cVersion_isAskedFor (CX_tr C) σ M n a0 x1 o ho)) (fun v2 => ?_)
  refine s_ieq C 3 rfl (fun _ => ?_) (fun _ => ?_)
  · refine s_blk C 10 1 [] (pc' := 21) (lv' := []) (st' := [.inl 0]) rfl ?_
    exact s_zret C 11 rfl rfl
  refine s_blk C 4 2 [] (pc' := 10) (lv' := []) (st' := [.inr (.inl (some a0)), .inl x1]) rfl ?_
  refine s_rks (fun hk3 => ?_)
  refine s_RI (CE_EM _ _ _ _ _ _) (st := [.inl x1]) (fun o ho => j_callV (As := []) (st := [.inl x1]) (b := a0) C 6 rfl mf_Version_opensOn ml_X10_29 rfl (recv_K C (by decide) (by decide) rfl hk3) (by decide) (by decide) (Nat.le_refl _) rfl (cVersion_opensOn (CX_tr C) σ M n a0 o ho)) (fun v4 => ?_)
  refine s_iclt C 7 rfl (fun _ => ?_) (fun _ => ?_)
  · refine s_blk C 10 1 [] (pc' := 21) (lv' := []) (st' := [.inl 0]) rfl ?_
    exact s_zret C 11 rfl rfl
  refine s_blk C 8 2 [] (pc' := 21) (lv' := []) (st' := [.inl 1]) rfl ?_
  exact s_zret C 11 rfl rfl
theorem cVersion_isOpen {l : Launch} {G : GE} (htr : l.stackTraces = false) (σ : Sg) (M : Mm) (n : Nat) (a0 : Nat) (x1 : Int32) : ∀ o, fVersion_isOpen a0 x1 M = some o → MetX l G yX10_isOpen cX10_isOpen 2 (some .boolean) 4 300 [.inr (.inl (some a0)), .inl x1] (σ, M, n) ((eR rvI σ M n) o) :=
  c_ofX (by decide) kVersion_isOpen htr rfl rfl fun X _ _ C htab => wVersion_isOpen C htab a0 x1

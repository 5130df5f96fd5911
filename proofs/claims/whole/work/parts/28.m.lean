def pCut_addPart : List BR := [(0, .aload_n 0, 1, 0, 1), (1, .getfield 18, 3, 0, 4), (4, .ifCond .lt (57), 3, 0, 61), (7, .aload_n 0, 1, 0, 8), (8, .getfield 18, 3, 0, 11), (11, .aload_n 0, 1, 0, 12), (12, .getfield 9, 3, 0, 15), (15, .arraylength, 1, 0, 16), (16, .if_icmp .ge (45), 3, 0, 61), (19, .aload_n 0, 1, 0, 20), (20, .getfield 18, 3, 0, 23), (23, .aload_n 0, 1, 0, 24), (24, .getfield 15, 3, 0, 27), (27, .arraylength, 1, 0, 28), (28, .if_icmp .ge (33), 3, 0, 61), (31, .aload_n 0, 1, 0, 32), (32, .getfield 9, 3, 0, 35), (35, .aload_n 0, 1, 0, 36), (36, .getfield 18, 3, 0, 39), (39, .iload_n 1, 1, 0, 40), (40, .iastore, 1, 0, 41), (41, .aload_n 0, 1, 0, 42), (42, .getfield 15, 3, 0, 45), (45, .aload_n 0, 1, 0, 46), (46, .getfield 18, 3, 0, 49), (49, .iload_n 2, 1, 0, 50), (50, .iastore, 1, 0, 51), (51, .aload_n 0, 1, 0, 52), (52, .dup, 1, 0, 53), (53, .getfield 18, 3, 0, 56), (56, .iconst 1, 1, 1, 57), (57, .iadd, 1, 0, 58), (58, .putfield 18, 3, 0, 61), (61, .return_, 1, 0, 62)]
theorem kCut_addPart : bOK cX2_addPart 3 pCut_addPart = true := by decide +kernel
def fCut_addPart (a0 : Nat) (x1 : Int32) (x2 : Int32) (M : Mm) : Option (Unit × Mm) :=
  fgI 3 302 (some a0) M fun v1 =>
  if v1 < 0 then
    some ((), M)
  else
    fgI 3 302 (some a0) M fun v2 =>
    fgR 3 300 (some a0) M fun v3 =>
    aln v3 M fun v4 =>
    if v4 ≤ v2 then
      some ((), M)
    else
      fgI 3 302 (some a0) M fun v5 =>
      fgR 3 301 (some a0) M fun v6 =>
      aln v6 M fun v7 =>
      if v7 ≤ v5 then
        some ((), M)
      else
        fgR 3 300 (some a0) M fun v8 =>
        fgI 3 302 (some a0) M fun v9 =>
        asI v8 v9 x1 M fun M10 =>
        fgR 3 301 (some a0) M10 fun v11 =>
        fgI 3 302 (some a0) M10 fun v12 =>
        asI v11 v12 x2 M10 fun M13 =>
        fgI 3 302 (some a0) M13 fun v14 =>
        fpI 3 302 (some a0) (v14 + 1) M13 fun M15 =>
        some ((), M15)
theorem wCut_addPart {X : MC} {G : GE} {n0 : Nat} (C : CX X G RX2 cX2_addPart pCut_addPart 3 none n0) (htab : ∀ z ∈ X.2.2.2.2.2.2.2.2.exceptionTable.toList, False) {σ : Sg} {n : Nat} (a0 : Nat) (x1 : Int32) (x2 : Int32) (M : Mm) : JS X G 3 300 0 n0 (EM X G n0 2 300 (eW rvU σ n)) (fCut_addPart a0 x1 x2 M) (σ, M, n) 0 [(0, .inr (.inl (some a0))), (1, .inl x1), (2, .inl x2)] [] := by
  unfold fCut_addPart
  refine s_blk C 0 1 [0, 1, 2] (pc' := 1) (lv' := [(0, .inr (.inl (some a0))), (1, .inl x1), (2, .inl x2)]) (st' := [.inr (.inl (some a0))]) rfl ?_
  refine s_gI C 1 rfl fl_X2_18 rfl rfl (fun v1 => ?_)
  refine s_ilt C 2 rfl (fun _ => ?_) (fun _ => ?_)
  · exact s_vret C 33 rfl rfl
  refine s_blk C 3 1 [0, 1, 2] (pc' := 8) (lv' := [(0, .inr (.inl (some a0))), (1, .inl x1), (2, .inl x2)]) (st' := [.inr (.inl (some a0))]) rfl ?_
  refine s_gI C 4 rfl fl_X2_18 rfl rfl (fun v2 => ?_)
  refine s_blk C 5 1 [0, 1, 2] (pc' := 12) (lv' := [(0, .inr (.inl (some a0))), (1, .inl x1), (2, .inl x2)]) (st' := [.inr (.inl (some a0)), .inl v2]) rfl ?_
  refine s_gR C 6 rfl fl_X2_9 rfl rfl (fun v3 => ?_)
  refine s_len C 7 rfl (fun v4 => ?_)
  refine s_icge C 8 rfl (fun _ => ?_) (fun _ => ?_)
  · exact s_vret C 33 rfl rfl
  refine s_blk C 9 1 [0, 1, 2] (pc' := 20) (lv' := [(0, .inr (.inl (some a0))), (1, .inl x1), (2, .inl x2)]) (st' := [.inr (.inl (some a0))]) rfl ?_
  refine s_gI C 10 rfl fl_X2_18 rfl rfl (fun v5 => ?_)
  refine s_blk C 11 1 [0, 1, 2] (pc' := 24) (lv' := [(0, .inr (.inl (some a0))), (1, .inl x1), (2, .inl x2)]) (st' := [.inr (.inl (some a0)), .inl v5]) rfl ?_
  refine s_gR C 12 rfl fl_X2_15 rfl rfl (fun v6 => ?_)
  refine s_len C 13 rfl (fun v7 => ?_)
  refine s_icge C 14 rfl (fun _ => ?_) (fun _ => ?_)
  · exact s_vret C 33 rfl rfl
  refine s_blk C 15 1 [0, 1, 2] (pc' := 32) (lv' := [(0, .inr (.inl (some a0))), (1, .inl x1), (2, .inl x2)]) (st' := [.inr (.inl (some a0))]) rfl ?_
  refine s_gR C 16 rfl fl_X2_9 rfl rfl (fun v8 => ?_)
  refine s_blk C 17 1 [0, 1, 2] (pc' := 36) (lv' := [(0, .inr (.inl (some a0))), (1, .inl x1), (2, .inl x2)]) (st' := [.inr (.inl (some a0)), .inr (.inl v8)]) rfl ?_
  refine s_gI C 18 rfl fl_X2_18 rfl rfl (fun v9 => ?_)
  refine s_blk C 19 1 [0, 2] (pc' := 40) (lv' := [(0, .inr (.inl (some a0))), (2, .inl x2)]) (st' := [.inl x1, .inl v9, .inr (.inl v8)]) rfl ?_
  refine s_stI C 20 rfl (fun M10 _ => ?_)
  refine s_blk C 21 1 [0, 2] (pc' := 42) (lv' := [(0, .inr (.inl (some a0))), (2, .inl x2)]) (st' := [.inr (.inl (some a0))]) rfl ?_
  refine s_gR C 22 rfl fl_X2_15 rfl rfl (fun v11 => ?_)
  refine s_blk C 23 1 [0, 2] (pc' := 46) (lv' := [(0, .inr (.inl (some a0))), (2, .inl x2)]) (st' := [.inr (.inl (some a0)), .inr (.inl v11)]) rfl ?_
  refine s_gI C 24 rfl fl_X2_18 rfl rfl (fun v12 => ?_)
  refine s_blk C 25 1 [0] (pc' := 50) (lv' := [(0, .inr (.inl (some a0)))]) (st' := [.inl x2, .inl v12, .inr (.inl v11)]) rfl ?_
  refine s_stI C 26 rfl (fun M13 _ => ?_)
  refine s_blk C 27 2 [] (pc' := 53) (lv' := []) (st' := [.inr (.inl (some a0)), .inr (.inl (some a0))]) rfl ?_
  refine s_gI C 29 rfl fl_X2_18 rfl rfl (fun v14 => ?_)
  refine s_blk C 30 2 [] (pc' := 58) (lv' := []) (st' := [.inl (v14 + 1), .inr (.inl (some a0))]) rfl ?_
  refine s_pI C 32 rfl fl_X2_18 fp_X2_3_2 (fun h => Bool.noConfusion h) rfl rfl (fun M15 _ => ?_)
  exact s_vret C 33 rfl rfl
theorem cCut_addPart {l : Launch} {G : GE} (htr : l.stackTraces = false) (σ : Sg) (M : Mm) (n : Nat) (a0 : Nat) (x1 : Int32) (x2 : Int32) : ∀ o, fCut_addPart a0 x1 x2 M = some o → MetX l G yX2_addPart cX2_addPart 3 none 2 300 [.inr (.inl (some a0)), .inl x1, .inl x2] (σ, M, n) ((eW rvU σ n) o) :=
  c_ofX (by decide) kCut_addPart htr rfl rfl fun X _ _ C htab => wCut_addPart C htab a0 x1 x2 _
def pCut_cut : List BR := [(0, .aload_n 0, 1, 0, 1), (1, .iconst 0, 1, 0, 2), (2, .putfield 18, 3, 0, 5), (5, .iconst 0, 1, 0, 6), (6, .istore_n 2, 1, 0, 7), (7, .iconst 1, 1, 1, 8), (8, .istore_n 3, 1, 0, 9), (9, .iload_n 3, 1, 0, 10), (10, .aload_n 1, 1, 0, 11), (11, .getfield 22, 3, 0, 14), (14, .if_icmp .gt (34), 3, 0, 48), (17, .iload_n 3, 1, 0, 18), (18, .aload_n 1, 1, 0, 19), (19, .getfield 22, 3, 0, 22), (22, .if_icmp .eq (12), 3, 0, 34), (25, .aload_n 1, 1, 0, 26), (26, .iload_n 2, 1, 0, 27), (27, .iload_n 3, 1, 0, 28), (28, .invokestatic 25, 3, 0, 31), (31, .ifCond .eq (11), 3, 0, 42), (34, .aload_n 0, 1, 0, 35), (35, .iload_n 2, 1, 0, 36), (36, .iload_n 3, 1, 0, 37), (37, .invokevirtual 29, 3, 0, 40), (40, .iload_n 3, 1, 0, 41), (41, .istore_n 2, 1, 0, 42), (42, .iinc 3 (1), 3, 1, 45), (45, .goto (-36), 3, 0, 9), (48, .return_, 1, 0, 49)]
theorem kCut_cut : bOK cX2_cut 4 pCut_cut = true := by decide +kernel
def fCut_cut_j42 (a0 : Nat) (k9 : Option Nat → Int32 → Int32 → Mm → Option (Unit × Mm)) (r1 : Option Nat) (x2 : Int32) (x3 : Int32) (M : Mm) : Option (Unit × Mm) :=
  k9 r1 x2 (x3 + 1) M
theorem wCut_cut_j42 {X : MC} {G : GE} {n0 : Nat} (C : CX X G RX2 cX2_cut pCut_cut 4 none n0) (htab : ∀ z ∈ X.2.2.2.2.2.2.2.2.exceptionTable.toList, False) {σ : Sg} {n : Nat} (a0 : Nat) (k9 : Option Nat → Int32 → Int32 → Mm → Option (Unit × Mm)) (H9 : ∀ (r1 : Option Nat) (x2 : Int32) (x3 : Int32) (M : Mm), JS X G 4 300 0 n0 (EM X G n0 4 300 (eW rvU σ n)) (k9 r1 x2 x3 M) (σ, M, n) 9 [(0, .inr (.inl (some a0))), (1, .inr (.inl r1)), (2, .inl x2), (3, .inl x3)] []) (r1 : Option Nat) (x2 : Int32) (x3 : Int32) (M : Mm) : JS X G 4 300 0 n0 (EM X G n0 4 300 (eW rvU σ n)) (fCut_cut_j42 a0 k9 r1 x2 x3 M) (σ, M, n) 42 [(0, .inr (.inl (some a0))), (1, .inr (.inl r1)), (2, .inl x2), (3, .inl x3)] [] := by
  unfold fCut_cut_j42
  refine s_blk C 26 2 [0, 1, 2, 3] (pc' := 9) (lv' := [(0, .inr (.inl (some a0))), (1, .inr (.inl r1)), (2, .inl x2), (3, .inl (x3 + 1))]) (st' := []) rfl ?_
  exact H9 _ _ _ _
def fCut_cut_j34 (a0 : Nat) (k9 : Option Nat → Int32 → Int32 → Mm → Option (Unit × Mm)) (r1 : Option Nat) (x2 : Int32) (x3 : Int32) (M : Mm) : Option (Unit × Mm) :=
  rk 3 (some a0) M fun _ =>
  bdW (fCut_addPart a0 x2 x3 M) fun v2 M3 =>
  fCut_cut_j42 a0 k9 r1 x3 x3 M3
theorem wCut_cut_j34 {X : MC} {G : GE} {n0 : Nat} (C : CX X G RX2 cX2_cut pCut_cut 4 none n0) (htab : ∀ z ∈ X.2.2.2.2.2.2.2.2.exceptionTable.toList, False) {σ : Sg} {n : Nat} (a0 : Nat) (k9 : Option Nat → Int32 → Int32 → Mm → Option (Unit × Mm)) (H9 : ∀ (r1 : Option Nat) (x2 : Int32) (x3 : Int32) (M : Mm), JS X G 4 300 0 n0 (EM X G n0 4 300 (eW rvU σ n)) (k9 r1 x2 x3 M) (σ, M, n) 9 [(0, .inr (.inl (some a0))), (1, .inr (.inl r1)), (2, .inl x2), (3, .inl x3)] []) (r1 : Option Nat) (x2 : Int32) (x3 : Int32) (M : Mm) : JS X G 4 300 0 n0 (EM X G n0 4 300 (eW rvU σ n)) (fCut_cut_j34 a0 k9 r1 x2 x3 M) (σ, M, n) 34 [(0, .inr (.inl (some a0))), (1, .inr (.inl r1)), (2, .inl x2), (3, .inl x3)] [] := by
  unfold fCut_cut_j34
  refine s_blk C 20 3 [0, 1, 3] (pc' := 37) (lv' := [(0, .inr (.inl (some a0))), (1, .inr (.inl r1)), (3, .inl x3)]) (st' := [.inl x3, .inl x2, .inr (.inl (some a0))]) rfl ?_
  refine s_rks (fun hk1 => ?_)
  refine s_WU (CE_EM _ _ _ _ _ _) (st := []) (fun o ho => j_callV (As := [.inl x2, .inl x3]) (st := []) (b := a0) C 23 rfl mf_Cut_addPart ml_X2_29 rfl (recv_K C (by decide) (by decide) rfl hk1) (by decide) (by decide) (Nat.le_refl _) rfl (cCut_addPart (CX_tr C) σ M n a0 x2 x3 o ho)) (fun v2 M3 => ?_)
  refine s_blk C 24 2 [0, 1, 2, 3] (pc' := 42) (lv' := [(0, .inr (.inl (some a0))), (1, .inr (.inl r1)), (2, .inl x3), (3, .inl x3)]) (st' := []) rfl ?_
  exact wCut_cut_j42 C htab a0 k9 H9 _ _ _ _
def fCut_cut_b9 (a0 : Nat) (k9 : Option Nat → Int32 → Int32 → Mm → Option (Unit × Mm)) (r1 : Option Nat) (x2 : Int32) (x3 : Int32) (M : Mm) : Option (Unit × Mm) :=
  fgI 1 101 r1 M fun v1 =>
  if v1 < x3 then
    some ((), M)
  else
    fgI 1 101 r1 M fun v2 =>
    if x3 = v2 then
      fCut_cut_j34 a0 k9 r1 x2 x3 M
    else
      bdR (fCut_endsPart r1 x2 x3 M) fun v3 =>
      if v3 = 0 then
        fCut_cut_j42 a0 k9 r1 x2 x3 M
      else
        fCut_cut_j34 a0 k9 r1 x2 x3 M
theorem wCut_cut_b9 {X : MC} {G : GE} {n0 : Nat} (C : CX X G RX2 cX2_cut pCut_cut 4 none n0) (htab : ∀ z ∈ X.2.2.2.2.2.2.2.2.exceptionTable.toList, False) {σ : Sg} {n : Nat} (a0 : Nat) (k9 : Option Nat → Int32 → Int32 → Mm → Option (Unit × Mm)) (H9 : ∀ (r1 : Option Nat) (x2 : Int32) (x3 : Int32) (M : Mm), JS X G 4 300 0 n0 (EM X G n0 4 300 (eW rvU σ n)) (k9 r1 x2 x3 M) (σ, M, n) 9 [(0, .inr (.inl (some a0))), (1, .inr (.inl r1)), (2, .inl x2), (3, .inl x3)] []) (r1 : Option Nat) (x2 : Int32) (x3 : Int32) (M : Mm) : JS X G 4 300 0 n0 (EM X G n0 4 300 (eW rvU σ n)) (fCut_cut_b9 a0 k9 r1 x2 x3 M) (σ, M, n) 9 [(0, .inr (.inl (some a0))), (1, .inr (.inl r1)), (2, .inl x2), (3, .inl x3)] [] := by
  unfold fCut_cut_b9
  refine s_blk C 7 2 [0, 1, 2, 3] (pc' := 11) (lv' := [(0, .inr (.inl (some a0))), (1, .inr (.inl r1)), (2, .inl x2), (3, .inl x3)]) (st' := [.inr (.inl r1), .inl x3]) rfl ?_
  refine s_gI C 9 rfl fl_X2_22 rfl rfl (fun v1 => ?_)
  refine s_icgt C 10 rfl (fun _ => ?_) (fun _ => ?_)
  · exact s_vret C 28 rfl rfl
  refine s_blk C 11 2 [0, 1, 2, 3] (pc' := 19) (lv' := [(0, .inr (.inl (some a0))), (1, .inr (.inl r1)), (2, .inl x2), (3, .inl x3)]) (st' := [.inr (.inl r1), .inl x3]) rfl ?_
  refine s_gI C 13 rfl fl_X2_22 rfl rfl (fun v2 => ?_)
  refine s_iceq C 14 rfl (fun _ => ?_) (fun _ => ?_)
  · exact wCut_cut_j34 C htab a0 k9 H9 _ _ _ _
  refine s_blk C 15 3 [0, 1, 2, 3] (pc' := 28) (lv' := [(0, .inr (.inl (some a0))), (1, .inr (.inl r1)), (2, .inl x2), (3, .inl x3)]) (st' := [.inl x3, .inl x2, .inr (.inl r1)]) rfl ?_
  refine s_RI (CE_EM _ _ _ _ _ _) (st := []) (fun o ho => j_callS (As := [.inr (.inl r1), .inl x2, .inl x3]) (st := []) C 18 rfl mf_Cut_endsPart ml_X2_25 rfl (by decide) (by decide) (Nat.le_refl _) rfl (cCut_endsPart (CX_tr C) σ M n r1 x2 x3 o ho)) (fun v3 => ?_)
  refine s_ieq C 19 rfl (fun _ => ?_) (fun _ => ?_)
  · exact wCut_cut_j42 C htab a0 k9 H9 _ _ _ _
  exact wCut_cut_j34 C htab a0 k9 H9 _ _ _ _
def fCut_cut_l9 (a0 : Nat) (fu : Nat) : Option Nat → Int32 → Int32 → Mm → Option (Unit × Mm) := Nat.rec (fun r1 x2 x3 M => none) (fun _ k => fCut_cut_b9 a0 k) fu
theorem wCut_cut_l9 {X : MC} {G : GE} {n0 : Nat} (C : CX X G RX2 cX2_cut pCut_cut 4 none n0) (htab : ∀ z ∈ X.2.2.2.2.2.2.2.2.exceptionTable.toList, False) {σ : Sg} {n : Nat} (a0 : Nat) : ∀ (fu : Nat) (r1 : Option Nat) (x2 : Int32) (x3 : Int32) (M : Mm), JS X G 4 300 0 n0 (EM X G n0 4 300 (eW rvU σ n)) (fCut_cut_l9 a0 fu r1 x2 x3 M) (σ, M, n) 9 [(0, .inr (.inl (some a0))), (1, .inr (.inl r1)), (2, .inl x2), (3, .inl x3)] [] := by
  intro fu
  induction fu with
  | zero => intro r1 x2 x3 M; exact s_none
  | succ fu ih => intro r1 x2 x3 M; exact wCut_cut_b9 C htab a0 (fCut_cut_l9 a0 fu) ih _ _ _ _
def fCut_cut (a0 : Nat) (r1 : Option Nat) (M : Mm) : Option (Unit × Mm) :=
  fpI 3 302 (some a0) 0 M fun M1 =>
  fCut_cut_l9 a0 FU r1 0 1 M1
theorem wCut_cut {X : MC} {G : GE} {n0 : Nat} (C : CX X G RX2 cX2_cut pCut_cut 4 none n0) (htab : ∀ z ∈ X.2.2.2.2.2.2.2.2.exceptionTable.toList, False) {σ : Sg} {n : Nat} (a0 : Nat) (r1 : Option Nat) (M : Mm) : JS X G 4 300 0 n0 (EM X G n0 4 300 (eW rvU σ n)) (fCut_cut a0 r1 M) (σ, M, n) 0 [(0, .inr (.inl (some a0))), (1, .inr (.inl r1))] [] := by
  unfold fCut_cut
  refine s_blk C 0 2 [0, 1] (pc' := 2) (lv' := [(0, .inr (.inl (some a0))), (1, .inr (.inl r1))]) (st' := [.inl 0, .inr (.inl (some a0))]) rfl ?_
  refine s_pI C 2 rfl fl_X2_18 fp_X2_3_2 (fun h => Bool.noConfusion h) rfl rfl (fun M1 _ => ?_)
  refine s_blk C 3 4 [0, 1, 2, 3] (pc' := 9) (lv' := [(0, .inr (.inl (some a0))), (1, .inr (.inl r1)), (2, .inl 0), (3, .inl 1)]) (st' := []) rfl ?_
  exact wCut_cut_l9 C htab a0 FU _ _ _ _
theorem cCut_cut {l : Launch} {G : GE} (htr : l.stackTraces = false) (σ : Sg) (M : Mm) (n : Nat) (a0 : Nat) (r1 : Option Nat) : ∀ o, fCut_cut a0 r1 M = some o → MetX l G yX2_cut cX2_cut 4 none 4 300 [.inr (.inl (some a0)), .inr (.inl r1)] (σ, M, n) ((eW rvU σ n) o) :=
  c_ofX (by decide) kCut_cut htr rfl rfl fun X _ _ C htab => wCut_cut C htab a0 r1 _
def pCut_startOf : List BR := [(0, .iload_n 1, 1, 0, 1), (1, .ifCond .lt (21), 3, 0, 22), (4, .iload_n 1, 1, 0, 5), (5, .aload_n 0, 1, 0, 6), (6, .getfield 9, 3, 0, 9), (9, .arraylength, 1, 0, 10), (10, .if_icmp .ge (12), 3, 0, 22), (13, .aload_n 0, 1, 0, 14), (14, .getfield 9, 3, 0, 17), (17, .iload_n 1, 1, 0, 18), (18, .iaload, 1, 0, 19), (19, .goto (4), 3, 0, 23), (22, .iconst 0, 1, 0, 23), (23, .ireturn, 1, 0, 24)]
theorem kCut_startOf : bOK cX2_startOf 2 pCut_startOf = true := by decide +kernel
def fCut_startOf (a0 : Nat) (x1 : Int32) (M : Mm) : Option (Int32) :=
  if x1 < 0 then
    some 0
  else
    fgR 3 300 (some a0) M fun v1 =>
    aln v1 M fun v2 =>
    if v2 ≤ x1 then
      some 0
    else
      fgR 3 300 (some a0) M fun v3 =>
      alI 21 v3 x1 M fun v4 =>
      some v4
theorem wCut_startOf {X : MC} {G : GE} {n0 : Nat} (C : CX X G RX2 cX2_startOf pCut_startOf 2 (some .int) n0) (htab : ∀ z ∈ X.2.2.2.2.2.2.2.2.exceptionTable.toList, False) {σ : Sg} {M : Mm} {n : Nat} (a0 : Nat) (x1 : Int32) : JS X G 2 300 0 n0 (EM X G n0 2 300 (eR rvI σ M n)) (fCut_startOf a0 x1 M) (σ, M, n) 0 [(0, .inr (.inl (some a0))), (1, .inl x1)] [] := by
  unfold fCut_startOf
  refine s_blk C 0 1 [0, 1] (pc' := 1) (lv' := [(0, .inr (.inl (some a0))), (1, .inl x1)]) (st' := [.inl x1]) rfl ?_
  refine s_ilt C 1 rfl (fun _ => ?_) (fun _ => ?_)
  · refine s_blk C 12 1 [] (pc' := 23) (lv' := []) (st' := [.inl 0]) rfl ?_
    exact s_iret C 13 rfl rfl
  refine s_blk C 2 2 [0, 1] (pc' := 6) (lv' := [(0, .inr (.inl (some a0))), (1, .inl x1)]) (st' := [.inr (.inl (some a0)), .inl x1]) rfl ?_
  refine s_gR C 4 rfl fl_X2_9 rfl rfl (fun v1 => ?_)
  refine s_len C 5 rfl (fun v2 => ?_)
  refine s_icge C 6 rfl (fun _ => ?_) (fun _ => ?_)
  · refine s_blk C 12 1 [] (pc' := 23) (lv' := []) (st' := [.inl 0]) rfl ?_
    exact s_iret C 13 rfl rfl
  refine s_blk C 7 1 [1] (pc' := 14) (lv' := [(1, .inl x1)]) (st' := [.inr (.inl (some a0))]) rfl ?_
  refine s_gR C 8 rfl fl_X2_9 rfl rfl (fun v3 => ?_)
  refine s_blk C 9 1 [] (pc' := 18) (lv' := []) (st' := [.inl x1, .inr (.inl v3)]) rfl ?_
  refine s_ldI C 10 rfl (fun v4 => ?_)
  refine s_blk C 11 1 [] (pc' := 23) (lv' := []) (st' := [.inl v4]) rfl ?_
  exact s_iret C 13 rfl rfl
theorem cCut_startOf {l : Launch} {G : GE} (htr : l.stackTraces = false) (σ : Sg) (M : Mm) (n : Nat) (a0 : Nat) (x1 : Int32) : ∀ o, fCut_startOf a0 x1 M = some o → MetX l G yX2_startOf cX2_startOf 2 (some .int) 2 300 [.inr (.inl (some a0)), .inl x1] (σ, M, n) ((eR rvI σ M n) o) :=
  c_ofX (by decide) kCut_startOf htr rfl rfl fun X _ _ C htab => wCut_startOf C htab a0 x1
def pCut_endOf : List BR := [(0, .iload_n 1, 1, 0, 1), (1, .ifCond .lt (21), 3, 0, 22), (4, .iload_n 1, 1, 0, 5), (5, .aload_n 0, 1, 0, 6), (6, .getfield 15, 3, 0, 9), (9, .arraylength, 1, 0, 10), (10, .if_icmp .ge (12), 3, 0, 22), (13, .aload_n 0, 1, 0, 14), (14, .getfield 15, 3, 0, 17), (17, .iload_n 1, 1, 0, 18), (18, .iaload, 1, 0, 19), (19, .goto (4), 3, 0, 23), (22, .iconst 0, 1, 0, 23), (23, .ireturn, 1, 0, 24)]
theorem kCut_endOf : bOK cX2_endOf 2 pCut_endOf = true := by decide +kernel
def fCut_endOf (a0 : Nat) (x1 : Int32) (M : Mm) : Option (Int32) :=
  if x1 < 0 then
    some 0
  else
    fgR 3 301 (some a0) M fun v1 =>
    aln v1 M fun v2 =>
    if v2 ≤ x1 then
      some 0
    else
      fgR 3 301 (some a0) M fun v3 =>
      alI 21 v3 x1 M fun v4 =>
      some v4
theorem wCut_endOf {X : MC} {G : GE} {n0 : Nat} (C : CX X G RX2 cX2_endOf pCut_endOf 2 (some .int) n0) (htab : ∀ z ∈ X.2.2.2.2.2.2.2.2.exceptionTable.toList, False) {σ : Sg} {M : Mm} {n : Nat} (a0 : Nat) (x1 : Int32) : JS X G 2 300 0 n0 (EM X G n0 2 300 (eR rvI σ M n)) (fCut_endOf a0 x1 M) (σ, M, n) 0 [(0, .inr (.inl (some a0))), (1, .inl x1)] [] := by
  unfold fCut_endOf
  refine s_blk C 0 1 [0, 1] (pc' := 1) (lv' := [(0, .inr (.inl (some a0))), (1, .inl x1)]) (st' := [.inl x1]) rfl ?_
  refine s_ilt C 1 rfl (fun _ => ?_) (fun _ => ?_)
  · refine s_blk C 12 1 [] (pc' := 23) (lv' := []) (st' := [.inl 0]) rfl ?_
    exact s_iret C 13 rfl rfl
  refine s_blk C 2 2 [0, 1] (pc' := 6) (lv' := [(0, .inr (.inl (some a0))), (1, .inl x1)]) (st' := [.inr (.inl (some a0)), .inl x1]) rfl ?_
  refine s_gR C 4 rfl fl_X2_15 rfl rfl (fun v1 => ?_)
  refine s_len C 5 rfl (fun v2 => ?_)
  refine s_icge C 6 rfl (fun _ => ?_) (fun _ => ?_)
  · refine s_blk C 12 1 [] (pc' := 23) (lv' := []) (st' := [.inl 0]) rfl ?_
    exact s_iret C 13 rfl rfl
  refine s_blk C 7 1 [1] (pc' := 14) (lv' := [(1, .inl x1)]) (st' := [.inr (.inl (some a0))]) rfl ?_
  refine s_gR C 8 rfl fl_X2_15 rfl rfl (fun v3 => ?_)
  refine s_blk C 9 1 [] (pc' := 18) (lv' := []) (st' := [.inl x1, .inr (.inl v3)]) rfl ?_
  refine s_ldI C 10 rfl (fun v4 => ?_)
  refine s_blk C 11 1 [] (pc' := 23) (lv' := []) (st' := [.inl v4]) rfl ?_
  exact s_iret C 13 rfl rfl
theorem cCut_endOf {l : Launch} {G : GE} (htr : l.stackTraces = false) (σ : Sg) (M : Mm) (n : Nat) (a0 : Nat) (x1 : Int32) : ∀ o, fCut_endOf a0 x1 M = some o → MetX l G yX2_endOf cX2_endOf 2 (some .int) 2 300 [.inr (.inl (some a0)), .inl x1] (σ, M, n) ((eR rvI σ M n) o) :=
  c_ofX (by decide) kCut_endOf htr rfl rfl fun X _ _ C htab => wCut_endOf C htab a0 x1
def pPart_isSame : List BR := [(0, .aload_n 0, 1, 0, 1), (1, .getfield 30, 3, 0, 4), (4, .iload_n 3, 1, 0, 5), (5, .iload_n 2, 1, 0, 6), (6, .isub, 1, 0, 7), (7, .if_icmp .eq (5), 3, 0, 12), (10, .iconst 0, 1, 0, 11), (11, .ireturn, 1, 0, 12), (12, .iconst 0, 1, 0, 13), (13, .istore 4, 2, 0, 15), (15, .iload 4, 2, 0, 17), (17, .aload_n 0, 1, 0, 18), (18, .getfield 30, 3, 0, 21), (21, .if_icmp .ge (39), 3, 0, 60), (24, .iload 4, 2, 0, 26), (26, .aload_n 0, 1, 0, 27), (27, .getfield 9, 3, 0, 30), (30, .arraylength, 1, 0, 31), (31, .if_icmp .ge (29), 3, 0, 60), (34, .aload_n 0, 1, 0, 35), (35, .getfield 9, 3, 0, 38), (38, .iload 4, 2, 0, 40), (40, .baload, 1, 0, 41), (41, .aload_n 1, 1, 0, 42), (42, .iload_n 2, 1, 0, 43), (43, .iload 4, 2, 0, 45), (45, .iadd, 1, 0, 46), (46, .invokevirtual 33, 3, 0, 49), (49, .if_icmp .eq (5), 3, 0, 54), (52, .iconst 0, 1, 0, 53), (53, .ireturn, 1, 0, 54), (54, .iinc 4 (1), 3, 1, 57), (57, .goto (-42), 3, 0, 15), (60, .iconst 1, 1, 1, 61), (61, .ireturn, 1, 0, 62)]
theorem kPart_isSame : bOK cX5_isSame 5 pPart_isSame = true := by decide +kernel
def fPart_isSame_b15 (a0 : Nat) (k15 : Option Nat → Int32 → Int32 → Mm → Option (Int32)) (r1 : Option Nat) (x2 : Int32) (x4 : Int32) (M : Mm) : Option (Int32) :=
  fgI 5 501 (some a0) M fun v1 =>
  if v1 ≤ x4 then
    rZ 1 (some 1)
  else
    fgR 5 502 (some a0) M fun v2 =>
    aln v2 M fun v3 =>
    if v3 ≤ x4 then
      rZ 1 (some 1)
    else
      fgR 5 502 (some a0) M fun v4 =>
      alI 20 v4 x4 M fun v5 =>
      rk 1 r1 M fun a6 =>
      bdR (fBytes_at a6 (x2 + x4) M) fun v9 =>
      if v5 = v9 then
        k15 r1 x2 (x4 + 1) M
      else
        rZ 0 (some 0)
theorem wPart_isSame_b15 {X : MC} {G : GE} {n0 : Nat} (C : CX X G RX5 cX5_isSame pPart_isSame 5 (some .boolean) n0) (htab : ∀ z ∈ X.2.2.2.2.2.2.2.2.exceptionTable.toList, False) {σ : Sg} {M : Mm} {n : Nat} (a0 : Nat) (k15 : Option Nat → Int32 → Int32 → Mm → Option (Int32)) (H15 : ∀ (r1 : Option Nat) (x2 : Int32) (x4 : Int32), JS X G 5 300 0 n0 (EM X G n0 3 300 (eR rvI σ M n)) (k15 r1 x2 x4 M) (σ, M, n) 15 [(0, .inr (.inl (some a0))), (1, .inr (.inl r1)), (2, .inl x2), (4, .inl x4)] []) (r1 : Option Nat) (x2 : Int32) (x4 : Int32) : JS X G 5 300 0 n0 (EM X G n0 3 300 (eR rvI σ M n)) (fPart_isSame_b15 a0 k15 r1 x2 x4 M) (σ, M, n) 15 [(0, .inr (.inl (some a0))), (1, .inr (.inl r1)), (2, .inl x2), (4, .inl x4)] [] := by
  unfold fPart_isSame_b15
  refine s_blk C 10 2 [0, 1, 2, 4] (pc' := 18) (lv' := [(0, .inr (.inl (some a0))), (1, .inr (.inl r1)), (2, .inl x2), (4, .inl x4)]) (st' := [.inr (.inl (some a0)), .inl x4]) rfl ?_
  refine s_gI C 12 rfl fl_X5_30 rfl rfl (fun v1 => ?_)
  refine s_icge C 13 rfl (fun _ => ?_) (fun _ => ?_)
  · refine s_blk C 33 1 [] (pc' := 61) (lv' := []) (st' := [.inl 1]) rfl ?_
    exact s_zret C 34 rfl rfl
  refine s_blk C 14 2 [0, 1, 2, 4] (pc' := 27) (lv' := [(0, .inr (.inl (some a0))), (1, .inr (.inl r1)), (2, .inl x2), (4, .inl x4)]) (st' := [.inr (.inl (some a0)), .inl x4]) rfl ?_
  refine s_gR C 16 rfl fl_X5_9 rfl rfl (fun v2 => ?_)
  refine s_len C 17 rfl (fun v3 => ?_)
  refine s_icge C 18 rfl (fun _ => ?_) (fun _ => ?_)
  · refine s_blk C 33 1 [] (pc' := 61) (lv' := []) (st' := [.inl 1]) rfl ?_
    exact s_zret C 34 rfl rfl
  refine s_blk C 19 1 [0, 1, 2, 4] (pc' := 35) (lv' := [(0, .inr (.inl (some a0))), (1, .inr (.inl r1)), (2, .inl x2), (4, .inl x4)]) (st' := [.inr (.inl (some a0))]) rfl ?_
  refine s_gR C 20 rfl fl_X5_9 rfl rfl (fun v4 => ?_)
  refine s_blk C 21 1 [0, 1, 2, 4] (pc' := 40) (lv' := [(0, .inr (.inl (some a0))), (1, .inr (.inl r1)), (2, .inl x2), (4, .inl x4)]) (st' := [.inl x4, .inr (.inl v4)]) rfl ?_
  refine s_ldB C 22 rfl (fun v5 => ?_)
  refine s_blk C 23 4 [0, 1, 2, 4] (pc' := 46) (lv' := [(0, .inr (.inl (some a0))), (1, .inr (.inl r1)), (2, .inl x2), (4, .inl x4)]) (st' := [.inl (x2 + x4), .inr (.inl r1), .inl v5]) rfl ?_
  refine s_rk (fun a6 ha7 hk8 => ?_)
  subst ha7
  refine s_RI (CE_EM _ _ _ _ _ _) (st := [.inl v5]) (fun o ho => j_callV (As := [.inl (x2 + x4)]) (st := [.inl v5]) (b := a6) C 27 rfl mf_Bytes_at ml_X5_33 rfl (recv_K C (by decide) (by decide) rfl hk8) (by decide) (by decide) (Nat.le_refl _) rfl (cBytes_at (CX_tr C) σ M n a6 (x2 + x4) o ho)) (fun v9 => ?_)
  refine s_iceq C 28 rfl (fun _ => ?_) (fun _ => ?_)
  · refine s_blk C 31 2 [0, 1, 2, 4] (pc' := 15) (lv' := [(0, .inr (.inl (some a0))), (1, .inr (.inl (some a6))), (2, .inl x2), (4, .inl (x4 + 1))]) (st' := []) rfl ?_
    exact H15 _ _ _
  refine s_blk C 29 1 [] (pc' := 53) (lv' := []) (st' := [.inl 0]) rfl ?_
  exact s_zret C 30 rfl rfl
def fPart_isSame_l15 (a0 : Nat) (fu : Nat) : Option Nat → Int32 → Int32 → Mm → Option (Int32) := Nat.rec (fun r1 x2 x4 M => none) (fun _ k => fPart_isSame_b15 a0 k) fu
theorem wPart_isSame_l15 {X : MC} {G : GE} {n0 : Nat} (C : CX X G RX5 cX5_isSame pPart_isSame 5 (some .boolean) n0) (htab : ∀ z ∈ X.2.2.2.2.2.2.2.2.exceptionTable.toList, False) {σ : Sg} {M : Mm} {n : Nat} (a0 : Nat) : ∀ (fu : Nat) (r1 : Option Nat) (x2 : Int32) (x4 : Int32), JS X G 5 300 0 n0 (EM X G n0 3 300 (eR rvI σ M n)) (fPart_isSame_l15 a0 fu r1 x2 x4 M) (σ, M, n) 15 [(0, .inr (.inl (some a0))), (1, .inr (.inl r1)), (2, .inl x2), (4, .inl x4)] [] := by
  intro fu
  induction fu with
  | zero => intro r1 x2 x4; exact s_none
  | succ fu ih => intro r1 x2 x4; exact wPart_isSame_b15 C htab a0 (fPart_isSame_l15 a0 fu) ih _ _ _
def fPart_isSame (a0 : Nat) (r1 : Option Nat) (x2 : Int32) (x3 : Int32) (M : Mm) : Option (Int32) :=
  fgI 5 501 (some a0) M fun v1 =>
  if v1 = (x3 - x2) then
    fPart_isSame_l15 a0 FU r1 x2 0 M
  else
    rZ 0 (some 0)
theorem wPart_isSame {X : MC} {G : GE} {n0 : Nat} (C : CX X G RX5 cX5_isSame pPart_isSame 5 (some .boolean) n0) (htab : ∀ z ∈ X.2.2.2.2.2.2.2.2.exceptionTable.toList, False) {σ : Sg} {M : Mm} {n : Nat} (a0 : Nat) (r1 : Option Nat) (x2 : Int32) (x3 : Int32) : JS X G 5 300 0 n0 (EM X G n0 3 300 (eR rvI σ M n)) (fPart_isSame a0 r1 x2 x3 M) (σ, M, n) 0 [(0, .inr (.inl (some a0))), (1, .inr (.inl r1)), (2, .inl x2), (3, .inl x3)] [] := by
  unfold fPart_isSame
  refine s_blk C 0 1 [0, 1, 2, 3] (pc' := 1) (lv' := [(0, .inr (.inl (some a0))), (1, .inr (.inl r1)), (2, .inl x2), (3, .inl x3)]) (st' := [.inr (.inl (some a0))]) rfl ?_
  refine s_gI C 1 rfl fl_X5_30 rfl rfl (fun v1 => ?_)
  refine s_blk C 2 3 [0, 1, 2] (pc' := 7) (lv' := [(0, .inr (.inl (some a0))), (1, .inr (.inl r1)), (2, .inl x2)]) (st' := [.inl (x3 - x2), .inl v1]) rfl ?_
  refine s_iceq C 5 rfl (fun _ => ?_) (fun _ => ?_)
  · refine s_blk C 8 2 [0, 1, 2, 4] (pc' := 15) (lv' := [(0, .inr (.inl (some a0))), (1, .inr (.inl r1)), (2, .inl x2), (4, .inl 0)]) (st' := []) rfl ?_
    exact wPart_isSame_l15 C htab a0 FU _ _ _
  refine s_blk C 6 1 [] (pc' := 11) (lv' := []) (st' := [.inl 0]) rfl ?_
  exact s_zret C 7 rfl rfl
theorem cPart_isSame {l : Launch} {G : GE} (htr : l.stackTraces = false) (σ : Sg) (M : Mm) (n : Nat) (a0 : Nat) (r1 : Option Nat) (x2 : Int32) (x3 : Int32) : ∀ o, fPart_isSame a0 r1 x2 x3 M = some o → MetX l G yX5_isSame cX5_isSame 5 (some .boolean) 3 300 [.inr (.inl (some a0)), .inr (.inl r1), .inl x2, .inl x3] (σ, M, n) ((eR rvI σ M n) o) :=
  c_ofX (by decide) kPart_isSame htr rfl rfl fun X _ _ C htab => wPart_isSame C htab a0 r1 x2 x3
def pStore_find : List BR := [(0, .iconst 0, 1, 0, 1), (1, .istore 4, 2, 0, 3), (3, .iload 4, 2, 0, 5), (5, .aload_n 0, 1, 0, 6), (6, .getfield 18, 3, 0, 9), (9, .invokevirtual 40, 3, 0, 12), (12, .if_icmp .ge (45), 3, 0, 57), (15, .aload_n 0, 1, 0, 16), (16, .getfield 18, 3, 0, 19), (19, .iload 4, 2, 0, 21), (21, .invokevirtual 44, 3, 0, 24), (24, .checkcast 48, 3, 0, 27), (27, .astore 5, 2, 0, 29), (29, .aload 5, 2, 0, 31), (31, .getfield 54, 3, 0, 34), (34, .ifCond .ne (17), 3, 0, 51), (37, .aload 5, 2, 0, 39), (39, .aload_n 1, 1, 0, 40), (40, .iload_n 2, 1, 0, 41), (41, .iload_n 3, 1, 0, 42), (42, .invokevirtual 92, 3, 0, 45), (45, .ifCond .eq (6), 3, 0, 51), (48, .aload 5, 2, 0, 50), (50, .areturn, 1, 0, 51), (51, .iinc 4 (1), 3, 1, 54), (54, .goto (-51), 3, 0, 3), (57, .aconst_null, 1, 0, 58), (58, .areturn, 1, 0, 59)]
theorem kStore_find : bOK cX8_find 6 pStore_find = true := by decide +kernel
def fStore_find_j51 (a0 : Nat) (k3 : Option Nat → Int32 → Int32 → Int32 → Mm → Option (Option Nat)) (r1 : Option Nat) (x2 : Int32) (x3 : Int32) (x4 : Int32) (M : Mm) : Option (Option Nat) :=
  k3 r1 x2 x3 (x4 + 1) M
theorem wStore_find_j51 {X : MC} {G : GE} {n0 : Nat} (C : CX X G RX8 cX8_find pStore_find 6 (some (.object "BlobHarbor$Part")) n0) (htab : ∀ z ∈ X.2.2.2.2.2.2.2.2.exceptionTable.toList, False) {σ : Sg} {M : Mm} {n : Nat} (a0 : Nat) (k3 : Option Nat → Int32 → Int32 → Int32 → Mm → Option (Option Nat)) (H3 : ∀ (r1 : Option Nat) (x2 : Int32) (x3 : Int32) (x4 : Int32), JS X G 6 300 0 n0 (EM X G n0 5 300 (eR rvR σ M n)) (k3 r1 x2 x3 x4 M) (σ, M, n) 3 [(0, .inr (.inl (some a0))), (1, .inr (.inl r1)), (2, .inl x2), (3, .inl x3), (4, .inl x4)] []) (r1 : Option Nat) (x2 : Int32) (x3 : Int32) (x4 : Int32) : JS X G 6 300 0 n0 (EM X G n0 5 300 (eR rvR σ M n)) (fStore_find_j51 a0 k3 r1 x2 x3 x4 M) (σ, M, n) 51 [(0, .inr (.inl (some a0))), (1, .inr (.inl r1)), (2, .inl x2), (3, .inl x3), (4, .inl x4)] [] := by
  unfold fStore_find_j51
  refine s_blk C 24 2 [0, 1, 2, 3, 4] (pc' := 3) (lv' := [(0, .inr (.inl (some a0))), (1, .inr (.inl r1)), (2, .inl x2), (3, .inl x3), (4, .inl (x4 + 1))]) (st' := []) rfl ?_
  exact H3 _ _ _ _
def fStore_find_b3 (a0 : Nat) (k3 : Option Nat → Int32 → Int32 → Int32 → Mm → Option (Option Nat)) (r1 : Option Nat) (x2 : Int32) (x3 : Int32) (x4 : Int32) (M : Mm) : Option (Option Nat) :=
  fgR 8 801 (some a0) M fun v1 =>
  rk 12 v1 M fun a2 =>
  bdR (fAl_size a2 M) fun v5 =>
  if v5 ≤ x4 then
    some none
  else
    fgR 8 801 (some a0) M fun v6 =>
    rk 12 v6 M fun a7 =>
    bdR (fAl_get a7 x4 M) fun v10 =>
    fca 5 v10 M fun v11 =>
    fgI 5 507 v11 M fun v12 =>
    if v12 = 0 then
      rk 5 v11 M fun a13 =>
      bdR (fPart_isSame a13 r1 x2 x3 M) fun v16 =>
      if v16 = 0 then
        fStore_find_j51 a0 k3 r1 x2 x3 x4 M
      else
        some v11
    else
      fStore_find_j51 a0 k3 r1 x2 x3 x4 M
theorem wStore_find_b3 {X : MC} {G : GE} {n0 : Nat} (C : CX X G RX8 cX8_find pStore_find 6 (some (.object "BlobHarbor$Part")) n0) (htab : ∀ z ∈ X.2.2.2.2.2.2.2.2.exceptionTable.toList, False) {σ : Sg} {M : Mm} {n : Nat} (a0 : Nat) (k3 : Option Nat → Int32 → Int32 → Int32 → Mm → Option (Option Nat)) (H3 : ∀ (r1 : Option Nat) (x2 : Int32) (x3 : Int32) (x4 : Int32), JS X G 6 300 0 n0 (EM X G n0 5 300 (eR rvR σ M n)) (k3 r1 x2 x3 x4 M) (σ, M, n) 3 [(0, .inr (.inl (some a0))), (1, .inr (.inl r1)), (2, .inl x2), (3, .inl x3), (4, .inl x4)] []) (r1 : Option Nat) (x2 : Int32) (x3 : Int32) (x4 : Int32) : JS X G 6 300 0 n0 (EM X G n0 5 300 (eR rvR σ M n)) (fStore_find_b3 a0 k3 r1 x2 x3 x4 M) (σ, M, n) 3 [(0, .inr (.inl (some a0))), (1, .inr (.inl r1)), (2, .inl x2), (3, .inl x3), (4, .inl x4)] [] := by
  unfold fStore_find_b3
  refine s_blk C 2 2 [0, 1, 2, 3, 4] (pc' := 6) (lv' := [(0, .inr (.inl (some a0))), (1, .inr (.inl r1)), (2, .inl x2), (3, .inl x3), (4, .inl x4)]) (st' := [.inr (.inl (some a0)), .inl x4]) rfl ?_
  refine s_gR C 4 rfl fl_X8_18 rfl rfl (fun v1 => ?_)
  refine s_rk (fun a2 ha3 hk4 => ?_)
  subst ha3
  refine s_RI (CE_EM _ _ _ _ _ _) (st := [.inl x4]) (fun o ho => j_callV (As := []) (st := [.inl x4]) (b := a2) C 5 rfl mf_Al_size ml_X8_40 rfl (recv_K C (by decide) (by decide) rfl hk4) (by decide) (by decide) (Nat.le_refl _) rfl (cAl_size (CX_tr C) σ M n a2 o ho)) (fun v5 => ?_)
  refine s_icge C 6 rfl (fun _ => ?_) (fun _ => ?_)
  · refine s_blk C 26 1 [] (pc' := 58) (lv' := []) (st' := [.inr (.inl none)]) rfl ?_
    exact s_aret (Or.inl ⟨_, rfl⟩) C 27 rfl rfl
  refine s_blk C 7 1 [0, 1, 2, 3, 4] (pc' := 16) (lv' := [(0, .inr (.inl (some a0))), (1, .inr (.inl r1)), (2, .inl x2), (3, .inl x3), (4, .inl x4)]) (st' := [.inr (.inl (some a0))]) rfl ?_
  refine s_gR C 8 rfl fl_X8_18 rfl rfl (fun v6 => ?_)
  refine s_blk C 9 1 [0, 1, 2, 3, 4] (pc' := 21) (lv' := [(0, .inr (.inl (some a0))), (1, .inr (.inl r1)), (2, .inl x2), (3, .inl x3), (4, .inl x4)]) (st' := [.inl x4, .inr (.inl v6)]) rfl ?_
  refine s_rk (fun a7 ha8 hk9 => ?_)
  subst ha8
  refine s_RR (CE_EM _ _ _ _ _ _) (st := []) (fun o ho => j_callV (As := [.inl x4]) (st := []) (b := a7) C 10 rfl mf_Al_get ml_X8_44 rfl (recv_K C (by decide) (by decide) rfl hk9) (by decide) (by decide) (Nat.le_refl _) rfl (cAl_get (CX_tr C) σ M n a7 x4 o ho)) (fun v10 => ?_)
  refine s_cast C 11 rfl rfl (by decide) (by decide) cw_X8_48 (fun v11 => ?_)
  refine s_blk C 12 2 [0, 1, 2, 3, 4, 5] (pc' := 31) (lv' := [(0, .inr (.inl (some a0))), (1, .inr (.inl r1)), (2, .inl x2), (3, .inl x3), (4, .inl x4), (5, .inr (.inl v11))]) (st' := [.inr (.inl v11)]) rfl ?_
  refine s_gI C 14 rfl fl_X8_54 rfl rfl (fun v12 => ?_)
  refine s_ine C 15 rfl (fun _ => ?_) (fun _ => ?_)
  · refine s_blk C 16 4 [0, 1, 2, 3, 4, 5] (pc' := 42) (lv' := [(0, .inr (.inl (some a0))), (1, .inr (.inl r1)), (2, .inl x2), (3, .inl x3), (4, .inl x4), (5, .inr (.inl v11))]) (st' := [.inl x3, .inl x2, .inr (.inl r1), .inr (.inl v11)]) rfl ?_
    refine s_rk (fun a13 ha14 hk15 => ?_)
    subst ha14
    refine s_RI (CE_EM _ _ _ _ _ _) (st := []) (fun o ho => j_callV (As := [.inr (.inl r1), .inl x2, .inl x3]) (st := []) (b := a13) C 20 rfl mf_Part_isSame ml_X8_92 rfl (recv_K C (by decide) (by decide) rfl hk15) (by decide) (by decide) (Nat.le_refl _) rfl (cPart_isSame (CX_tr C) σ M n a13 r1 x2 x3 o ho)) (fun v16 => ?_)
    refine s_ieq C 21 rfl (fun _ => ?_) (fun _ => ?_)
    · refine s_blk C 0 0 [0, 1, 2, 3, 4] (pc' := 51) (lv' := [(0, .inr (.inl (some a0))), (1, .inr (.inl r1)), (2, .inl x2), (3, .inl x3), (4, .inl x4)]) (st' := []) rfl ?_
      exact wStore_find_j51 C htab a0 k3 H3 _ _ _ _
    refine s_blk C 22 1 [] (pc' := 50) (lv' := []) (st' := [.inr (.inl (some a13))]) rfl ?_
    exact s_aret (Or.inl ⟨_, rfl⟩) C 23 rfl rfl
  refine s_blk C 0 0 [0, 1, 2, 3, 4] (pc' := 51) (lv' := [(0, .inr (.inl (some a0))), (1, .inr (.inl r1)), (2, .inl x2), (3, .inl x3), (4, .inl x4)]) (st' := []) rfl ?_
  exact wStore_find_j51 C htab a0 k3 H3 _ _ _ _
def fStore_find_l3 (a0 : Nat) (fu : Nat) : Option Nat → Int32 → Int32 → Int32 → Mm → Option (Option Nat) := Nat.rec (fun r1 x2 x3 x4 M => none) (fun _ k => fStore_find_b3 a0 k) fu
theorem wStore_find_l3 {X : MC} {G : GE} {n0 : Nat} (C : CX X G RX8 cX8_find pStore_find 6 (some (.object "BlobHarbor$Part")) n0) (htab : ∀ z ∈ X.2.2.2.2.2.2.2.2.exceptionTable.toList, False) {σ : Sg} {M : Mm} {n : Nat} (a0 : Nat) : ∀ (fu : Nat) (r1 : Option Nat) (x2 : Int32) (x3 : Int32) (x4 : Int32), JS X G 6 300 0 n0 (EM X G n0 5 300 (eR rvR σ M n)) (fStore_find_l3 a0 fu r1 x2 x3 x4 M) (σ, M, n) 3 [(0, .inr (.inl (some a0))), (1, .inr (.inl r1)), (2, .inl x2), (3, .inl x3), (4, .inl x4)] [] := by
  intro fu
  induction fu with
  | zero => intro r1 x2 x3 x4; exact s_none
  | succ fu ih => intro r1 x2 x3 x4; exact wStore_find_b3 C htab a0 (fStore_find_l3 a0 fu) ih _ _ _ _
def fStore_find (a0 : Nat) (r1 : Option Nat) (x2 : Int32) (x3 : Int32) (M : Mm) : Option (Option Nat) :=
  fStore_find_l3 a0 FU r1 x2 x3 0 M
theorem wStore_find {X : MC} {G : GE} {n0 : Nat} (C : CX X G RX8 cX8_find pStore_find 6 (some (.object "BlobHarbor$Part")) n0) (htab : ∀ z ∈ X.2.2.2.2.2.2.2.2.exceptionTable.toList, False) {σ : Sg} {M : Mm} {n : Nat} (a0 : Nat) (r1 : Option Nat) (x2 : Int32) (x3 : Int32) : JS X G 6 300 0 n0 (EM X G n0 5 300 (eR rvR σ M n)) (fStore_find a0 r1 x2 x3 M) (σ, M, n) 0 [(0, .inr (.inl (some a0))), (1, .inr (.inl r1)), (2, .inl x2), (3, .inl x3)] [] := by
  unfold fStore_find
  refine s_blk C 0 2 [0, 1, 2, 3, 4] (pc' := 3) (lv' := [(0, .inr (.inl (some a0))), (1, .inr (.inl r1)), (2, .inl x2), (3, .inl x3), (4, .inl 0)]) (st' := []) rfl ?_
  exact wStore_find_l3 C htab a0 FU _ _ _ _
theorem cStore_find {l : Launch} {G : GE} (htr : l.stackTraces = false) (σ : Sg) (M : Mm) (n : Nat) (a0 : Nat) (r1 : Option Nat) (x2 : Int32) (x3 : Int32) : ∀ o, fStore_find a0 r1 x2 x3 M = some o → MetX l G yX8_find cX8_find 6 (some (.object "BlobHarbor$Part")) 5 300 [.inr (.inl (some a0)), .inr (.inl r1), .inl x2, .inl x3] (σ, M, n) ((eR rvR σ M n) o) :=
  c_ofX (by decide) kStore_find htr rfl rfl fun X _ _ C htab => wStore_find C htab a0 r1 x2 x3

def pStore_byteAt_0 : List BR := [(0, .iconst 0, 1, 0, 1), (1, .istore_n 3, 1, 0, 2), (2, .iconst 0, 1, 0, 3), (3, .istore 4, 2, 0, 5), (5, .iload 4, 2, 0, 7), (7, .aload_n 1, 1, 0, 8), (8, .arraylength, 1, 0, 9), (9, .if_icmp .ge (74), 3, 0, 83), (12, .aload_n 0, 1, 0, 13), (13, .aload_n 1, 1, 0, 14), (14, .iload 4, 2, 0, 16), (16, .iaload, 1, 0, 17), (17, .invokevirtual 145, 3, 0, 20), (20, .astore 5, 2, 0, 22), (22, .aload 5, 2, 0, 24), (24, .ifnonnull (6), 3, 0, 30), (27, .bipush (-4), 2, -4, 29), (29, .ireturn, 1, 0, 30), (30, .iload_n 2, 1, 0, 31), (31, .iload_n 3, 1, 0, 32), (32, .aload 5, 2, 0, 34), (34, .getfield 149, 3, 0, 37), (37, .iadd, 1, 0, 38), (38, .if_icmp .ge (31), 3, 0, 69), (41, .aload_n 0, 1, 0, 42), (42, .getfield 32, 3, 0, 45), (45, .aload 5, 2, 0, 47), (47, .invokevirtual 150, 3, 0, 50), (50, .ifCond .eq (16), 3, 0, 66), (53, .aload_n 0, 1, 0, 54), (54, .getfield 32, 3, 0, 57), (57, .iload_n 2, 1, 0, 58), (58, .iload_n 3, 1, 0, 59), (59, .isub, 1, 0, 60), (60, .invokevirtual 154, 3, 0, 63), (63, .goto (5), 3, 0, 68), (66, .bipush (-4), 2, -4, 68), (68, .ireturn, 1, 0, 69), (69, .iload_n 3, 1, 0, 70), (70, .aload 5, 2, 0, 72)]
theorem kStore_byteAt_0 : bOK cX8_byteAt 6 pStore_byteAt_0 = true := by decide +kernel
def pStore_byteAt_1 : List BR := [(72, .getfield 149, 3, 0, 75), (75, .iadd, 1, 0, 76), (76, .istore_n 3, 1, 0, 77), (77, .iinc 4 (1), 3, 1, 80), (80, .goto (-75), 3, 0, 5), (83, .iconst (-1), 1, -1, 84), (84, .ireturn, 1, 0, 85)]
theorem kStore_byteAt_1 : bOK cX8_byteAt 6 pStore_byteAt_1 = true := by decide +kernel
def pStore_byteAt : List BR := (pStore_byteAt_0 ++ pStore_byteAt_1)
theorem kStore_byteAt : bOK cX8_byteAt 6 pStore_byteAt = true := (bOK_app kStore_byteAt_0 kStore_byteAt_1)
def fStore_byteAt_b5 (a0 : Nat) (k5 : Option Nat → Int32 → Int32 → Int32 → Mm → Option (Int32 × Mm)) (r1 : Option Nat) (x2 : Int32) (x3 : Int32) (x4 : Int32) (M : Mm) : Option (Int32 × Mm) :=
  aln r1 M fun v1 =>
  if v1 ≤ x4 then
    some ((-1), M)
  else
    alI 21 r1 x4 M fun v2 =>
    rk 8 (some a0) M fun _ =>
    bdR (fStore_partAt a0 v2 M) fun v4 =>
    ifN v4
      (some ((-4), M))
      (fgI 5 501 v4 M fun v5 =>
      if (x3 + v5) ≤ x2 then
        fgI 5 501 v4 M fun v6 =>
        k5 r1 x2 (x3 + v6) (x4 + 1) M
      else
        fgR 8 803 (some a0) M fun v7 =>
        rk 2 v7 M fun a8 =>
        bdW (fCode_decode a8 v4 M) fun v11 M12 =>
        if v11 = 0 then
          some ((-4), M12)
        else
          fgR 8 803 (some a0) M12 fun v13 =>
          rk 2 v13 M12 fun a14 =>
          bdR (fCode_plainByte a14 (x2 - x3) M12) fun v17 =>
          some (v17, M12))
theorem wStore_byteAt_b5 {X : MC} {G : GE} {n0 : Nat} (C : CX X G RX8 cX8_byteAt pStore_byteAt 6 (some .int) n0) (htab : ∀ z ∈ X.2.2.2.2.2.2.2.2.exceptionTable.toList, False) {σ : Sg} {n : Nat} (a0 : Nat) (k5 : Option Nat → Int32 → Int32 → Int32 → Mm → Option (Int32 × Mm)) (H5 : ∀ (r1 : Option Nat) (x2 : Int32) (x3 : Int32) (x4 : Int32) (M : Mm), JS X G 6 300 0 n0 (EM X G n0 7 300 (eW rvI σ n)) (k5 r1 x2 x3 x4 M) (σ, M, n) 5 [(0, .inr (.inl (some a0))), (1, .inr (.inl r1)), (2, .inl x2), (3, .inl x3), (4, .inl x4)] []) (r1 : Option Nat) (x2 : Int32) (x3 : Int32) (x4 : Int32) (M : Mm) : JS X G 6 300 0 n0 (EM X G n0 7 300 (eW rvI σ n)) (fStore_byteAt_b5 a0 k5 r1 x2 x3 x4 M) (σ, M, n) 5 [(0, .inr (.inl (some a0))), (1, .inr (.inl r1)), (2, .inl x2), (3, .inl x3), (4, .inl x4)] [] := by
  unfold fStore_byteAt_b5
  refine s_blk C 4 2 [0, 1, 2, 3, 4] (pc' := 8) (lv' := [(0, .inr (.inl (some a0))), (1, .inr (.inl r1)), (2, .inl x2), (3, .inl x3), (4, .inl x4)]) (st' := [.inr (.inl r1), .inl x4]) rfl ?_
  refine s_len C 6 rfl (fun v1 => ?_)
  refine s_icge C 7 rfl (fun _ => ?_) (fun _ => ?_)
  · refine s_blk C 45 1 [] (pc' := 84) (lv' := []) (st' := [.inl (-1)]) rfl ?_
    exact s_iret C 46 rfl rfl
  refine s_blk C 8 3 [0, 1, 2, 3, 4] (pc' := 16) (lv' := [(0, .inr (.inl (some a0))), (1, .inr (.inl r1)), (2, .inl x2), (3, .inl x3), (4, .inl x4)]) (st' := [.inl x4, .inr (.inl r1), .inr (.inl (some a0))]) rfl ?_
  refine s_ldI C 11 rfl (fun v2 => ?_)
  refine s_rks (fun hk3 => ?_)
  refine s_RR (CE_EM _ _ _ _ _ _) (st := []) (fun o ho => j_callV (As := [.inl v2]) (st := []) (b := a0) C 12 rfl mf_Store_partAt ml_X8_145 rfl (recv_K C (by decide) (by decide) rfl hk3) (by decide) (by decide) (Nat.le_refl _) rfl (cStore_partAt (CX_tr C) σ M n a0 v2 o ho)) (fun v4 => ?_)
  refine s_blk C 13 2 [0, 1, 2, 3, 4, 5] (pc' := 24) (lv' := [(0, .inr (.inl (some a0))), (1, .inr (.inl r1)), (2, .inl x2), (3, .inl x3), (4, .inl x4), (5, .inr (.inl v4))]) (st' := [.inr (.inl v4)]) rfl ?_
  refine s_nonnull C 15 rfl ?_ ?_
  · refine s_blk C 16 1 [] (pc' := 29) (lv' := []) (st' := [.inl (-4)]) rfl ?_
    exact s_iret C 17 rfl rfl
  refine s_blk C 18 3 [0, 1, 2, 3, 4, 5] (pc' := 34) (lv' := [(0, .inr (.inl (some a0))), (1, .inr (.inl r1)), (2, .inl x2), (3, .inl x3), (4, .inl x4), (5, .inr (.inl v4))]) (st' := [.inr (.inl v4), .inl x3, .inl x2]) rfl ?_
  refine s_gI C 21 rfl fl_X8_149 rfl rfl (fun v5 => ?_)
  refine s_blk C 22 1 [0, 1, 2, 3, 4, 5] (pc' := 38) (lv' := [(0, .inr (.inl (some a0))), (1, .inr (.inl r1)), (2, .inl x2), (3, .inl x3), (4, .inl x4), (5, .inr (.inl v4))]) (st' := [.inl (x3 + v5), .inl x2]) rfl ?_
  refine s_icge C 23 rfl (fun _ => ?_) (fun _ => ?_)
  · refine s_blk C 38 2 [0, 1, 2, 4] (pc' := 72) (lv' := [(0, .inr (.inl (some a0))), (1, .inr (.inl r1)), (2, .inl x2), (4, .inl x4)]) (st' := [.inr (.inl v4), .inl x3]) rfl ?_
    refine s_gI C 40 rfl fl_X8_149 rfl rfl (fun v6 => ?_)
    refine s_blk C 41 4 [0, 1, 2, 3, 4] (pc' := 5) (lv' := [(0, .inr (.inl (some a0))), (1, .inr (.inl r1)), (2, .inl x2), (3, .inl (x3 + v6)), (4, .inl (x4 + 1))]) (st' := []) rfl ?_
    exact H5 _ _ _ _ _
  refine s_blk C 24 1 [0, 2, 3, 5] (pc' := 42) (lv' := [(0, .inr (.inl (some a0))), (2, .inl x2), (3, .inl x3), (5, .inr (.inl v4))]) (st' := [.inr (.inl (some a0))]) rfl ?_
  refine s_gR C 25 rfl fl_X8_32 rfl rfl (fun v7 => ?_)
  refine s_blk C 26 1 [0, 2, 3] (pc' := 47) (lv' := [(0, .inr (.inl (some a0))), (2, .inl x2), (3, .inl x3)]) (st' := [.inr (.inl v4), .inr (.inl v7)]) rfl ?_
  refine s_rk (fun a8 ha9 hk10 => ?_)
  subst ha9
  refine s_WI (CE_EM _ _ _ _ _ _) (st := []) (fun o ho => j_callV (As := [.inr (.inl v4)]) (st := []) (b := a8) C 27 rfl mf_Code_decode ml_X8_150 rfl (recv_K C (by decide) (by decide) rfl hk10) (by decide) (by decide) (Nat.le_refl _) rfl (cCode_decode (CX_tr C) σ M n a8 v4 o ho)) (fun v11 M12 => ?_)
  refine s_ieq C 28 rfl (fun _ => ?_) (fun _ => ?_)
  · refine s_blk C 36 1 [] (pc' := 68) (lv' := []) (st' := [.inl (-4)]) rfl ?_
    exact s_iret C 37 rfl rfl
  refine s_blk C 29 1 [2, 3] (pc' := 54) (lv' := [(2, .inl x2), (3, .inl x3)]) (st' := [.inr (.inl (some a0))]) rfl ?_
  refine s_gR C 30 rfl fl_X8_32 rfl rfl (fun v13 => ?_)
  refine s_blk C 31 3 [] (pc' := 60) (lv' := []) (st' := [.inl (x2 - x3), .inr (.inl v13)]) rfl ?_
  refine s_rk (fun a14 ha15 hk16 => ?_)
  subst ha15
  refine s_RI (CE_EM _ _ _ _ _ _) (st := []) (fun o ho => j_callV (As := [.inl (x2 - x3)]) (st := []) (b := a14) C 34 rfl mf_Code_plainByte ml_X8_154 rfl (recv_K C (by decide) (by decide) rfl hk16) (by decide) (by decide) (Nat.le_refl _) rfl (cCode_plainByte (CX_tr C) σ M12 n a14 (x2 - x3) o ho)) (fun v17 => ?_)
  refine s_blk C 35 1 [] (pc' := 68) (lv' := []) (st' := [.inl v17]) rfl ?_
  exact s_iret C 37 rfl rfl
def fStore_byteAt_l5 (a0 : Nat) (fu : Nat) : Option Nat → Int32 → Int32 → Int32 → Mm → Option (Int32 × Mm) := Nat.rec (fun r1 x2 x3 x4 M => none) (fun _ k => fStore_byteAt_b5 a0 k) fu
theorem wStore_byteAt_l5 {X : MC} {G : GE} {n0 : Nat} (C : CX X G RX8 cX8_byteAt pStore_byteAt 6 (some .int) n0) (htab : ∀ z ∈ X.2.2.2.2.2.2.2.2.exceptionTable.toList, False) {σ : Sg} {n : Nat} (a0 : Nat) : ∀ (fu : Nat) (r1 : Option Nat) (x2 : Int32) (x3 : Int32) (x4 : Int32) (M : Mm), JS X G 6 300 0 n0 (EM X G n0 7 300 (eW rvI σ n)) (fStore_byteAt_l5 a0 fu r1 x2 x3 x4 M) (σ, M, n) 5 [(0, .inr (.inl (some a0))), (1, .inr (.inl r1)), (2, .inl x2), (3, .inl x3), (4, .inl x4)] [] := by
  intro fu
  induction fu with
  | zero => intro r1 x2 x3 x4 M; exact s_none
  | succ fu ih => intro r1 x2 x3 x4 M; exact wStore_byteAt_b5 C htab a0 (fStore_byteAt_l5 a0 fu) ih _ _ _ _ _
def fStore_byteAt (a0 : Nat) (r1 : Option Nat) (x2 : Int32) (M : Mm) : Option (Int32 × Mm) :=
  fStore_byteAt_l5 a0 FU r1 x2 0 0 M
theorem wStore_byteAt {X : MC} {G : GE} {n0 : Nat} (C : CX X G RX8 cX8_byteAt pStore_byteAt 6 (some .int) n0) (htab : ∀ z ∈ X.2.2.2.2.2.2.2.2.exceptionTable.toList, False) {σ : Sg} {n : Nat} (a0 : Nat) (r1 : Option Nat) (x2 : Int32) (M : Mm) : JS X G 6 300 0 n0 (EM X G n0 7 300 (eW rvI σ n)) (fStore_byteAt a0 r1 x2 M) (σ, M, n) 0 [(0, .inr (.inl (some a0))), (1, .inr (.inl r1)), (2, .inl x2)] [] := by
  unfold fStore_byteAt
  refine s_blk C 0 4 [0, 1, 2, 3, 4] (pc' := 5) (lv' := [(0, .inr (.inl (some a0))), (1, .inr (.inl r1)), (2, .inl x2), (3, .inl 0), (4, .inl 0)]) (st' := []) rfl ?_
  exact wStore_byteAt_l5 C htab a0 FU _ _ _ _ _
theorem cStore_byteAt {l : Launch} {G : GE} (htr : l.stackTraces = false) (σ : Sg) (M : Mm) (n : Nat) (a0 : Nat) (r1 : Option Nat) (x2 : Int32) : ∀ o, fStore_byteAt a0 r1 x2 M = some o → MetX l G yX8_byteAt cX8_byteAt 6 (some .int) 7 300 [.inr (.inl (some a0)), .inr (.inl r1), .inl x2] (σ, M, n) ((eW rvI σ n) o) :=
  c_ofX (by decide) kStore_byteAt htr rfl rfl fun X _ _ C htab => wStore_byteAt C htab a0 r1 x2 _
def pHb_byteOf : List BR := [(0, .aload_n 2, 1, 0, 1), (1, .ifnull (13), 3, 0, 14), (4, .aload_n 2, 1, 0, 5), (5, .getfield 196, 3, 0, 8), (8, .invokevirtual 212, 3, 0, 11), (11, .ifCond .eq (6), 3, 0, 17), (14, .bipush (-2), 2, -2, 16), (16, .ireturn, 1, 0, 17), (17, .aload_n 2, 1, 0, 18), (18, .invokevirtual 122, 3, 0, 21), (21, .ifCond .eq (17), 3, 0, 38), (24, .aload_n 2, 1, 0, 25), (25, .aload_n 0, 1, 0, 26), (26, .getfield 95, 3, 0, 29), (29, .invokevirtual 322, 3, 0, 32), (32, .ifCond .ne (6), 3, 0, 38), (35, .bipush (-3), 2, -3, 37), (37, .ireturn, 1, 0, 38), (38, .iload_n 3, 1, 0, 39), (39, .aload_n 2, 1, 0, 40), (40, .getfield 196, 3, 0, 43), (43, .getfield 200, 3, 0, 46), (46, .getfield 50, 3, 0, 49), (49, .if_icmp .lt (5), 3, 0, 54), (52, .iconst (-1), 1, -1, 53), (53, .ireturn, 1, 0, 54), (54, .aload_n 1, 1, 0, 55), (55, .getfield 215, 3, 0, 58), (58, .aload_n 2, 1, 0, 59), (59, .getfield 205, 3, 0, 62), (62, .iload_n 3, 1, 0, 63), (63, .invokevirtual 325, 3, 0, 66), (66, .ireturn, 1, 0, 67)]
theorem kHb_byteOf : bOK cX11_byteOf 4 pHb_byteOf = true := by decide +kernel
def fHb_byteOf_j38 (a0 : Nat) (r1 : Option Nat) (r2 : Option Nat) (x3 : Int32) (M : Mm) : Option (Int32 × Mm) :=
  fgR 10 1000 r2 M fun v1 =>
  fgR 4 403 v1 M fun v2 =>
  fgI 1 101 v2 M fun v3 =>
  if x3 < v3 then
    fgR 6 600 r1 M fun v4 =>
    fgR 10 1001 r2 M fun v5 =>
    rk 8 v4 M fun a6 =>
    bdW (fStore_byteAt a6 v5 x3 M) fun v9 M10 =>
    some (v9, M10)
  else
    some ((-1), M)
theorem wHb_byteOf_j38 {X : MC} {G : GE} {n0 : Nat} (C : CX X G RX11 cX11_byteOf pHb_byteOf 4 (some .int) n0) (htab : ∀ z ∈ X.2.2.2.2.2.2.2.2.exceptionTable.toList, False) {σ : Sg} {n : Nat} (a0 : Nat) (r1 : Option Nat) (r2 : Option Nat) (x3 : Int32) (M : Mm) : JS X G 4 300 0 n0 (EM X G n0 8 300 (eW rvI σ n)) (fHb_byteOf_j38 a0 r1 r2 x3 M) (σ, M, n) 38 [(1, .inr (.inl r1)), (2, .inr (.inl r2)), (3, .inl x3)] [] := by
  unfold fHb_byteOf_j38
  refine s_blk C 18 2 [1, 2, 3] (pc' := 40) (lv' := [(1, .inr (.inl r1)), (2, .inr (.inl r2)), (3, .inl x3)]) (st' := [.inr (.inl r2), .inl x3]) rfl ?_
  refine s_gR C 20 rfl fl_X11_196 rfl rfl (fun v1 => ?_)
  refine s_gR C 21 rfl fl_X11_200 rfl rfl (fun v2 => ?_)
  refine s_gI C 22 rfl fl_X11_50 rfl rfl (fun v3 => ?_)
  refine s_iclt C 23 rfl (fun _ => ?_) (fun _ => ?_)
  · refine s_blk C 26 1 [2, 3] (pc' := 55) (lv' := [(2, .inr (.inl r2)), (3, .inl x3)]) (st' := [.inr (.inl r1)]) rfl ?_
    refine s_gR C 27 rfl fl_X11_215 rfl rfl (fun v4 => ?_)
    refine s_blk C 28 1 [3] (pc' := 59) (lv' := [(3, .inl x3)]) (st' := [.inr (.inl r2), .inr (.inl v4)]) rfl ?_
    refine s_gR C 29 rfl fl_X11_205 rfl rfl (fun v5 => ?_)
    refine s_blk C 30 1 [] (pc' := 63) (lv' := []) (st' := [.inl x3, .inr (.inl v5), .inr (.inl v4)]) rfl ?_
    refine s_rk (fun a6 ha7 hk8 => ?_)
    subst ha7
    refine s_WI (CE_EM _ _ _ _ _ _) (st := []) (fun o ho => j_callV (As := [.inr (.inl v5), .inl x3]) (st := []) (b := a6) C 31 rfl mf_Store_byteAt ml_X11_325 rfl (recv_K C (by decide) (by decide) rfl hk8) (by decide) (by decide) (Nat.le_refl _) rfl (cStore_byteAt (CX_tr C) σ M n a6 v5 x3 o ho)) (fun v9 M10 => ?_)
    exact s_iret C 32 rfl rfl
  refine s_blk C 24 1 [] (pc' := 53) (lv' := []) (st' := [.inl (-1)]) rfl ?_
  exact s_iret C 25 rfl rfl
def fHb_byteOf (a0 : Nat) (r1 : Option Nat) (r2 : Option Nat) (x3 : Int32) (M : Mm) : Option (Int32 × Mm) :=
  ifN r2
    (some ((-2), M))
    (fgR 10 1000 r2 M fun v1 =>
    rk 4 v1 M fun a2 =>
    bdR (fEntry_isMark a2 M) fun v5 =>
    if v5 = 0 then
      rk 10 r2 M fun a6 =>
      bdR (fVersion_isCold a6 M) fun v9 =>
      if v9 = 0 then
        fHb_byteOf_j38 a0 r1 r2 x3 M
      else
        fgI 11 1109 (some a0) M fun v10 =>
        rk 10 r2 M fun a12 =>
        bdR (fVersion_isOpen a12 v10 M) fun v13 =>
        if v13 = 0 then
          some ((-3), M)
        else
          fHb_byteOf_j38 a0 r1 r2 x3 M
    else
      some ((-2), M))
theorem wHb_byteOf {X : MC} {G : GE} {n0 : Nat} (C : CX X G RX11 cX11_byteOf pHb_byteOf 4 (some .int) n0) (htab : ∀ z ∈ X.2.2.2.2.2.2.2.2.exceptionTable.toList, False) {σ : Sg} {n : Nat} (a0 : Nat) (r1 : Option Nat) (r2 : Option Nat) (x3 : Int32) (M : Mm) : JS X G 4 300 0 n0 (EM X G n0 8 300 (eW rvI σ n)) (fHb_byteOf a0 r1 r2 x3 M) (σ, M, n) 0 [(0, .inr (.inl (some a0))), (1, .inr (.inl r1)), (2, .inr (.inl r2)), (3, .inl x3)] [] := by
  unfold fHb_byteOf
  refine s_blk C 0 1 [0, 1, 2, 3] (pc' := 1) (lv' := [(0, .inr (.inl (some a0))), (1, .inr (.inl r1)), (2, .inr (.inl r2)), (3, .inl x3)]) (st' := [.inr (.inl r2)]) rfl ?_
  refine s_null C 1 rfl ?_ ?_
  · refine s_blk C 6 1 [] (pc' := 16) (lv' := []) (st' := [.inl (-2)]) rfl ?_
    exact s_iret C 7 rfl rfl
  refine s_blk C 2 1 [0, 1, 2, 3] (pc' := 5) (lv' := [(0, .inr (.inl (some a0))), (1, .inr (.inl r1)), (2, .inr (.inl r2)), (3, .inl x3)]) (st' := [.inr (.inl r2)]) rfl ?_
  refine s_gR C 3 rfl fl_X11_196 rfl rfl (fun v1 => ?_)
  refine s_rk (fun a2 ha3 hk4 => ?_)
  subst ha3
  refine s_RI (CE_EM _ _ _ _ _ _) (st := []) (fun o ho => j_callV (As := []) (st := []) (b := a2) C 4 rfl mf_Entry_isMark ml_X11_212 rfl (recv_K C (by decide) (by decide) rfl hk4) (by decide) (by decide) (Nat.le_refl _) rfl (cEntry_isMark (CX_tr C) σ M n a2 o ho)) (fun v5 => ?_)
  refine s_ieq C 5 rfl (fun _ => ?_) (fun _ => ?_)
  · refine s_blk C 8 1 [0, 1, 2, 3] (pc' := 18) (lv' := [(0, .inr (.inl (some a0))), (1, .inr (.inl r1)), (2, .inr (.inl r2)), (3, .inl x3)]) (st' := [.inr (.inl r2)]) rfl ?_
    refine s_rk (fun a6 ha7 hk8 => ?_)
    subst ha7
    refine s_RI (CE_EM _ _ _ _ _ _) (st := []) (fun o ho => j_callV (As := []) (st := []) (b := a6) C 9 rfl mf_Version_isCold ml_X11_122 rfl (recv_K C (by decide) (by decide) rfl hk8) (by decide) (by decide) (Nat.le_refl _) rfl (cVersion_isCold (CX_tr C) σ M n a6 o ho)) (fun v9 => ?_)
    refine s_ieq C 10 rfl (fun _ => ?_) (fun _ => ?_)
    · refine s_blk C 0 0 [1, 2, 3] (pc' := 38) (lv' := [(1, .inr (.inl r1)), (2, .inr (.inl (some a6))), (3, .inl x3)]) (st' := []) rfl ?_
      exact wHb_byteOf_j38 C htab a0 _ _ _ _
    refine s_blk C 11 2 [1, 2, 3] (pc' := 26) (lv' := [(1, .inr (.inl r1)), (2, .inr (.inl (some a6))), (3, .inl x3)]) (st' := [.inr (.inl (some a0)), .inr (.inl (some a6))]) rfl ?_
    refine s_gI C 13 rfl fl_X11_95 rfl rfl (fun v10 => ?_)
    refine s_rks (fun hk11 => ?_)
    refine s_RI (CE_EM _ _ _ _ _ _) (st := []) (fun o ho => j_callV (As := [.inl v10]) (st := []) (b := a6) C 14 rfl mf_Version_isOpen ml_X11_322 rfl (recv_K C (by decide) (by decide) rfl hk11) (by decide) (by decide) (Nat.le_refl _) rfl (cVersion_isOpen (CX_tr C) σ M n a6 v10 o ho)) (fun v13 => ?_)
    refine s_ine C 15 rfl (fun _ => ?_) (fun _ => ?_)
    · refine s_blk C 16 1 [] (pc' := 37) (lv' := []) (st' := [.inl (-3)]) rfl ?_
      exact s_iret C 17 rfl rfl
    exact wHb_byteOf_j38 C htab a0 _ _ _ _
  refine s_blk C 6 1 [] (pc' := 16) (lv' := []) (st' := [.inl (-2)]) rfl ?_
  exact s_iret C 7 rfl rfl
theorem cHb_byteOf {l : Launch} {G : GE} (htr : l.stackTraces = false) (σ : Sg) (M : Mm) (n : Nat) (a0 : Nat) (r1 : Option Nat) (r2 : Option Nat) (x3 : Int32) : ∀ o, fHb_byteOf a0 r1 r2 x3 M = some o → MetX l G yX11_byteOf cX11_byteOf 4 (some .int) 8 300 [.inr (.inl (some a0)), .inr (.inl r1), .inr (.inl r2), .inl x3] (σ, M, n) ((eW rvI σ n) o) :=
  c_ofX (by decide) kHb_byteOf htr rfl rfl fun X _ _ C htab => wHb_byteOf C htab a0 r1 r2 x3 _
def pKeys_isKey : List BR := [(0, .iload_n 0, 1, 0, 1), (1, .iconst 1, 1, 1, 2), (2, .if_icmp .lt (15), 3, 0, 17), (5, .iload_n 0, 1, 0, 6), (6, .bipush 124, 2, 124, 8), (8, .if_icmp .gt (9), 3, 0, 17), (11, .iload_n 0, 1, 0, 12), (12, .iconst 5, 1, 5, 13), (13, .irem, 1, 0, 14), (14, .ifCond .ne (5), 3, 0, 19), (17, .iconst 0, 1, 0, 18), (18, .ireturn, 1, 0, 19), (19, .iload_n 0, 1, 0, 20), (20, .bipush 25, 2, 25, 22), (22, .if_icmp .lt (11), 3, 0, 33), (25, .iload_n 0, 1, 0, 26), (26, .iconst 5, 1, 5, 27), (27, .idiv, 1, 0, 28), (28, .iconst 5, 1, 5, 29), (29, .irem, 1, 0, 30), (30, .ifCond .eq (7), 3, 0, 37), (33, .iconst 1, 1, 1, 34), (34, .goto (4), 3, 0, 38), (37, .iconst 0, 1, 0, 38), (38, .ireturn, 1, 0, 39)]
theorem kKeys_isKey : bOK cX4_isKey 1 pKeys_isKey = true := by decide +kernel
def fKeys_isKey_j33 : Option (Int32) :=
  rZ 1 (some 1)
theorem wKeys_isKey_j33 {X : MC} {G : GE} {n0 : Nat} (C : CX X G RX4 cX4_isKey pKeys_isKey 1 (some .boolean) n0) (htab : ∀ z ∈ X.2.2.2.2.2.2.2.2.exceptionTable.toList, False) {σ : Sg} {M : Mm} {n : Nat} : JS X G 1 300 0 n0 (EM X G n0 2 300 (eR rvI σ M n)) (fKeys_isKey_j33) (σ, M, n) 33 [] [] := by
  unfold fKeys_isKey_j33
  refine s_blk C 21 2 [] (pc' := 38) (lv' := []) (st' := [.inl 1]) rfl ?_
  exact s_zret C 24 rfl rfl
def fKeys_isKey (x0 : Int32) : Option (Int32) :=
  if x0 < 1 then
    rZ 0 (some 0)
  else
    if 124 < x0 then
      rZ 0 (some 0)
    else
      if (x0 - x0 / 5 * 5) = 0 then
        rZ 0 (some 0)
      else
        if x0 < 25 then
          fKeys_isKey_j33
        else
          if ((x0 / 5) - (x0 / 5) / 5 * 5) = 0 then
            rZ 0 (some 0)
          else
            fKeys_isKey_j33
theorem wKeys_isKey {X : MC} {G : GE} {n0 : Nat} (C : CX X G RX4 cX4_isKey pKeys_isKey 1 (some .boolean) n0) (htab : ∀ z ∈ X.2.2.2.2.2.2.2.2.exceptionTable.toList, False) {σ : Sg} {M : Mm} {n : Nat} (x0 : Int32) : JS X G 1 300 0 n0 (EM X G n0 2 300 (eR rvI σ M n)) (fKeys_isKey x0) (σ, M, n) 0 [(0, .inl x0)] [] := by
  unfold fKeys_isKey
  refine s_blk C 0 2 [0] (pc' := 2) (lv' := [(0, .inl x0)]) (st' := [.inl 1, .inl x0]) rfl ?_
  refine s_iclt C 2 rfl (fun _ => ?_) (fun _ => ?_)
  · refine s_blk C 10 1 [] (pc' := 18) (lv' := []) (st' := [.inl 0]) rfl ?_
    exact s_zret C 11 rfl rfl
  refine s_blk C 3 2 [0] (pc' := 8) (lv' := [(0, .inl x0)]) (st' := [.inl 124, .inl x0]) rfl ?_
  refine s_icgt C 5 rfl (fun _ => ?_) (fun _ => ?_)
  · refine s_blk C 10 1 [] (pc' := 18) (lv' := []) (st' := [.inl 0]) rfl ?_
    exact s_zret C 11 rfl rfl
  refine s_blk C 6 2 [0] (pc' := 13) (lv' := [(0, .inl x0)]) (st' := [.inl 5, .inl x0]) rfl ?_
  refine s_irem C 8 rfl (by decide) ?_
  refine s_ine C 9 rfl (fun _ => ?_) (fun _ => ?_)
  · refine s_blk C 10 1 [] (pc' := 18) (lv' := []) (st' := [.inl 0]) rfl ?_
    exact s_zret C 11 rfl rfl
  refine s_blk C 12 2 [0] (pc' := 22) (lv' := [(0, .inl x0)]) (st' := [.inl 25, .inl x0]) rfl ?_
  refine s_iclt C 14 rfl (fun _ => ?_) (fun _ => ?_)
  · refine s_blk C 0 0 [] (pc' := 33) (lv' := []) (st' := []) rfl ?_
    exact wKeys_isKey_j33 C htab
  refine s_blk C 15 2 [] (pc' := 27) (lv' := []) (st' := [.inl 5, .inl x0]) rfl ?_
  refine s_idiv C 17 rfl (by decide) ?_
  refine s_blk C 18 1 [] (pc' := 29) (lv' := []) (st' := [.inl 5, .inl (x0 / 5)]) rfl ?_
  refine s_irem C 19 rfl (by decide) ?_
  refine s_ieq C 20 rfl (fun _ => ?_) (fun _ => ?_)
  · refine s_blk C 23 1 [] (pc' := 38) (lv' := []) (st' := [.inl 0]) rfl ?_
    exact s_zret C 24 rfl rfl
  exact wKeys_isKey_j33 C htab
theorem cKeys_isKey {l : Launch} {G : GE} (htr : l.stackTraces = false) (σ : Sg) (M : Mm) (n : Nat) (x0 : Int32) : ∀ o, fKeys_isKey x0 = some o → MetX l G yX4_isKey cX4_isKey 1 (some .boolean) 2 300 [.inl x0] (σ, M, n) ((eR rvI σ M n) o) :=
  c_ofX (by decide) kKeys_isKey htr rfl rfl fun X _ _ C htab => wKeys_isKey C htab x0
def pHb_checkBeginning : List BR := [(0, .iload_n 0, 1, 0, 1), (1, .ifCond .eq (10), 3, 0, 11), (4, .iload_n 0, 1, 0, 5), (5, .invokestatic 185, 3, 0, 8), (8, .ifCond .eq (7), 3, 0, 15), (11, .iconst 1, 1, 1, 12), (12, .goto (4), 3, 0, 16), (15, .iconst 0, 1, 0, 16), (16, .invokestatic 72, 3, 0, 19), (19, .return_, 1, 0, 20)]
theorem kHb_checkBeginning : bOK cX11_checkBeginning 1 pHb_checkBeginning = true := by decide +kernel
def fHb_checkBeginning_j16 (s0 : Int32) (M : Mm) (n : Nat) : Option ((Unit ⊕ Nat) × Mm × Nat) :=
  bdC (fHb_checkArgument s0 M n) n fun v1 M2 n3 =>
  some (.inl (), M2, n3)
theorem wHb_checkBeginning_j16 {X : MC} {G : GE} {n0 : Nat} (C : CX X G RX11 cX11_checkBeginning pHb_checkBeginning 1 none n0) (htab : ∀ z ∈ X.2.2.2.2.2.2.2.2.exceptionTable.toList, False) {σ : Sg} (s0 : Int32) (M : Mm) (n : Nat) : JS X G 1 300 0 n0 (EM X G n0 7 300 (eC rvU σ)) (fHb_checkBeginning_j16 s0 M n) (σ, M, n) 16 [] [.inl s0] := by
  unfold fHb_checkBeginning_j16
  refine s_CU C htab (st := []) (fun o ho => j_callS (As := [.inl s0]) (st := []) C 8 rfl mf_Hb_checkArgument ml_X11_72 rfl (by decide) (by decide) (Nat.le_refl _) rfl (cHb_checkArgument (CX_tr C) σ M n s0 o ho)) (fun v1 M2 n3 _ => ?_)
  exact s_vret C 9 rfl rfl
def fHb_checkBeginning_j11 (M : Mm) (n : Nat) : Option ((Unit ⊕ Nat) × Mm × Nat) :=
  fHb_checkBeginning_j16 1 M n
theorem wHb_checkBeginning_j11 {X : MC} {G : GE} {n0 : Nat} (C : CX X G RX11 cX11_checkBeginning pHb_checkBeginning 1 none n0) (htab : ∀ z ∈ X.2.2.2.2.2.2.2.2.exceptionTable.toList, False) {σ : Sg} (M : Mm) (n : Nat) : JS X G 1 300 0 n0 (EM X G n0 7 300 (eC rvU σ)) (fHb_checkBeginning_j11 M n) (σ, M, n) 11 [] [] := by
  unfold fHb_checkBeginning_j11
  refine s_blk C 5 2 [] (pc' := 16) (lv' := []) (st' := [.inl 1]) rfl ?_
  exact wHb_checkBeginning_j16 C htab _ _ _
def fHb_checkBeginning (x0 : Int32) (M : Mm) (n : Nat) : Option ((Unit ⊕ Nat) × Mm × Nat) :=
  if x0 = 0 then
    fHb_checkBeginning_j11 M n
  else
    bdR (fKeys_isKey x0) fun v1 =>
    if v1 = 0 then
      fHb_checkBeginning_j16 0 M n
    else
      fHb_checkBeginning_j11 M n
theorem wHb_checkBeginning {X : MC} {G : GE} {n0 : Nat} (C : CX X G RX11 cX11_checkBeginning pHb_checkBeginning 1 none n0) (htab : ∀ z ∈ X.2.2.2.2.2.2.2.2.exceptionTable.toList, False) {σ : Sg} (x0 : Int32) (M : Mm) (n : Nat) : JS X G 1 300 0 n0 (EM X G n0 7 300 (eC rvU σ)) (fHb_checkBeginning x0 M n) (σ, M, n) 0 [(0, .inl x0)] [] := by
  unfold fHb_checkBeginning
  refine s_blk C 0 1 [0] (pc' := 1) (lv' := [(0, .inl x0)]) (st' := [.inl x0]) rfl ?_
  refine s_ieq C 1 rfl (fun _ => ?_) (fun _ => ?_)
  · refine s_blk C 0 0 [] (pc' := 11) (lv' := []) (st' := []) rfl ?_
    exact wHb_checkBeginning_j11 C htab _ _
  refine s_blk C 2 1 [] (pc' := 5) (lv' := []) (st' := [.inl x0]) rfl ?_
  refine s_RI (CE_EM _ _ _ _ _ _) (st := []) (fun o ho => j_callS (As := [.inl x0]) (st := []) C 3 rfl mf_Keys_isKey ml_X11_185 rfl (by decide) (by decide) (Nat.le_refl _) rfl (cKeys_isKey (CX_tr C) σ M n x0 o ho)) (fun v1 => ?_)
  refine s_ieq C 4 rfl (fun _ => ?_) (fun _ => ?_)
  · refine s_blk C 7 1 [] (pc' := 16) (lv' := []) (st' := [.inl 0]) rfl ?_
    exact wHb_checkBeginning_j16 C htab _ _ _
  exact wHb_checkBeginning_j11 C htab _ _
theorem cHb_checkBeginning {l : Launch} {G : GE} (htr : l.stackTraces = false) (σ : Sg) (M : Mm) (n : Nat) (x0 : Int32) : ∀ o, fHb_checkBeginning x0 M n = some o → MetX l G yX11_checkBeginning cX11_checkBeginning 1 none 7 300 [.inl x0] (σ, M, n) ((eC rvU σ) o) :=
  c_ofX (by decide) kHb_checkBeginning htr rfl rfl fun X _ _ C htab => wHb_checkBeginning C htab x0 _ _
def pHb_checkKey : List BR := [(0, .iload_n 0, 1, 0, 1), (1, .invokestatic 185, 3, 0, 4), (4, .invokestatic 72, 3, 0, 7), (7, .return_, 1, 0, 8)]
theorem kHb_checkKey : bOK cX11_checkKey 1 pHb_checkKey = true := by decide +kernel
def fHb_checkKey (x0 : Int32) (M : Mm) (n : Nat) : Option ((Unit ⊕ Nat) × Mm × Nat) :=
  bdR (fKeys_isKey x0) fun v1 =>
  bdC (fHb_checkArgument v1 M n) n fun v2 M3 n4 =>
  some (.inl (), M3, n4)
theorem wHb_checkKey {X : MC} {G : GE} {n0 : Nat} (C : CX X G RX11 cX11_checkKey pHb_checkKey 1 none n0) (htab : ∀ z ∈ X.2.2.2.2.2.2.2.2.exceptionTable.toList, False) {σ : Sg} (x0 : Int32) (M : Mm) (n : Nat) : JS X G 1 300 0 n0 (EM X G n0 7 300 (eC rvU σ)) (fHb_checkKey x0 M n) (σ, M, n) 0 [(0, .inl x0)] [] := by
  unfold fHb_checkKey
  refine s_blk C 0 1 [] (pc' := 1) (lv' := []) (st' := [.inl x0]) rfl ?_
  refine s_RI (CE_EM _ _ _ _ _ _) (st := []) (fun o ho => j_callS (As := [.inl x0]) (st := []) C 1 rfl mf_Keys_isKey ml_X11_185 rfl (by decide) (by decide) (Nat.le_refl _) rfl (cKeys_isKey (CX_tr C) σ M n x0 o ho)) (fun v1 => ?_)
  refine s_CU C htab (st := []) (fun o ho => j_callS (As := [.inl v1]) (st := []) C 2 rfl mf_Hb_checkArgument ml_X11_72 rfl (by decide) (by decide) (Nat.le_refl _) rfl (cHb_checkArgument (CX_tr C) σ M n v1 o ho)) (fun v2 M3 n4 _ => ?_)
  exact s_vret C 3 rfl rfl
theorem cHb_checkKey {l : Launch} {G : GE} (htr : l.stackTraces = false) (σ : Sg) (M : Mm) (n : Nat) (x0 : Int32) : ∀ o, fHb_checkKey x0 M n = some o → MetX l G yX11_checkKey cX11_checkKey 1 none 7 300 [.inl x0] (σ, M, n) ((eC rvU σ) o) :=
  c_ofX (by decide) kHb_checkKey htr rfl rfl fun X _ _ C htab => wHb_checkKey C htab x0 _ _
def pBytes_makeEmpty : List BR := [(0, .aload_n 0, 1, 0, 1), (1, .iconst 0, 1, 0, 2), (2, .putfield 15, 3, 0, 5), (5, .return_, 1, 0, 6)]
theorem kBytes_makeEmpty : bOK cX0_makeEmpty 1 pBytes_makeEmpty = true := by decide +kernel
def fBytes_makeEmpty (a0 : Nat) (M : Mm) : Option (Unit × Mm) :=
  fpI 1 101 (some a0) 0 M fun M1 =>
  some ((), M1)
theorem wBytes_makeEmpty {X : MC} {G : GE} {n0 : Nat} (C : CX X G RX0 cX0_makeEmpty pBytes_makeEmpty 1 none n0) (htab : ∀ z ∈ X.2.2.2.2.2.2.2.2.exceptionTable.toList, False) {σ : Sg} {n : Nat} (a0 : Nat) (M : Mm) : JS X G 1 300 0 n0 (EM X G n0 2 300 (eW rvU σ n)) (fBytes_makeEmpty a0 M) (σ, M, n) 0 [(0, .inr (.inl (some a0)))] [] := by
  unfold fBytes_makeEmpty
  refine s_blk C 0 2 [] (pc' := 2) (lv' := []) (st' := [.inl 0, .inr (.inl (some a0))]) rfl ?_
  refine s_pI C 2 rfl fl_X0_15 fp_X0_1_1 (fun h => Bool.noConfusion h) rfl rfl (fun M1 _ => ?_)
  exact s_vret C 3 rfl rfl
theorem cBytes_makeEmpty {l : Launch} {G : GE} (htr : l.stackTraces = false) (σ : Sg) (M : Mm) (n : Nat) (a0 : Nat) : ∀ o, fBytes_makeEmpty a0 M = some o → MetX l G yX0_makeEmpty cX0_makeEmpty 1 none 2 300 [.inr (.inl (some a0))] (σ, M, n) ((eW rvU σ n) o) :=
  c_ofX (by decide) kBytes_makeEmpty htr rfl rfl fun X _ _ C htab => wBytes_makeEmpty C htab a0 _
def pHb_clear : List BR := [(0, .aload_n 0, 1, 0, 1), (1, .getfield 22, 3, 0, 4), (4, .getfield 50, 3, 0, 7), (7, .istore_n 1, 1, 0, 8), (8, .aload_n 0, 1, 0, 9), (9, .getfield 22, 3, 0, 12), (12, .invokevirtual 62, 3, 0, 15), (15, .iload_n 1, 1, 0, 16), (16, .ireturn, 1, 0, 17)]
theorem kHb_clear : bOK cX11_clear 2 pHb_clear = true := by decide +kernel
def fHb_clear (a0 : Nat) (M : Mm) : Option (Int32 × Mm) :=
  fgR 11 1102 (some a0) M fun v1 =>
  fgI 1 101 v1 M fun v2 =>
  fgR 11 1102 (some a0) M fun v3 =>
  rk 1 v3 M fun a4 =>
  bdW (fBytes_makeEmpty a4 M) fun v7 M8 =>
  some (v2, M8)
theorem wHb_clear {X : MC} {G : GE} {n0 : Nat} (C : CX X G RX11 cX11_clear pHb_clear 2 (some .int) n0) (htab : ∀ z ∈ X.2.2.2.2.2.2.2.2.exceptionTable.toList, False) {σ : Sg} {n : Nat} (a0 : Nat) (M : Mm) : JS X G 2 300 0 n0 (EM X G n0 3 300 (eW rvI σ n)) (fHb_clear a0 M) (σ, M, n) 0 [(0, .inr (.inl (some a0)))] [] := by
  unfold fHb_clear
  refine s_blk C 0 1 [0] (pc' := 1) (lv' := [(0, .inr (.inl (some a0)))]) (st' := [.inr (.inl (some a0))]) rfl ?_
  refine s_gR C 1 rfl fl_X11_22 rfl rfl (fun v1 => ?_)
  refine s_gI C 2 rfl fl_X11_50 rfl rfl (fun v2 => ?_)
  refine s_blk C 3 2 [1] (pc' := 9) (lv' := [(1, .inl v2)]) (st' := [.inr (.inl (some a0))]) rfl ?_
  refine s_gR C 5 rfl fl_X11_22 rfl rfl (fun v3 => ?_)
  refine s_rk (fun a4 ha5 hk6 => ?_)
  subst ha5
  refine s_WU (CE_EM _ _ _ _ _ _) (st := []) (fun o ho => j_callV (As := []) (st := []) (b := a4) C 6 rfl mf_Bytes_makeEmpty ml_X11_62 rfl (recv_K C (by decide) (by decide) rfl hk6) (by decide) (by decide) (Nat.le_refl _) rfl (cBytes_makeEmpty (CX_tr C) σ M n a4 o ho)) (fun v7 M8 => ?_)
  refine s_blk C 7 1 [] (pc' := 16) (lv' := []) (st' := [.inl v2]) rfl ?_
  exact s_iret C 8 rfl rfl
theorem cHb_clear {l : Launch} {G : GE} (htr : l.stackTraces = false) (σ : Sg) (M : Mm) (n : Nat) (a0 : Nat) : ∀ o, fHb_clear a0 M = some o → MetX l G yX11_clear cX11_clear 2 (some .int) 3 300 [.inr (.inl (some a0))] (σ, M, n) ((eW rvI σ n) o) :=
  c_ofX (by decide) kHb_clear htr rfl rfl fun X _ _ C htab => wHb_clear C htab a0 _
def pHb_cost : List BR := [(0, .iload_n 1, 1, 0, 1), (1, .iconst 0, 1, 0, 2), (2, .iconst 2, 1, 2, 3), (3, .invokestatic 46, 3, 0, 6), (6, .aload_n 0, 1, 0, 7), (7, .getfield 42, 3, 0, 10), (10, .iload_n 1, 1, 0, 11), (11, .iaload, 1, 0, 12), (12, .ireturn, 1, 0, 13)]
theorem kHb_cost : bOK cX11_cost 2 pHb_cost = true := by decide +kernel
def fHb_cost (a0 : Nat) (x1 : Int32) (M : Mm) (n : Nat) : Option ((Int32 ⊕ Nat) × Mm × Nat) :=
  bdC (fHb_checkRange x1 0 2 M n) n fun v1 M2 n3 =>
  fgR 11 1107 (some a0) M2 fun v4 =>
  alI 21 v4 x1 M2 fun v5 =>
  some (.inl v5, M2, n3)
theorem wHb_cost {X : MC} {G : GE} {n0 : Nat} (C : CX X G RX11 cX11_cost pHb_cost 2 (some .int) n0) (htab : ∀ z ∈ X.2.2.2.2.2.2.2.2.exceptionTable.toList, False) {σ : Sg} (a0 : Nat) (x1 : Int32) (M : Mm) (n : Nat) : JS X G 2 300 0 n0 (EM X G n0 8 300 (eC rvI σ)) (fHb_cost a0 x1 M n) (σ, M, n) 0 [(0, .inr (.inl (some a0))), (1, .inl x1)] [] := by
  unfold fHb_cost
  refine s_blk C 0 3 [0, 1] (pc' := 3) (lv' := [(0, .inr (.inl (some a0))), (1, .inl x1)]) (st' := [.inl 2, .inl 0, .inl x1]) rfl ?_
  refine s_CU C htab (st := []) (fun o ho => j_callS (As := [.inl x1, .inl 0, .inl 2]) (st := []) C 3 rfl mf_Hb_checkRange ml_X11_46 rfl (by decide) (by decide) (Nat.le_refl _) rfl (cHb_checkRange (CX_tr C) σ M n x1 0 2 o ho)) (fun v1 M2 n3 _ => ?_)
  refine s_blk C 4 1 [1] (pc' := 7) (lv' := [(1, .inl x1)]) (st' := [.inr (.inl (some a0))]) rfl ?_
  refine s_gR C 5 rfl fl_X11_42 rfl rfl (fun v4 => ?_)
  refine s_blk C 6 1 [] (pc' := 11) (lv' := []) (st' := [.inl x1, .inr (.inl v4)]) rfl ?_
  refine s_ldI C 7 rfl (fun v5 => ?_)
  exact s_iret C 8 rfl rfl
theorem cHb_cost {l : Launch} {G : GE} (htr : l.stackTraces = false) (σ : Sg) (M : Mm) (n : Nat) (a0 : Nat) (x1 : Int32) : ∀ o, fHb_cost a0 x1 M n = some o → MetX l G yX11_cost cX11_cost 2 (some .int) 8 300 [.inr (.inl (some a0)), .inl x1] (σ, M, n) ((eC rvI σ) o) :=
  c_ofX (by decide) kHb_cost htr rfl rfl fun X _ _ C htab => wHb_cost C htab a0 x1 _ _
def pStore_isUp : List BR := [(0, .iload_n 1, 1, 0, 1), (1, .ifCond .lt (25), 3, 0, 26), (4, .iload_n 1, 1, 0, 5), (5, .aload_n 0, 1, 0, 6), (6, .getfield 9, 3, 0, 9), (9, .arraylength, 1, 0, 10), (10, .if_icmp .ge (16), 3, 0, 26), (13, .aload_n 0, 1, 0, 14), (14, .getfield 9, 3, 0, 17), (17, .iload_n 1, 1, 0, 18), (18, .baload, 1, 0, 19), (19, .ifCond .eq (7), 3, 0, 26), (22, .iconst 1, 1, 1, 23), (23, .goto (4), 3, 0, 27), (26, .iconst 0, 1, 0, 27), (27, .ireturn, 1, 0, 28)]
theorem kStore_isUp : bOK cX8_isUp 2 pStore_isUp = true := by decide +kernel
def fStore_isUp (a0 : Nat) (x1 : Int32) (M : Mm) : Option (Int32) :=
  if x1 < 0 then
    rZ 0 (some 0)
  else
    fgR 8 800 (some a0) M fun v1 =>
    aln v1 M fun v2 =>
    if v2 ≤ x1 then
      rZ 0 (some 0)
    else
      fgR 8 800 (some a0) M fun v3 =>
      alI 22 v3 x1 M fun v4 =>
      if v4 = 0 then
        rZ 0 (some 0)
      else
        rZ 1 (some 1)
theorem wStore_isUp {X : MC} {G : GE} {n0 : Nat} (C : CX X G RX8 cX8_isUp pStore_isUp 2 (some .boolean) n0) (htab : ∀ z ∈ X.2.2.2.2.2.2.2.2.exceptionTable.toList, False) {σ : Sg} {M : Mm} {n : Nat} (a0 : Nat) (x1 : Int32) : JS X G 2 300 0 n0 (EM X G n0 2 300 (eR rvI σ M n)) (fStore_isUp a0 x1 M) (σ, M, n) 0 [(0, .inr (.inl (some a0))), (1, .inl x1)] [] := by
  unfold fStore_isUp
  refine s_blk C 0 1 [0, 1] (pc' := 1) (lv' := [(0, .inr (.inl (some a0))), (1, .inl x1)]) (st' := [.inl x1]) rfl ?_
  refine s_ilt C 1 rfl (fun _ => ?_) (fun _ => ?_)
  · refine s_blk C 14 1 [] (pc' := 27) (lv' := []) (st' := [.inl 0]) rfl ?_
    exact s_zret C 15 rfl rfl
  refine s_blk C 2 2 [0, 1] (pc' := 6) (lv' := [(0, .inr (.inl (some a0))), (1, .inl x1)]) (st' := [.inr (.inl (some a0)), .inl x1]) rfl ?_
  refine s_gR C 4 rfl fl_X8_9 rfl rfl (fun v1 => ?_)
  refine s_len C 5 rfl (fun v2 => ?_)
  refine s_icge C 6 rfl (fun _ => ?_) (fun _ => ?_)
  · refine s_blk C 14 1 [] (pc' := 27) (lv' := []) (st' := [.inl 0]) rfl ?_
    exact s_zret C 15 rfl rfl
  refine s_blk C 7 1 [1] (pc' := 14) (lv' := [(1, .inl x1)]) (st' := [.inr (.inl (some a0))]) rfl ?_
  refine s_gR C 8 rfl fl_X8_9 rfl rfl (fun v3 => ?_)
  refine s_blk C 9 1 [] (pc' := 18) (lv' := []) (st' := [.inl x1, .inr (.inl v3)]) rfl ?_
  refine s_ldZ C 10 rfl (fun v4 => ?_)
  refine s_ieq C 11 rfl (fun _ => ?_) (fun _ => ?_)
  · refine s_blk C 14 1 [] (pc' := 27) (lv' := []) (st' := [.inl 0]) rfl ?_
    exact s_zret C 15 rfl rfl
  refine s_blk C 12 2 [] (pc' := 27) (lv' := []) (st' := [.inl 1]) rfl ?_
  exact s_zret C 15 rfl rfl
theorem cStore_isUp {l : Launch} {G : GE} (htr : l.stackTraces = false) (σ : Sg) (M : Mm) (n : Nat) (a0 : Nat) (x1 : Int32) : ∀ o, fStore_isUp a0 x1 M = some o → MetX l G yX8_isUp cX8_isUp 2 (some .boolean) 2 300 [.inr (.inl (some a0)), .inl x1] (σ, M, n) ((eR rvI σ M n) o) :=
  c_ofX (by decide) kStore_isUp htr rfl rfl fun X _ _ C htab => wStore_isUp C htab a0 x1
def pStore_manyUp : List BR := [(0, .iconst 0, 1, 0, 1), (1, .istore_n 1, 1, 0, 2), (2, .iconst 0, 1, 0, 3), (3, .istore_n 2, 1, 0, 4), (4, .iload_n 2, 1, 0, 5), (5, .bipush 6, 2, 6, 7), (7, .if_icmp .ge (20), 3, 0, 27), (10, .aload_n 0, 1, 0, 11), (11, .iload_n 2, 1, 0, 12), (12, .invokevirtual 58, 3, 0, 15), (15, .ifCond .eq (6), 3, 0, 21), (18, .iinc 1 (1), 3, 1, 21), (21, .iinc 2 (1), 3, 1, 24), (24, .goto (-20), 3, 0, 4), (27, .iload_n 1, 1, 0, 28), (28, .ireturn, 1, 0, 29)]
theorem kStore_manyUp : bOK cX8_manyUp 3 pStore_manyUp = true := by decide +kernel
def fStore_manyUp_j21 (a0 : Nat) (k4 : Int32 → Int32 → Mm → Option (Int32)) (x1 : Int32) (x2 : Int32) (M : Mm) : Option (Int32) :=
  k4 x1 (x2 + 1) M
theorem wStore_manyUp_j21 {X : MC} {G : GE} {n0 : Nat} (C : CX X G RX8 cX8_manyUp pStore_manyUp 3 (some .int) n0) (htab : ∀ z ∈ X.2.2.2.2.2.2.2.2.exceptionTable.toList, False) {σ : Sg} {M : Mm} {n : Nat} (a0 : Nat) (k4 : Int32 → Int32 → Mm → Option (Int32)) (H4 : ∀ (x1 : Int32) (x2 : Int32), JS X G 3 300 0 n0 (EM X G n0 3 300 (eR rvI σ M n)) (k4 x1 x2 M) (σ, M, n) 4 [(0, .inr (.inl (some a0))), (1, .inl x1), (2, .inl x2)] []) (x1 : Int32) (x2 : Int32) : JS X G 3 300 0 n0 (EM X G n0 3 300 (eR rvI σ M n)) (fStore_manyUp_j21 a0 k4 x1 x2 M) (σ, M, n) 21 [(0, .inr (.inl (some a0))), (1, .inl x1), (2, .inl x2)] [] := by
  unfold fStore_manyUp_j21
  refine s_blk C 12 2 [0, 1, 2] (pc' := 4) (lv' := [(0, .inr (.inl (some a0))), (1, .inl x1), (2, .inl (x2 + 1))]) (st' := []) rfl ?_
  exact H4 _ _
def fStore_manyUp_b4 (a0 : Nat) (k4 : Int32 → Int32 → Mm → Option (Int32)) (x1 : Int32) (x2 : Int32) (M : Mm) : Option (Int32) :=
  if 6 ≤ x2 then
    some x1
  else
    rk 8 (some a0) M fun _ =>
    bdR (fStore_isUp a0 x2 M) fun v2 =>
    if v2 = 0 then
      fStore_manyUp_j21 a0 k4 x1 x2 M
    else
      fStore_manyUp_j21 a0 k4 (x1 + 1) x2 M
theorem wStore_manyUp_b4 {X : MC} {G : GE} {n0 : Nat} (C : CX X G RX8 cX8_manyUp pStore_manyUp 3 (some .int) n0) (htab : ∀ z ∈ X.2.2.2.2.2.2.2.2.exceptionTable.toList, False) {σ : Sg} {M : Mm} {n : Nat} (a0 : Nat) (k4 : Int32 → Int32 → Mm → Option (Int32)) (H4 : ∀ (x1 : Int32) (x2 : Int32), JS X G 3 300 0 n0 (EM X G n0 3 300 (eR rvI σ M n)) (k4 x1 x2 M) (σ, M, n) 4 [(0, .inr (.inl (some a0))), (1, .inl x1), (2, .inl x2)] []) (x1 : Int32) (x2 : Int32) : JS X G 3 300 0 n0 (EM X G n0 3 300 (eR rvI σ M n)) (fStore_manyUp_b4 a0 k4 x1 x2 M) (σ, M, n) 4 [(0, .inr (.inl (some a0))), (1, .inl x1), (2, .inl x2)] [] := by
  unfold fStore_manyUp_b4
  refine s_blk C 4 2 [0, 1, 2] (pc' := 7) (lv' := [(0, .inr (.inl (some a0))), (1, .inl x1), (2, .inl x2)]) (st' := [.inl 6, .inl x2]) rfl ?_
  refine s_icge C 6 rfl (fun _ => ?_) (fun _ => ?_)
  · refine s_blk C 14 1 [] (pc' := 28) (lv' := []) (st' := [.inl x1]) rfl ?_
    exact s_iret C 15 rfl rfl
  refine s_blk C 7 2 [0, 1, 2] (pc' := 12) (lv' := [(0, .inr (.inl (some a0))), (1, .inl x1), (2, .inl x2)]) (st' := [.inl x2, .inr (.inl (some a0))]) rfl ?_
  refine s_rks (fun hk1 => ?_)
  refine s_RI (CE_EM _ _ _ _ _ _) (st := []) (fun o ho => j_callV (As := [.inl x2]) (st := []) (b := a0) C 9 rfl mf_Store_isUp ml_X8_58 rfl (recv_K C (by decide) (by decide) rfl hk1) (by decide) (by decide) (Nat.le_refl _) rfl (cStore_isUp (CX_tr C) σ M n a0 x2 o ho)) (fun v2 => ?_)
  refine s_ieq C 10 rfl (fun _ => ?_) (fun _ => ?_)
  · exact wStore_manyUp_j21 C htab a0 k4 H4 _ _
  refine s_blk C 11 1 [0, 1, 2] (pc' := 21) (lv' := [(0, .inr (.inl (some a0))), (1, .inl (x1 + 1)), (2, .inl x2)]) (st' := []) rfl ?_
  exact wStore_manyUp_j21 C htab a0 k4 H4 _ _
def fStore_manyUp_l4 (a0 : Nat) (fu : Nat) : Int32 → Int32 → Mm → Option (Int32) := Nat.rec (fun x1 x2 M => none) (fun _ k => fStore_manyUp_b4 a0 k) fu
theorem wStore_manyUp_l4 {X : MC} {G : GE} {n0 : Nat} (C : CX X G RX8 cX8_manyUp pStore_manyUp 3 (some .int) n0) (htab : ∀ z ∈ X.2.2.2.2.2.2.2.2.exceptionTable.toList, False) {σ : Sg} {M : Mm} {n : Nat} (a0 : Nat) : ∀ (fu : Nat) (x1 : Int32) (x2 : Int32), JS X G 3 300 0 n0 (EM X G n0 3 300 (eR rvI σ M n)) (fStore_manyUp_l4 a0 fu x1 x2 M) (σ, M, n) 4 [(0, .inr (.inl (some a0))), (1, .inl x1), (2, .inl x2)] [] := by
  intro fu
  induction fu with
  | zero => intro x1 x2; exact s_none
  | succ fu ih => intro x1 x2; exact wStore_manyUp_b4 C htab a0 (fStore_manyUp_l4 a0 fu) ih _ _
def fStore_manyUp (a0 : Nat) (M : Mm) : Option (Int32) :=
  fStore_manyUp_l4 a0 FU 0 0 M
theorem wStore_manyUp {X : MC} {G : GE} {n0 : Nat} (C : CX X G RX8 cX8_manyUp pStore_manyUp 3 (some .int) n0) (htab : ∀ z ∈ X.2.2.2.2.2.2.2.2.exceptionTable.toList, False) {σ : Sg} {M : Mm} {n : Nat} (a0 : Nat) : JS X G 3 300 0 n0 (EM X G n0 3 300 (eR rvI σ M n)) (fStore_manyUp a0 M) (σ, M, n) 0 [(0, .inr (.inl (some a0)))] [] := by
  unfold fStore_manyUp
  refine s_blk C 0 4 [0, 1, 2] (pc' := 4) (lv' := [(0, .inr (.inl (some a0))), (1, .inl 0), (2, .inl 0)]) (st' := []) rfl ?_
  exact wStore_manyUp_l4 C htab a0 FU _ _
theorem cStore_manyUp {l : Launch} {G : GE} (htr : l.stackTraces = false) (σ : Sg) (M : Mm) (n : Nat) (a0 : Nat) : ∀ o, fStore_manyUp a0 M = some o → MetX l G yX8_manyUp cX8_manyUp 3 (some .int) 3 300 [.inr (.inl (some a0))] (σ, M, n) ((eR rvI σ M n) o) :=
  c_ofX (by decide) kStore_manyUp htr rfl rfl fun X _ _ C htab => wStore_manyUp C htab a0
def pCut_endsPart : List BR := [(0, .iload_n 2, 1, 0, 1), (1, .iload_n 1, 1, 0, 2), (2, .isub, 1, 0, 3), (3, .istore_n 3, 1, 0, 4), (4, .iload_n 3, 1, 0, 5), (5, .bipush 6, 2, 6, 7), (7, .if_icmp .ne (5), 3, 0, 12), (10, .iconst 1, 1, 1, 11), (11, .ireturn, 1, 0, 12), (12, .iload_n 3, 1, 0, 13), (13, .iconst 2, 1, 2, 14), (14, .if_icmp .lt (29), 3, 0, 43), (17, .iconst 3, 1, 3, 18), (18, .aload_n 0, 1, 0, 19), (19, .iload_n 2, 1, 0, 20), (20, .iconst 2, 1, 2, 21), (21, .isub, 1, 0, 22), (22, .invokevirtual 33, 3, 0, 25), (25, .imul, 1, 0, 26), (26, .aload_n 0, 1, 0, 27), (27, .iload_n 2, 1, 0, 28), (28, .iconst 1, 1, 1, 29), (29, .isub, 1, 0, 30), (30, .invokevirtual 33, 3, 0, 33), (33, .iadd, 1, 0, 34), (34, .iconst 5, 1, 5, 35), (35, .irem, 1, 0, 36), (36, .ifCond .ne (7), 3, 0, 43), (39, .iconst 1, 1, 1, 40), (40, .goto (4), 3, 0, 44), (43, .iconst 0, 1, 0, 44), (44, .ireturn, 1, 0, 45)]
theorem kCut_endsPart : bOK cX2_endsPart 4 pCut_endsPart = true := by decide +kernel
def fCut_endsPart (r0 : Option Nat) (x1 : Int32) (x2 : Int32) (M : Mm) : Option (Int32) :=
  if (x2 - x1) = 6 then
    rZ 1 (some 1)
  else
    if (x2 - x1) < 2 then
      rZ 0 (some 0)
    else
      rk 1 r0 M fun a1 =>
      bdR (fBytes_at a1 (x2 - 2) M) fun v4 =>
      rk 1 r0 M fun a6 =>
      bdR (fBytes_at a6 (x2 - 1) M) fun v7 =>
      if (((3 * v4) + v7) - ((3 * v4) + v7) / 5 * 5) = 0 then
        rZ 1 (some 1)
      else
        rZ 0 (some 0)
theorem wCut_endsPart {X : MC} {G : GE} {n0 : Nat} (C : CX X G RX2 cX2_endsPart pCut_endsPart 4 (some .boolean) n0) (htab : ∀ z ∈ X.2.2.2.2.2.2.2.2.exceptionTable.toList, False) {σ : Sg} {M : Mm} {n : Nat} (r0 : Option Nat) (x1 : Int32) (x2 : Int32) : JS X G 4 300 0 n0 (EM X G n0 3 300 (eR rvI σ M n)) (fCut_endsPart r0 x1 x2 M) (σ, M, n) 0 [(0, .inr (.inl r0)), (1, .inl x1), (2, .inl x2)] [] := by
  unfold fCut_endsPart
  refine s_blk C 0 6 [0, 2, 3] (pc' := 7) (lv' := [(0, .inr (.inl r0)), (2, .inl x2), (3, .inl (x2 - x1))]) (st' := [.inl 6, .inl (x2 - x1)]) rfl ?_
  refine s_icne C 6 rfl (fun _ => ?_) (fun _ => ?_)
  · refine s_blk C 7 1 [] (pc' := 11) (lv' := []) (st' := [.inl 1]) rfl ?_
    exact s_zret C 8 rfl rfl
  refine s_blk C 9 2 [0, 2] (pc' := 14) (lv' := [(0, .inr (.inl r0)), (2, .inl x2)]) (st' := [.inl 2, .inl (x2 - x1)]) rfl ?_
  refine s_iclt C 11 rfl (fun _ => ?_) (fun _ => ?_)
  · refine s_blk C 30 1 [] (pc' := 44) (lv' := []) (st' := [.inl 0]) rfl ?_
    exact s_zret C 31 rfl rfl
  refine s_blk C 12 5 [0, 2] (pc' := 22) (lv' := [(0, .inr (.inl r0)), (2, .inl x2)]) (st' := [.inl (x2 - 2), .inr (.inl r0), .inl 3]) rfl ?_
  refine s_rk (fun a1 ha2 hk3 => ?_)
  subst ha2
  refine s_RI (CE_EM _ _ _ _ _ _) (st := [.inl 3]) (fun o ho => j_callV (As := [.inl (x2 - 2)]) (st := [.inl 3]) (b := a1) C 17 rfl mf_Bytes_at ml_X2_33 rfl (recv_K C (by decide) (by decide) rfl hk3) (by decide) (by decide) (Nat.le_refl _) rfl (cBytes_at (CX_tr C) σ M n a1 (x2 - 2) o ho)) (fun v4 => ?_)
  refine s_blk C 18 5 [] (pc' := 30) (lv' := []) (st' := [.inl (x2 - 1), .inr (.inl (some a1)), .inl (3 * v4)]) rfl ?_
  refine s_rks (fun hk5 => ?_)
  refine s_RI (CE_EM _ _ _ _ _ _) (st := [.inl (3 * v4)]) (fun o ho => j_callV (As := [.inl (x2 - 1)]) (st := [.inl (3 * v4)]) (b := a1) C 23 rfl mf_Bytes_at ml_X2_33 rfl (recv_K C (by decide) (by decide) rfl hk5) (by decide) (by decide) (Nat.le_refl _) rfl (cBytes_at (CX_tr C) σ M n a1 (x2 - 1) o ho)) (fun v7 => ?_)
  refine s_blk C 24 2 [] (pc' := 35) (lv' := []) (st' := [.inl 5, .inl ((3 * v4) + v7)]) rfl ?_
  refine s_irem C 26 rfl (by decide) ?_
  refine s_ine C 27 rfl (fun _ => ?_) (fun _ => ?_)
  · refine s_blk C 28 2 [] (pc' := 44) (lv' := []) (st' := [.inl 1]) rfl ?_
    exact s_zret C 31 rfl rfl
  refine s_blk C 30 1 [] (pc' := 44) (lv' := []) (st' := [.inl 0]) rfl ?_
  exact s_zret C 31 rfl rfl
theorem cCut_endsPart {l : Launch} {G : GE} (htr : l.stackTraces = false) (σ : Sg) (M : Mm) (n : Nat) (r0 : Option Nat) (x1 : Int32) (x2 : Int32) : ∀ o, fCut_endsPart r0 x1 x2 M = some o → MetX l G yX2_endsPart cX2_endsPart 4 (some .boolean) 3 300 [.inr (.inl r0), .inl x1, .inl x2] (σ, M, n) ((eR rvI σ M n) o) :=
  c_ofX (by decide) kCut_endsPart htr rfl rfl fun X _ _ C htab => wCut_endsPart C htab r0 x1 x2

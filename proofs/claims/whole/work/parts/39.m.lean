def pHb_put_0 : List BR := [(0, .aload_n 0, 1, 0, 1), (1, .iload_n 1, 1, 0, 2), (2, .invokevirtual 65, 3, 0, 5), (5, .astore 4, 2, 0, 7), (7, .iload_n 2, 1, 0, 8), (8, .invokestatic 69, 3, 0, 11), (11, .iload_n 3, 1, 0, 12), (12, .iconst (-1), 1, -1, 13), (13, .if_icmp .lt (7), 3, 0, 20), (16, .iconst 1, 1, 1, 17), (17, .goto (4), 3, 0, 21), (20, .iconst 0, 1, 0, 21), (21, .invokestatic 72, 3, 0, 24), (24, .aload_n 0, 1, 0, 25), (25, .getfield 22, 3, 0, 28), (28, .getfield 50, 3, 0, 31), (31, .ifCond .le (7), 3, 0, 38), (34, .iconst 1, 1, 1, 35), (35, .goto (4), 3, 0, 39), (38, .iconst 0, 1, 0, 39), (39, .invokestatic 54, 3, 0, 42), (42, .iload_n 3, 1, 0, 43), (43, .aload 4, 2, 0, 45), (45, .iload_n 2, 1, 0, 46), (46, .invokevirtual 75, 3, 0, 49), (49, .invokestatic 79, 3, 0, 52), (52, .ifCond .ne (5), 3, 0, 57), (55, .iconst 0, 1, 0, 56), (56, .ireturn, 1, 0, 57), (57, .aload_n 0, 1, 0, 58), (58, .aload 4, 2, 0, 60), (60, .iload_n 2, 1, 0, 61), (61, .aload_n 0, 1, 0, 62), (62, .getfield 22, 3, 0, 65), (65, .invokevirtual 83, 3, 0, 68), (68, .istore 5, 2, 0, 70), (70, .aload_n 0, 1, 0, 71), (71, .getfield 22, 3, 0, 74), (74, .invokevirtual 62, 3, 0, 77), (77, .iload 5, 2, 0, 79)]
theorem kHb_put_0 : bOK cX11_put 6 pHb_put_0 = true := by decide +kernel
def pHb_put_1 : List BR := [(79, .ireturn, 1, 0, 80)]
theorem kHb_put_1 : bOK cX11_put 6 pHb_put_1 = true := by decide +kernel
def pHb_put : List BR := (pHb_put_0 ++ pHb_put_1)
theorem kHb_put : bOK cX11_put 6 pHb_put = true := (bOK_app kHb_put_0 kHb_put_1)
def fHb_put_j39 (a0 : Nat) (x2 : Int32) (x3 : Int32) (r4 : Option Nat) (s0 : Int32) (M : Mm) (n : Nat) : Option ((Int32 ⊕ Nat) × Mm × Nat) :=
  bdC (fHb_checkState s0 M n) n fun v1 M2 n3 =>
  rk 6 r4 M2 fun a4 =>
  bdR (fRegion_latest a4 x2 M2) fun v7 =>
  bdR (fHb_holds x3 v7 M2) fun v8 =>
  if v8 = 0 then
    some (.inl 0, M2, n3)
  else
    fgR 11 1102 (some a0) M2 fun v9 =>
    rk 11 (some a0) M2 fun _ =>
    bdC (fHb_store a0 r4 x2 v9 M2 n3) n3 fun v11 M12 n13 =>
    fgR 11 1102 (some a0) M12 fun v14 =>
    rk 1 v14 M12 fun a15 =>
    bdW (fBytes_makeEmpty a15 M12) fun v18 M19 =>
    some (.inl v11, M19, n13)
theorem wHb_put_j39 {X : MC} {G : GE} {n0 : Nat} (C : CX X G RX11 cX11_put pHb_put 6 (some .int) n0) (htab : ∀ z ∈ X.2.2.2.2.2.2.2.2.exceptionTable.toList, False) {σ : Sg} (a0 : Nat) (x2 : Int32) (x3 : Int32) (r4 : Option Nat) (s0 : Int32) (M : Mm) (n : Nat) : JS X G 6 300 0 n0 (EM X G n0 12 300 (eC rvI σ)) (fHb_put_j39 a0 x2 x3 r4 s0 M n) (σ, M, n) 39 [(0, .inr (.inl (some a0))), (2, .inl x2), (3, .inl x3), (4, .inr (.inl r4))] [.inl s0] := by
  unfold fHb_put_j39
  refine s_CU C htab (st := []) (fun o ho => j_callS (As := [.inl s0]) (st := []) C 20 rfl mf_Hb_checkState ml_X11_54 rfl (by decide) (by decide) (Nat.le_refl _) rfl (cHb_checkState (CX_tr C) σ M n s0 o ho)) (fun v1 M2 n3 _ => ?_)
  refine s_blk C 21 3 [0, 2, 4] (pc' := 46) (lv' := [(0, .inr (.inl (some a0))), (2, .inl x2), (4, .inr (.inl r4))]) (st' := [.inl x2, .inr (.inl r4), .inl x3]) rfl ?_
  refine s_rk (fun a4 ha5 hk6 => ?_)
  subst ha5
  refine s_RR (CE_EM _ _ _ _ _ _) (st := [.inl x3]) (fun o ho => j_callV (As := [.inl x2]) (st := [.inl x3]) (b := a4) C 24 rfl mf_Region_latest ml_X11_75 rfl (recv_K C (by decide) (by decide) rfl hk6) (by decide) (by decide) (Nat.le_refl _) rfl (cRegion_latest (CX_tr C) σ M2 n3 a4 x2 o ho)) (fun v7 => ?_)
  refine s_RI (CE_EM _ _ _ _ _ _) (st := []) (fun o ho => j_callS (As := [.inl x3, .inr (.inl v7)]) (st := []) C 25 rfl mf_Hb_holds ml_X11_79 rfl (by decide) (by decide) (Nat.le_refl _) rfl (cHb_holds (CX_tr C) σ M2 n3 x3 v7 o ho)) (fun v8 => ?_)
  refine s_ine C 26 rfl (fun _ => ?_) (fun _ => ?_)
  · refine s_blk C 27 1 [] (pc' := 56) (lv' := []) (st' := [.inl 0]) rfl ?_
    exact s_iret C 28 rfl rfl
  refine s_blk C 29 4 [0] (pc' := 62) (lv' := [(0, .inr (.inl (some a0)))]) (st' := [.inr (.inl (some a0)), .inl x2, .inr (.inl (some a4)), .inr (.inl (some a0))]) rfl ?_
  refine s_gR C 33 rfl fl_X11_22 rfl rfl (fun v9 => ?_)
  refine s_rks (fun hk10 => ?_)
  refine s_CI C htab (st := []) (fun o ho => j_callV (As := [.inr (.inl (some a4)), .inl x2, .inr (.inl v9)]) (st := []) (b := a0) C 34 rfl mf_Hb_store ml_X11_83 rfl (recv_K C (by decide) (by decide) rfl hk10) (by decide) (by decide) (Nat.le_refl _) rfl (cHb_store (CX_tr C) σ M2 n3 a0 (some a4) x2 v9 o ho)) (fun v11 M12 n13 _ => ?_)
  refine s_blk C 35 2 [5] (pc' := 71) (lv' := [(5, .inl v11)]) (st' := [.inr (.inl (some a0))]) rfl ?_
  refine s_gR C 37 rfl fl_X11_22 rfl rfl (fun v14 => ?_)
  refine s_rk (fun a15 ha16 hk17 => ?_)
  subst ha16
  refine s_WU (CE_EM _ _ _ _ _ _) (st := []) (fun o ho => j_callV (As := []) (st := []) (b := a15) C 38 rfl mf_Bytes_makeEmpty ml_X11_62 rfl (recv_K C (by decide) (by decide) rfl hk17) (by decide) (by decide) (Nat.le_refl _) rfl (cBytes_makeEmpty (CX_tr C) σ M12 n13 a15 o ho)) (fun v18 M19 => ?_)
  refine s_blk C 39 1 [] (pc' := 79) (lv' := []) (st' := [.inl v11]) rfl ?_
  exact s_iret C 40 rfl rfl
def fHb_put_j21 (a0 : Nat) (x2 : Int32) (x3 : Int32) (r4 : Option Nat) (s0 : Int32) (M : Mm) (n : Nat) : Option ((Int32 ⊕ Nat) × Mm × Nat) :=
  bdC (fHb_checkArgument s0 M n) n fun v1 M2 n3 =>
  fgR 11 1102 (some a0) M2 fun v4 =>
  fgI 1 101 v4 M2 fun v5 =>
  if v5 ≤ 0 then
    fHb_put_j39 a0 x2 x3 r4 0 M2 n3
  else
    fHb_put_j39 a0 x2 x3 r4 1 M2 n3
theorem wHb_put_j21 {X : MC} {G : GE} {n0 : Nat} (C : CX X G RX11 cX11_put pHb_put 6 (some .int) n0) (htab : ∀ z ∈ X.2.2.2.2.2.2.2.2.exceptionTable.toList, False) {σ : Sg} (a0 : Nat) (x2 : Int32) (x3 : Int32) (r4 : Option Nat) (s0 : Int32) (M : Mm) (n : Nat) : JS X G 6 300 0 n0 (EM X G n0 12 300 (eC rvI σ)) (fHb_put_j21 a0 x2 x3 r4 s0 M n) (σ, M, n) 21 [(0, .inr (.inl (some a0))), (2, .inl x2), (3, .inl x3), (4, .inr (.inl r4))] [.inl s0] := by
  unfold fHb_put_j21
  refine s_CU C htab (st := []) (fun o ho => j_callS (As := [.inl s0]) (st := []) C 12 rfl mf_Hb_checkArgument ml_X11_72 rfl (by decide) (by decide) (Nat.le_refl _) rfl (cHb_checkArgument (CX_tr C) σ M n s0 o ho)) (fun v1 M2 n3 _ => ?_)
  refine s_blk C 13 1 [0, 2, 3, 4] (pc' := 25) (lv' := [(0, .inr (.inl (some a0))), (2, .inl x2), (3, .inl x3), (4, .inr (.inl r4))]) (st' := [.inr (.inl (some a0))]) rfl ?_
  refine s_gR C 14 rfl fl_X11_22 rfl rfl (fun v4 => ?_)
  refine s_gI C 15 rfl fl_X11_50 rfl rfl (fun v5 => ?_)
  refine s_ile C 16 rfl (fun _ => ?_) (fun _ => ?_)
  · refine s_blk C 19 1 [0, 2, 3, 4] (pc' := 39) (lv' := [(0, .inr (.inl (some a0))), (2, .inl x2), (3, .inl x3), (4, .inr (.inl r4))]) (st' := [.inl 0]) rfl ?_
    exact wHb_put_j39 C htab a0 _ _ _ _ _ _
  refine s_blk C 17 2 [0, 2, 3, 4] (pc' := 39) (lv' := [(0, .inr (.inl (some a0))), (2, .inl x2), (3, .inl x3), (4, .inr (.inl r4))]) (st' := [.inl 1]) rfl ?_
  exact wHb_put_j39 C htab a0 _ _ _ _ _ _
def fHb_put (a0 : Nat) (x1 : Int32) (x2 : Int32) (x3 : Int32) (M : Mm) (n : Nat) : Option ((Int32 ⊕ Nat) × Mm × Nat) :=
  rk 11 (some a0) M fun _ =>
  bdC (fHb_regionOf a0 x1 M n) n fun v2 M3 n4 =>
  bdC (fHb_checkKey x2 M3 n4) n4 fun v5 M6 n7 =>
  if x3 < (-1) then
    fHb_put_j21 a0 x2 x3 v2 0 M6 n7
  else
    fHb_put_j21 a0 x2 x3 v2 1 M6 n7
theorem wHb_put {X : MC} {G : GE} {n0 : Nat} (C : CX X G RX11 cX11_put pHb_put 6 (some .int) n0) (htab : ∀ z ∈ X.2.2.2.2.2.2.2.2.exceptionTable.toList, False) {σ : Sg} (a0 : Nat) (x1 : Int32) (x2 : Int32) (x3 : Int32) (M : Mm) (n : Nat) : JS X G 6 300 0 n0 (EM X G n0 12 300 (eC rvI σ)) (fHb_put a0 x1 x2 x3 M n) (σ, M, n) 0 [(0, .inr (.inl (some a0))), (1, .inl x1), (2, .inl x2), (3, .inl x3)] [] := by
  unfold fHb_put
  refine s_blk C 0 2 [0, 2, 3] (pc' := 2) (lv' := [(0, .inr (.inl (some a0))), (2, .inl x2), (3, .inl x3)]) (st' := [.inl x1, .inr (.inl (some a0))]) rfl ?_
  refine s_rks (fun hk1 => ?_)
  refine s_CR C htab (st := []) (fun o ho => j_callV (As := [.inl x1]) (st := []) (b := a0) C 2 rfl mf_Hb_regionOf ml_X11_65 rfl (recv_K C (by decide) (by decide) rfl hk1) (by decide) (by decide) (Nat.le_refl _) rfl (cHb_regionOf (CX_tr C) σ M n a0 x1 o ho)) (fun v2 M3 n4 _ => ?_)
  refine s_blk C 3 2 [0, 2, 3, 4] (pc' := 8) (lv' := [(0, .inr (.inl (some a0))), (2, .inl x2), (3, .inl x3), (4, .inr (.inl v2))]) (st' := [.inl x2]) rfl ?_
  refine s_CU C htab (st := []) (fun o ho => j_callS (As := [.inl x2]) (st := []) C 5 rfl mf_Hb_checkKey ml_X11_69 rfl (by decide) (by decide) (Nat.le_refl _) rfl (cHb_checkKey (CX_tr C) σ M3 n4 x2 o ho)) (fun v5 M6 n7 _ => ?_)
  refine s_blk C 6 2 [0, 2, 3, 4] (pc' := 13) (lv' := [(0, .inr (.inl (some a0))), (2, .inl x2), (3, .inl x3), (4, .inr (.inl v2))]) (st' := [.inl (-1), .inl x3]) rfl ?_
  refine s_iclt C 8 rfl (fun _ => ?_) (fun _ => ?_)
  · refine s_blk C 11 1 [0, 2, 3, 4] (pc' := 21) (lv' := [(0, .inr (.inl (some a0))), (2, .inl x2), (3, .inl x3), (4, .inr (.inl v2))]) (st' := [.inl 0]) rfl ?_
    exact wHb_put_j21 C htab a0 _ _ _ _ _ _
  refine s_blk C 9 2 [0, 2, 3, 4] (pc' := 21) (lv' := [(0, .inr (.inl (some a0))), (2, .inl x2), (3, .inl x3), (4, .inr (.inl v2))]) (st' := [.inl 1]) rfl ?_
  exact wHb_put_j21 C htab a0 _ _ _ _ _ _
theorem cHb_put {l : Launch} {G : GE} (htr : l.stackTraces = false) (σ : Sg) (M : Mm) (n : Nat) (a0 : Nat) (x1 : Int32) (x2 : Int32) (x3 : Int32) : ∀ o, fHb_put a0 x1 x2 x3 M n = some o → MetX l G yX11_put cX11_put 6 (some .int) 12 300 [.inr (.inl (some a0)), .inl x1, .inl x2, .inl x3] (σ, M, n) ((eC rvI σ) o) :=
  c_ofX (by decide) kHb_put htr rfl rfl fun X _ _ C htab => wHb_put C htab a0 x1 x2 x3 _ _
def pHb_read : List BR := [(0, .aload_n 0, 1, 0, 1), (1, .iload_n 1, 1, 0, 2), (2, .invokevirtual 65, 3, 0, 5), (5, .astore 5, 2, 0, 7), (7, .iload 4, 2, 0, 9), (9, .ifCond .lt (7), 3, 0, 16), (12, .iconst 1, 1, 1, 13), (13, .goto (4), 3, 0, 17), (16, .iconst 0, 1, 0, 17), (17, .invokestatic 115, 3, 0, 20), (20, .iload_n 3, 1, 0, 21), (21, .ifCond .eq (19), 3, 0, 40), (24, .aload_n 0, 1, 0, 25), (25, .aload 5, 2, 0, 27), (27, .aload 5, 2, 0, 29), (29, .iload_n 2, 1, 0, 30), (30, .iload_n 3, 1, 0, 31), (31, .invokestatic 91, 3, 0, 34), (34, .iload 4, 2, 0, 36), (36, .invokevirtual 118, 3, 0, 39), (39, .ireturn, 1, 0, 40), (40, .iload_n 2, 1, 0, 41), (41, .invokestatic 69, 3, 0, 44), (44, .aload_n 0, 1, 0, 45), (45, .aload 5, 2, 0, 47), (47, .aload 5, 2, 0, 49), (49, .iload_n 2, 1, 0, 50), (50, .invokevirtual 75, 3, 0, 53), (53, .iload 4, 2, 0, 55), (55, .invokevirtual 118, 3, 0, 58), (58, .ireturn, 1, 0, 59)]
theorem kHb_read : bOK cX11_read 6 pHb_read = true := by decide +kernel
def fHb_read_j17 (a0 : Nat) (x2 : Int32) (x3 : Int32) (x4 : Int32) (r5 : Option Nat) (s0 : Int32) (M : Mm) (n : Nat) : Option ((Int32 ⊕ Nat) × Mm × Nat) :=
  bdC (fHb_checkIndex s0 M n) n fun v1 M2 n3 =>
  if x3 = 0 then
    bdC (fHb_checkKey x2 M2 n3) n3 fun v4 M5 n6 =>
    rk 6 r5 M5 fun a7 =>
    bdR (fRegion_latest a7 x2 M5) fun v10 =>
    rk 11 (some a0) M5 fun _ =>
    bdW (fHb_byteOf a0 r5 v10 x4 M5) fun v12 M13 =>
    some (.inl v12, M13, n6)
  else
    bdC (fHb_versionOf r5 x2 x3 M2 n3) n3 fun v14 M15 n16 =>
    rk 11 (some a0) M15 fun _ =>
    bdW (fHb_byteOf a0 r5 v14 x4 M15) fun v18 M19 =>
    some (.inl v18, M19, n16)
theorem wHb_read_j17 {X : MC} {G : GE} {n0 : Nat} (C : CX X G RX11 cX11_read pHb_read 6 (some .int) n0) (htab : ∀ z ∈ X.2.2.2.2.2.2.2.2.exceptionTable.toList, False) {σ : Sg} (a0 : Nat) (x2 : Int32) (x3 : Int32) (x4 : Int32) (r5 : Option Nat) (s0 : Int32) (M : Mm) (n : Nat) : JS X G 6 300 0 n0 (EM X G n0 9 300 (eC rvI σ)) (fHb_read_j17 a0 x2 x3 x4 r5 s0 M n) (σ, M, n) 17 [(0, .inr (.inl (some a0))), (2, .inl x2), (3, .inl x3), (4, .inl x4), (5, .inr (.inl r5))] [.inl s0] := by
  unfold fHb_read_j17
  refine s_CU C htab (st := []) (fun o ho => j_callS (As := [.inl s0]) (st := []) C 9 rfl mf_Hb_checkIndex ml_X11_115 rfl (by decide) (by decide) (Nat.le_refl _) rfl (cHb_checkIndex (CX_tr C) σ M n s0 o ho)) (fun v1 M2 n3 _ => ?_)
  refine s_blk C 10 1 [0, 2, 3, 4, 5] (pc' := 21) (lv' := [(0, .inr (.inl (some a0))), (2, .inl x2), (3, .inl x3), (4, .inl x4), (5, .inr (.inl r5))]) (st' := [.inl x3]) rfl ?_
  refine s_ieq C 11 rfl (fun _ => ?_) (fun _ => ?_)
  · refine s_blk C 21 1 [0, 2, 4, 5] (pc' := 41) (lv' := [(0, .inr (.inl (some a0))), (2, .inl x2), (4, .inl x4), (5, .inr (.inl r5))]) (st' := [.inl x2]) rfl ?_
    refine s_CU C htab (st := []) (fun o ho => j_callS (As := [.inl x2]) (st := []) C 22 rfl mf_Hb_checkKey ml_X11_69 rfl (by decide) (by decide) (Nat.le_refl _) rfl (cHb_checkKey (CX_tr C) σ M2 n3 x2 o ho)) (fun v4 M5 n6 _ => ?_)
    refine s_blk C 23 4 [4] (pc' := 50) (lv' := [(4, .inl x4)]) (st' := [.inl x2, .inr (.inl r5), .inr (.inl r5), .inr (.inl (some a0))]) rfl ?_
    refine s_rk (fun a7 ha8 hk9 => ?_)
    subst ha8
    refine s_RR (CE_EM _ _ _ _ _ _) (st := [.inr (.inl (some a7)), .inr (.inl (some a0))]) (fun o ho => j_callV (As := [.inl x2]) (st := [.inr (.inl (some a7)), .inr (.inl (some a0))]) (b := a7) C 27 rfl mf_Region_latest ml_X11_75 rfl (recv_K C (by decide) (by decide) rfl hk9) (by decide) (by decide) (Nat.le_refl _) rfl (cRegion_latest (CX_tr C) σ M5 n6 a7 x2 o ho)) (fun v10 => ?_)
    refine s_blk C 28 1 [] (pc' := 55) (lv' := []) (st' := [.inl x4, .inr (.inl v10), .inr (.inl (some a7)), .inr (.inl (some a0))]) rfl ?_
    refine s_rks (fun hk11 => ?_)
    refine s_WI (CE_EM _ _ _ _ _ _) (st := []) (fun o ho => j_callV (As := [.inr (.inl (some a7)), .inr (.inl v10), .inl x4]) (st := []) (b := a0) C 29 rfl mf_Hb_byteOf ml_X11_118 rfl (recv_K C (by decide) (by decide) rfl hk11) (by decide) (by decide) (Nat.le_refl _) rfl (cHb_byteOf (CX_tr C) σ M5 n6 a0 (some a7) v10 x4 o ho)) (fun v12 M13 => ?_)
    exact s_iret C 30 rfl rfl
  refine s_blk C 12 5 [4] (pc' := 31) (lv' := [(4, .inl x4)]) (st' := [.inl x3, .inl x2, .inr (.inl r5), .inr (.inl r5), .inr (.inl (some a0))]) rfl ?_
  refine s_CR C htab (st := [.inr (.inl r5), .inr (.inl (some a0))]) (fun o ho => j_callS (As := [.inr (.inl r5), .inl x2, .inl x3]) (st := [.inr (.inl r5), .inr (.inl (some a0))]) C 17 rfl mf_Hb_versionOf ml_X11_91 rfl (by decide) (by decide) (Nat.le_refl _) rfl (cHb_versionOf (CX_tr C) σ M2 n3 r5 x2 x3 o ho)) (fun v14 M15 n16 _ => ?_)
  refine s_blk C 18 1 [] (pc' := 36) (lv' := []) (st' := [.inl x4, .inr (.inl v14), .inr (.inl r5), .inr (.inl (some a0))]) rfl ?_
  refine s_rks (fun hk17 => ?_)
  refine s_WI (CE_EM _ _ _ _ _ _) (st := []) (fun o ho => j_callV (As := [.inr (.inl r5), .inr (.inl v14), .inl x4]) (st := []) (b := a0) C 19 rfl mf_Hb_byteOf ml_X11_118 rfl (recv_K C (by decide) (by decide) rfl hk17) (by decide) (by decide) (Nat.le_refl _) rfl (cHb_byteOf (CX_tr C) σ M15 n16 a0 r5 v14 x4 o ho)) (fun v18 M19 => ?_)
  exact s_iret C 20 rfl rfl
def fHb_read (a0 : Nat) (x1 : Int32) (x2 : Int32) (x3 : Int32) (x4 : Int32) (M : Mm) (n : Nat) : Option ((Int32 ⊕ Nat) × Mm × Nat) :=
  rk 11 (some a0) M fun _ =>
  bdC (fHb_regionOf a0 x1 M n) n fun v2 M3 n4 =>
  if x4 < 0 then
    fHb_read_j17 a0 x2 x3 x4 v2 0 M3 n4
  else
    fHb_read_j17 a0 x2 x3 x4 v2 1 M3 n4
theorem wHb_read {X : MC} {G : GE} {n0 : Nat} (C : CX X G RX11 cX11_read pHb_read 6 (some .int) n0) (htab : ∀ z ∈ X.2.2.2.2.2.2.2.2.exceptionTable.toList, False) {σ : Sg} (a0 : Nat) (x1 : Int32) (x2 : Int32) (x3 : Int32) (x4 : Int32) (M : Mm) (n : Nat) : JS X G 6 300 0 n0 (EM X G n0 9 300 (eC rvI σ)) (fHb_read a0 x1 x2 x3 x4 M n) (σ, M, n) 0 [(0, .inr (.inl (some a0))), (1, .inl x1), (2, .inl x2), (3, .inl x3), (4, .inl x4)] [] := by
  unfold fHb_read
  refine s_blk C 0 2 [0, 2, 3, 4] (pc' := 2) (lv' := [(0, .inr (.inl (some a0))), (2, .inl x2), (3, .inl x3), (4, .inl x4)]) (st' := [.inl x1, .inr (.inl (some a0))]) rfl ?_
  refine s_rks (fun hk1 => ?_)
  refine s_CR C htab (st := []) (fun o ho => j_callV (As := [.inl x1]) (st := []) (b := a0) C 2 rfl mf_Hb_regionOf ml_X11_65 rfl (recv_K C (by decide) (by decide) rfl hk1) (by decide) (by decide) (Nat.le_refl _) rfl (cHb_regionOf (CX_tr C) σ M n a0 x1 o ho)) (fun v2 M3 n4 _ => ?_)
  refine s_blk C 3 2 [0, 2, 3, 4, 5] (pc' := 9) (lv' := [(0, .inr (.inl (some a0))), (2, .inl x2), (3, .inl x3), (4, .inl x4), (5, .inr (.inl v2))]) (st' := [.inl x4]) rfl ?_
  refine s_ilt C 5 rfl (fun _ => ?_) (fun _ => ?_)
  · refine s_blk C 8 1 [0, 2, 3, 4, 5] (pc' := 17) (lv' := [(0, .inr (.inl (some a0))), (2, .inl x2), (3, .inl x3), (4, .inl x4), (5, .inr (.inl v2))]) (st' := [.inl 0]) rfl ?_
    exact wHb_read_j17 C htab a0 _ _ _ _ _ _ _
  refine s_blk C 6 2 [0, 2, 3, 4, 5] (pc' := 17) (lv' := [(0, .inr (.inl (some a0))), (2, .inl x2), (3, .inl x3), (4, .inl x4), (5, .inr (.inl v2))]) (st' := [.inl 1]) rfl ?_
  exact wHb_read_j17 C htab a0 _ _ _ _ _ _ _
theorem cHb_read {l : Launch} {G : GE} (htr : l.stackTraces = false) (σ : Sg) (M : Mm) (n : Nat) (a0 : Nat) (x1 : Int32) (x2 : Int32) (x3 : Int32) (x4 : Int32) : ∀ o, fHb_read a0 x1 x2 x3 x4 M n = some o → MetX l G yX11_read cX11_read 6 (some .int) 9 300 [.inr (.inl (some a0)), .inl x1, .inl x2, .inl x3, .inl x4] (σ, M, n) ((eC rvI σ) o) :=
  c_ofX (by decide) kHb_read htr rfl rfl fun X _ _ C htab => wHb_read C htab a0 x1 x2 x3 x4 _ _
def pPart_spoil : List BR := [(0, .iload_n 1, 1, 0, 1), (1, .ifCond .lt (43), 3, 0, 44), (4, .iload_n 1, 1, 0, 5), (5, .iconst 5, 1, 5, 6), (6, .if_icmp .ge (38), 3, 0, 44), (9, .aload_n 0, 1, 0, 10), (10, .getfield 22, 3, 0, 13), (13, .iload_n 1, 1, 0, 14), (14, .iconst 1, 1, 1, 15), (15, .bastore, 1, 0, 16), (16, .iconst 0, 1, 0, 17), (17, .istore_n 2, 1, 0, 18), (18, .iload_n 2, 1, 0, 19), (19, .iconst 2, 1, 2, 20), (20, .if_icmp .ge (24), 3, 0, 44), (23, .aload_n 0, 1, 0, 24), (24, .iload_n 1, 1, 0, 25), (25, .iload_n 2, 1, 0, 26), (26, .bipush 15, 2, 15, 28), (28, .aload_n 0, 1, 0, 29), (29, .iload_n 1, 1, 0, 30), (30, .iload_n 2, 1, 0, 31), (31, .invokevirtual 66, 3, 0, 34), (34, .isub, 1, 0, 35), (35, .invokevirtual 62, 3, 0, 38), (38, .iinc 2 (1), 3, 1, 41), (41, .goto (-23), 3, 0, 18), (44, .return_, 1, 0, 45)]
theorem kPart_spoil : bOK cX5_spoil 3 pPart_spoil = true := by decide +kernel
def fPart_spoil_b18 (a0 : Nat) (k18 : Int32 → Int32 → Mm → Option (Unit × Mm)) (x1 : Int32) (x2 : Int32) (M : Mm) : Option (Unit × Mm) :=
  if 2 ≤ x2 then
    some ((), M)
  else
    rk 5 (some a0) M fun _ =>
    bdR (fPart_shardByte a0 x1 x2 M) fun v2 =>
    rk 5 (some a0) M fun _ =>
    bdW (fPart_setShardByte a0 x1 x2 (15 - v2) M) fun v4 M5 =>
    k18 x1 (x2 + 1) M5
theorem wPart_spoil_b18 {X : MC} {G : GE} {n0 : Nat} (C : CX X G RX5 cX5_spoil pPart_spoil 3 none n0) (htab : ∀ z ∈ X.2.2.2.2.2.2.2.2.exceptionTable.toList, False) {σ : Sg} {n : Nat} (a0 : Nat) (k18 : Int32 → Int32 → Mm → Option (Unit × Mm)) (H18 : ∀ (x1 : Int32) (x2 : Int32) (M : Mm), JS X G 3 300 0 n0 (EM X G n0 3 300 (eW rvU σ n)) (k18 x1 x2 M) (σ, M, n) 18 [(0, .inr (.inl (some a0))), (1, .inl x1), (2, .inl x2)] []) (x1 : Int32) (x2 : Int32) (M : Mm) : JS X G 3 300 0 n0 (EM X G n0 3 300 (eW rvU σ n)) (fPart_spoil_b18 a0 k18 x1 x2 M) (σ, M, n) 18 [(0, .inr (.inl (some a0))), (1, .inl x1), (2, .inl x2)] [] := by
  unfold fPart_spoil_b18
  refine s_blk C 12 2 [0, 1, 2] (pc' := 20) (lv' := [(0, .inr (.inl (some a0))), (1, .inl x1), (2, .inl x2)]) (st' := [.inl 2, .inl x2]) rfl ?_
  refine s_icge C 14 rfl (fun _ => ?_) (fun _ => ?_)
  · exact s_vret C 27 rfl rfl
  refine s_blk C 15 7 [0, 1, 2] (pc' := 31) (lv' := [(0, .inr (.inl (some a0))), (1, .inl x1), (2, .inl x2)]) (st' := [.inl x2, .inl x1, .inr (.inl (some a0)), .inl 15, .inl x2, .inl x1, .inr (.inl (some a0))]) rfl ?_
  refine s_rks (fun hk1 => ?_)
  refine s_RI (CE_EM _ _ _ _ _ _) (st := [.inl 15, .inl x2, .inl x1, .inr (.inl (some a0))]) (fun o ho => j_callV (As := [.inl x1, .inl x2]) (st := [.inl 15, .inl x2, .inl x1, .inr (.inl (some a0))]) (b := a0) C 22 rfl mf_Part_shardByte ml_X5_66 rfl (recv_K C (by decide) (by decide) rfl hk1) (by decide) (by decide) (Nat.le_refl _) rfl (cPart_shardByte (CX_tr C) σ M n a0 x1 x2 o ho)) (fun v2 => ?_)
  refine s_blk C 23 1 [0, 1, 2] (pc' := 35) (lv' := [(0, .inr (.inl (some a0))), (1, .inl x1), (2, .inl x2)]) (st' := [.inl (15 - v2), .inl x2, .inl x1, .inr (.inl (some a0))]) rfl ?_
  refine s_rks (fun hk3 => ?_)
  refine s_WU (CE_EM _ _ _ _ _ _) (st := []) (fun o ho => j_callV (As := [.inl x1, .inl x2, .inl (15 - v2)]) (st := []) (b := a0) C 24 rfl mf_Part_setShardByte ml_X5_62 rfl (recv_K C (by decide) (by decide) rfl hk3) (by decide) (by decide) (Nat.le_refl _) rfl (cPart_setShardByte (CX_tr C) σ M n a0 x1 x2 (15 - v2) o ho)) (fun v4 M5 => ?_)
  refine s_blk C 25 2 [0, 1, 2] (pc' := 18) (lv' := [(0, .inr (.inl (some a0))), (1, .inl x1), (2, .inl (x2 + 1))]) (st' := []) rfl ?_
  exact H18 _ _ _
def fPart_spoil_l18 (a0 : Nat) (fu : Nat) : Int32 → Int32 → Mm → Option (Unit × Mm) := Nat.rec (fun x1 x2 M => none) (fun _ k => fPart_spoil_b18 a0 k) fu
theorem wPart_spoil_l18 {X : MC} {G : GE} {n0 : Nat} (C : CX X G RX5 cX5_spoil pPart_spoil 3 none n0) (htab : ∀ z ∈ X.2.2.2.2.2.2.2.2.exceptionTable.toList, False) {σ : Sg} {n : Nat} (a0 : Nat) : ∀ (fu : Nat) (x1 : Int32) (x2 : Int32) (M : Mm), JS X G 3 300 0 n0 (EM X G n0 3 300 (eW rvU σ n)) (fPart_spoil_l18 a0 fu x1 x2 M) (σ, M, n) 18 [(0, .inr (.inl (some a0))), (1, .inl x1), (2, .inl x2)] [] := by
  intro fu
  induction fu with
  | zero => intro x1 x2 M; exact s_none
  | succ fu ih => intro x1 x2 M; exact wPart_spoil_b18 C htab a0 (fPart_spoil_l18 a0 fu) ih _ _ _
def fPart_spoil (a0 : Nat) (x1 : Int32) (M : Mm) : Option (Unit × Mm) :=
  if x1 < 0 then
    some ((), M)
  else
    if 5 ≤ x1 then
      some ((), M)
    else
      fgR 5 505 (some a0) M fun v1 =>
      asZ v1 x1 1 M fun M2 =>
      fPart_spoil_l18 a0 FU x1 0 M2
theorem wPart_spoil {X : MC} {G : GE} {n0 : Nat} (C : CX X G RX5 cX5_spoil pPart_spoil 3 none n0) (htab : ∀ z ∈ X.2.2.2.2.2.2.2.2.exceptionTable.toList, False) {σ : Sg} {n : Nat} (a0 : Nat) (x1 : Int32) (M : Mm) : JS X G 3 300 0 n0 (EM X G n0 3 300 (eW rvU σ n)) (fPart_spoil a0 x1 M) (σ, M, n) 0 [(0, .inr (.inl (some a0))), (1, .inl x1)] [] := by
  unfold fPart_spoil
  refine s_blk C 0 1 [0, 1] (pc' := 1) (lv' := [(0, .inr (.inl (some a0))), (1, .inl x1)]) (st' := [.inl x1]) rfl ?_
  refine s_ilt C 1 rfl (fun _ => ?_) (fun _ => ?_)
  · exact s_vret C 27 rfl rfl
  refine s_blk C 2 2 [0, 1] (pc' := 6) (lv' := [(0, .inr (.inl (some a0))), (1, .inl x1)]) (st' := [.inl 5, .inl x1]) rfl ?_
  refine s_icge C 4 rfl (fun _ => ?_) (fun _ => ?_)
  · exact s_vret C 27 rfl rfl
  refine s_blk C 5 1 [0, 1] (pc' := 10) (lv' := [(0, .inr (.inl (some a0))), (1, .inl x1)]) (st' := [.inr (.inl (some a0))]) rfl ?_
  refine s_gR C 6 rfl fl_X5_22 rfl rfl (fun v1 => ?_)
  refine s_blk C 7 2 [0, 1] (pc' := 15) (lv' := [(0, .inr (.inl (some a0))), (1, .inl x1)]) (st' := [.inl 1, .inl x1, .inr (.inl v1)]) rfl ?_
  refine s_stZ C 9 rfl (fun M2 _ => ?_)
  refine s_blk C 10 2 [0, 1, 2] (pc' := 18) (lv' := [(0, .inr (.inl (some a0))), (1, .inl x1), (2, .inl 0)]) (st' := []) rfl ?_
  exact wPart_spoil_l18 C htab a0 FU _ _ _
theorem cPart_spoil {l : Launch} {G : GE} (htr : l.stackTraces = false) (σ : Sg) (M : Mm) (n : Nat) (a0 : Nat) (x1 : Int32) : ∀ o, fPart_spoil a0 x1 M = some o → MetX l G yX5_spoil cX5_spoil 3 none 3 300 [.inr (.inl (some a0)), .inl x1] (σ, M, n) ((eW rvU σ n) o) :=
  c_ofX (by decide) kPart_spoil htr rfl rfl fun X _ _ C htab => wPart_spoil C htab a0 x1 _
def pHb_rot : List BR := [(0, .aload_n 0, 1, 0, 1), (1, .iload_n 1, 1, 0, 2), (2, .invokevirtual 65, 3, 0, 5), (5, .getfield 215, 3, 0, 8), (8, .iload_n 2, 1, 0, 9), (9, .invokestatic 218, 3, 0, 12), (12, .astore 4, 2, 0, 14), (14, .iload_n 3, 1, 0, 15), (15, .iconst 0, 1, 0, 16), (16, .iconst 4, 1, 4, 17), (17, .invokestatic 46, 3, 0, 20), (20, .aload 4, 2, 0, 22), (22, .iload_n 3, 1, 0, 23), (23, .invokevirtual 246, 3, 0, 26), (26, .ifCond .ne (5), 3, 0, 31), (29, .iconst 0, 1, 0, 30), (30, .ireturn, 1, 0, 31), (31, .aload 4, 2, 0, 33), (33, .iload_n 3, 1, 0, 34), (34, .invokevirtual 249, 3, 0, 37), (37, .iconst 1, 1, 1, 38), (38, .ireturn, 1, 0, 39)]
theorem kHb_rot : bOK cX11_rot 5 pHb_rot = true := by decide +kernel
def fHb_rot (a0 : Nat) (x1 : Int32) (x2 : Int32) (x3 : Int32) (M : Mm) (n : Nat) : Option ((Int32 ⊕ Nat) × Mm × Nat) :=
  rk 11 (some a0) M fun _ =>
  bdC (fHb_regionOf a0 x1 M n) n fun v2 M3 n4 =>
  fgR 6 600 v2 M3 fun v5 =>
  bdC (fHb_partOf v5 x2 M3 n4) n4 fun v6 M7 n8 =>
  bdC (fHb_checkRange x3 0 4 M7 n8) n8 fun v9 M10 n11 =>
  rk 5 v6 M10 fun a12 =>
  bdR (fPart_isGood a12 x3 M10) fun v15 =>
  if v15 = 0 then
    rZ 0 (some (.inl 0, M10, n11))
  else
    rk 5 v6 M10 fun a17 =>
    bdW (fPart_spoil a17 x3 M10) fun v18 M19 =>
    rZ 1 (some (.inl 1, M19, n11))
theorem wHb_rot {X : MC} {G : GE} {n0 : Nat} (C : CX X G RX11 cX11_rot pHb_rot 5 (some .boolean) n0) (htab : ∀ z ∈ X.2.2.2.2.2.2.2.2.exceptionTable.toList, False) {σ : Sg} (a0 : Nat) (x1 : Int32) (x2 : Int32) (x3 : Int32) (M : Mm) (n : Nat) : JS X G 5 300 0 n0 (EM X G n0 8 300 (eC rvI σ)) (fHb_rot a0 x1 x2 x3 M n) (σ, M, n) 0 [(0, .inr (.inl (some a0))), (1, .inl x1), (2, .inl x2), (3, .inl x3)] [] := by
  unfold fHb_rot
  refine s_blk C 0 2 [2, 3] (pc' := 2) (lv' := [(2, .inl x2), (3, .inl x3)]) (st' := [.inl x1, .inr (.inl (some a0))]) rfl ?_
  refine s_rks (fun hk1 => ?_)
  refine s_CR C htab (st := []) (fun o ho => j_callV (As := [.inl x1]) (st := []) (b := a0) C 2 rfl mf_Hb_regionOf ml_X11_65 rfl (recv_K C (by decide) (by decide) rfl hk1) (by decide) (by decide) (Nat.le_refl _) rfl (cHb_regionOf (CX_tr C) σ M n a0 x1 o ho)) (fun v2 M3 n4 _ => ?_)
  refine s_gR C 3 rfl fl_X11_215 rfl rfl (fun v5 => ?_)
  refine s_blk C 4 1 [3] (pc' := 9) (lv' := [(3, .inl x3)]) (st' := [.inl x2, .inr (.inl v5)]) rfl ?_
  refine s_CR C htab (st := []) (fun o ho => j_callS (As := [.inr (.inl v5), .inl x2]) (st := []) C 5 rfl mf_Hb_partOf ml_X11_218 rfl (by decide) (by decide) (Nat.le_refl _) rfl (cHb_partOf (CX_tr C) σ M3 n4 v5 x2 o ho)) (fun v6 M7 n8 _ => ?_)
  refine s_blk C 6 4 [3, 4] (pc' := 17) (lv' := [(3, .inl x3), (4, .inr (.inl v6))]) (st' := [.inl 4, .inl 0, .inl x3]) rfl ?_
  refine s_CU C htab (st := []) (fun o ho => j_callS (As := [.inl x3, .inl 0, .inl 4]) (st := []) C 10 rfl mf_Hb_checkRange ml_X11_46 rfl (by decide) (by decide) (Nat.le_refl _) rfl (cHb_checkRange (CX_tr C) σ M7 n8 x3 0 4 o ho)) (fun v9 M10 n11 _ => ?_)
  refine s_blk C 11 2 [3, 4] (pc' := 23) (lv' := [(3, .inl x3), (4, .inr (.inl v6))]) (st' := [.inl x3, .inr (.inl v6)]) rfl ?_
  refine s_rk (fun a12 ha13 hk14 => ?_)
  subst ha13
  refine s_RI (CE_EM _ _ _ _ _ _) (st := []) (fun o ho => j_callV (As := [.inl x3]) (st := []) (b := a12) C 13 rfl mf_Part_isGood ml_X11_246 rfl (recv_K C (by decide) (by decide) rfl hk14) (by decide) (by decide) (Nat.le_refl _) rfl (cPart_isGood (CX_tr C) σ M10 n11 a12 x3 o ho)) (fun v15 => ?_)
  refine s_ine C 14 rfl (fun _ => ?_) (fun _ => ?_)
  · refine s_blk C 15 1 [] (pc' := 30) (lv' := []) (st' := [.inl 0]) rfl ?_
    exact s_zret C 16 rfl rfl
  refine s_blk C 17 2 [] (pc' := 34) (lv' := []) (st' := [.inl x3, .inr (.inl (some a12))]) rfl ?_
  refine s_rks (fun hk16 => ?_)
  refine s_WU (CE_EM _ _ _ _ _ _) (st := []) (fun o ho => j_callV (As := [.inl x3]) (st := []) (b := a12) C 19 rfl mf_Part_spoil ml_X11_249 rfl (recv_K C (by decide) (by decide) rfl hk16) (by decide) (by decide) (Nat.le_refl _) rfl (cPart_spoil (CX_tr C) σ M10 n11 a12 x3 o ho)) (fun v18 M19 => ?_)
  refine s_blk C 20 1 [] (pc' := 38) (lv' := []) (st' := [.inl 1]) rfl ?_
  exact s_zret C 21 rfl rfl
theorem cHb_rot {l : Launch} {G : GE} (htr : l.stackTraces = false) (σ : Sg) (M : Mm) (n : Nat) (a0 : Nat) (x1 : Int32) (x2 : Int32) (x3 : Int32) : ∀ o, fHb_rot a0 x1 x2 x3 M n = some o → MetX l G yX11_rot cX11_rot 5 (some .boolean) 8 300 [.inr (.inl (some a0)), .inl x1, .inl x2, .inl x3] (σ, M, n) ((eC rvI σ) o) :=
  c_ofX (by decide) kHb_rot htr rfl rfl fun X _ _ C htab => wHb_rot C htab a0 x1 x2 x3 _ _
def pRule_init : List BR := [(0, .aload_n 0, 1, 0, 1), (1, .invokespecial 1, 3, 0, 4), (4, .aload_n 0, 1, 0, 5), (5, .iload_n 1, 1, 0, 6), (6, .putfield 7, 3, 0, 9), (9, .aload_n 0, 1, 0, 10), (10, .iload_n 2, 1, 0, 11), (11, .putfield 13, 3, 0, 14), (14, .aload_n 0, 1, 0, 15), (15, .iload_n 3, 1, 0, 16), (16, .putfield 16, 3, 0, 19), (19, .return_, 1, 0, 20)]
theorem kRule_init : bOK cX7_init 4 pRule_init = true := by decide +kernel
def fRule_init (a0 : Nat) (x1 : Int32) (x2 : Int32) (x3 : Int32) (M : Mm) : Option (Unit × Mm) :=
  fpI 7 700 (some a0) x1 M fun M1 =>
  fpI 7 701 (some a0) x2 M1 fun M2 =>
  fpI 7 702 (some a0) x3 M2 fun M3 =>
  some ((), M3)
theorem wRule_init {X : MC} {G : GE} {n0 : Nat} (C : CX X G RX7 cX7_init pRule_init 4 none n0) (htab : ∀ z ∈ X.2.2.2.2.2.2.2.2.exceptionTable.toList, False) (hin : X.2.2.2.2.2.2.2.1.name = "<init>") {σ : Sg} {n : Nat} (a0 : Nat) (x1 : Int32) (x2 : Int32) (x3 : Int32) (M : Mm) : JS X G 4 300 0 n0 (EM X G n0 2 300 (eW rvU σ n)) (fRule_init a0 x1 x2 x3 M) (σ, M, n) 0 [(0, .inr (.inl (some a0))), (1, .inl x1), (2, .inl x2), (3, .inl x3)] [] := by
  unfold fRule_init
  refine s_blk C 0 1 [0, 1, 2, 3] (pc' := 1) (lv' := [(0, .inr (.inl (some a0))), (1, .inl x1), (2, .inl x2), (3, .inl x3)]) (st' := [.inr (.inl (some a0))]) rfl ?_
  refine s_sup C (CE_EM _ _ _ _ _ _) 1 rfl ml_X7_1 (by decide) rfl ?_
  refine s_blk C 2 2 [0, 2, 3] (pc' := 6) (lv' := [(0, .inr (.inl (some a0))), (2, .inl x2), (3, .inl x3)]) (st' := [.inl x1, .inr (.inl (some a0))]) rfl ?_
  refine s_pI C 4 rfl fl_X7_7 fp_X7_7_0 (fun _ => hin) rfl rfl (fun M1 _ => ?_)
  refine s_blk C 5 2 [0, 3] (pc' := 11) (lv' := [(0, .inr (.inl (some a0))), (3, .inl x3)]) (st' := [.inl x2, .inr (.inl (some a0))]) rfl ?_
  refine s_pI C 7 rfl fl_X7_13 fp_X7_7_1 (fun _ => hin) rfl rfl (fun M2 _ => ?_)
  refine s_blk C 8 2 [] (pc' := 16) (lv' := []) (st' := [.inl x3, .inr (.inl (some a0))]) rfl ?_
  refine s_pI C 10 rfl fl_X7_16 fp_X7_7_2 (fun _ => hin) rfl rfl (fun M3 _ => ?_)
  exact s_vret C 11 rfl rfl
theorem cRule_init {l : Launch} {G : GE} (htr : l.stackTraces = false) (σ : Sg) (M : Mm) (n : Nat) (a0 : Nat) (x1 : Int32) (x2 : Int32) (x3 : Int32) : ∀ o, fRule_init a0 x1 x2 x3 M = some o → MetX l G yX7_init cX7_init 4 none 2 300 [.inr (.inl (some a0)), .inl x1, .inl x2, .inl x3] (σ, M, n) ((eW rvU σ n) o) :=
  c_ofX (by decide) kRule_init htr rfl rfl fun X _ hin C htab => wRule_init C htab hin a0 x1 x2 x3 _
def pHb_rule : List BR := [(0, .iload_n 1, 1, 0, 1), (1, .invokestatic 174, 3, 0, 4), (4, .iload_n 2, 1, 0, 5), (5, .iconst 0, 1, 0, 6), (6, .bipush 99, 2, 99, 8), (8, .invokestatic 46, 3, 0, 11), (11, .iload_n 3, 1, 0, 12), (12, .iconst 1, 1, 1, 13), (13, .iconst 3, 1, 3, 14), (14, .invokestatic 46, 3, 0, 17), (17, .aload_n 0, 1, 0, 18), (18, .getfield 39, 3, 0, 21), (21, .invokevirtual 136, 3, 0, 24), (24, .bipush 6, 2, 6, 26), (26, .if_icmp .ge (7), 3, 0, 33), (29, .iconst 1, 1, 1, 30), (30, .goto (4), 3, 0, 34), (33, .iconst 0, 1, 0, 34), (34, .invokestatic 54, 3, 0, 37), (37, .aload_n 0, 1, 0, 38), (38, .getfield 39, 3, 0, 41), (41, .new 258, 3, 0, 44), (44, .dup, 1, 0, 45), (45, .iload_n 1, 1, 0, 46), (46, .iload_n 2, 1, 0, 47), (47, .iload_n 3, 1, 0, 48), (48, .invokespecial 260, 3, 0, 51), (51, .invokevirtual 144, 3, 0, 54), (54, .pop, 1, 0, 55), (55, .aload_n 0, 1, 0, 56), (56, .getfield 39, 3, 0, 59), (59, .invokevirtual 136, 3, 0, 62), (62, .ireturn, 1, 0, 63)]
theorem kHb_rule : bOK cX11_rule 4 pHb_rule = true := by decide +kernel
def fHb_rule_j34 (a0 : Nat) (x1 : Int32) (x2 : Int32) (x3 : Int32) (s0 : Int32) (M : Mm) (n : Nat) : Option ((Int32 ⊕ Nat) × Mm × Nat) :=
  bdC (fHb_checkState s0 M n) n fun v1 M2 n3 =>
  fgR 11 1106 (some a0) M2 fun v4 =>
  nwO 7 M2 n3 fun y5 M6 n7 =>
  rk 7 y5 M6 fun a8 =>
  bdW (fRule_init a8 x1 x2 x3 M6) fun v11 M12 =>
  rk 12 v4 M12 fun a13 =>
  bdC (fAl_add1 a13 y5 M12 n7) n7 fun v16 M17 n18 =>
  fgR 11 1106 (some a0) M17 fun v19 =>
  rk 12 v19 M17 fun a20 =>
  bdR (fAl_size a20 M17) fun v23 =>
  some (.inl v23, M17, n18)
theorem wHb_rule_j34 {X : MC} {G : GE} {n0 : Nat} (C : CX X G RX11 cX11_rule pHb_rule 4 (some .int) n0) (htab : ∀ z ∈ X.2.2.2.2.2.2.2.2.exceptionTable.toList, False) {σ : Sg} (a0 : Nat) (x1 : Int32) (x2 : Int32) (x3 : Int32) (s0 : Int32) (M : Mm) (n : Nat) : JS X G 4 300 0 n0 (EM X G n0 8 300 (eC rvI σ)) (fHb_rule_j34 a0 x1 x2 x3 s0 M n) (σ, M, n) 34 [(0, .inr (.inl (some a0))), (1, .inl x1), (2, .inl x2), (3, .inl x3)] [.inl s0] := by
  unfold fHb_rule_j34
  refine s_CU C htab (st := []) (fun o ho => j_callS (As := [.inl s0]) (st := []) C 18 rfl mf_Hb_checkState ml_X11_54 rfl (by decide) (by decide) (Nat.le_refl _) rfl (cHb_checkState (CX_tr C) σ M n s0 o ho)) (fun v1 M2 n3 _ => ?_)
  refine s_blk C 19 1 [0, 1, 2, 3] (pc' := 38) (lv' := [(0, .inr (.inl (some a0))), (1, .inl x1), (2, .inl x2), (3, .inl x3)]) (st' := [.inr (.inl (some a0))]) rfl ?_
  refine s_gR C 20 rfl fl_X11_39 rfl rfl (fun v4 => ?_)
  refine s_new C (CE_EM _ _ _ _ _ _) 21 rfl cl_X11_258 (by decide) (fun y5 M6 n7 _ _ => ?_)
  refine s_blk C 22 4 [0] (pc' := 48) (lv' := [(0, .inr (.inl (some a0)))]) (st' := [.inl x3, .inl x2, .inl x1, .inr (.inl y5), .inr (.inl y5), .inr (.inl v4)]) rfl ?_
  refine s_rk (fun a8 ha9 hk10 => ?_)
  subst ha9
  refine s_WU (CE_EM _ _ _ _ _ _) (st := [.inr (.inl (some a8)), .inr (.inl v4)]) (fun o ho => j_callI (As := [.inl x1, .inl x2, .inl x3]) (st := [.inr (.inl (some a8)), .inr (.inl v4)]) (b := a8) C 26 rfl mf_Rule_init (Or.inl ml_X11_260) rfl (by decide) (by decide) (Nat.le_refl _) rfl (cRule_init (CX_tr C) σ M6 n7 a8 x1 x2 x3 o ho) rfl) (fun v11 M12 => ?_)
  refine s_rk (fun a13 ha14 hk15 => ?_)
  subst ha14
  refine s_CI C htab (st := []) (fun o ho => j_callV (As := [.inr (.inl (some a8))]) (st := []) (b := a13) C 27 rfl mf_Al_add1 ml_X11_144 rfl (recv_K C (by decide) (by decide) rfl hk15) (by decide) (by decide) (Nat.le_refl _) rfl (cAl_add1 (CX_tr C) σ M12 n7 a13 (some a8) o ho)) (fun v16 M17 n18 _ => ?_)
  refine s_blk C 28 2 [] (pc' := 56) (lv' := []) (st' := [.inr (.inl (some a0))]) rfl ?_
  refine s_gR C 30 rfl fl_X11_39 rfl rfl (fun v19 => ?_)
  refine s_rk (fun a20 ha21 hk22 => ?_)
  subst ha21
  refine s_RI (CE_EM _ _ _ _ _ _) (st := []) (fun o ho => j_callV (As := []) (st := []) (b := a20) C 31 rfl mf_Al_size ml_X11_136 rfl (recv_K C (by decide) (by decide) rfl hk22) (by decide) (by decide) (Nat.le_refl _) rfl (cAl_size (CX_tr C) σ M17 n18 a20 o ho)) (fun v23 => ?_)
  exact s_iret C 32 rfl rfl
def fHb_rule (a0 : Nat) (x1 : Int32) (x2 : Int32) (x3 : Int32) (M : Mm) (n : Nat) : Option ((Int32 ⊕ Nat) × Mm × Nat) :=
  bdC (fHb_checkBeginning x1 M n) n fun v1 M2 n3 =>
  bdC (fHb_checkRange x2 0 99 M2 n3) n3 fun v4 M5 n6 =>
  bdC (fHb_checkRange x3 1 3 M5 n6) n6 fun v7 M8 n9 =>
  fgR 11 1106 (some a0) M8 fun v10 =>
  rk 12 v10 M8 fun a11 =>
  bdR (fAl_size a11 M8) fun v14 =>
  if 6 ≤ v14 then
    fHb_rule_j34 a0 x1 x2 x3 0 M8 n9
  else
    fHb_rule_j34 a0 x1 x2 x3 1 M8 n9
theorem wHb_rule {X : MC} {G : GE} {n0 : Nat} (C : CX X G RX11 cX11_rule pHb_rule 4 (some .int) n0) (htab : ∀ z ∈ X.2.2.2.2.2.2.2.2.exceptionTable.toList, False) {σ : Sg} (a0 : Nat) (x1 : Int32) (x2 : Int32) (x3 : Int32) (M : Mm) (n : Nat) : JS X G 4 300 0 n0 (EM X G n0 8 300 (eC rvI σ)) (fHb_rule a0 x1 x2 x3 M n) (σ, M, n) 0 [(0, .inr (.inl (some a0))), (1, .inl x1), (2, .inl x2), (3, .inl x3)] [] := by
  unfold fHb_rule
  refine s_blk C 0 1 [0, 1, 2, 3] (pc' := 1) (lv' := [(0, .inr (.inl (some a0))), (1, .inl x1), (2, .inl x2), (3, .inl x3)]) (st' := [.inl x1]) rfl ?_
  refine s_CU C htab (st := []) (fun o ho => j_callS (As := [.inl x1]) (st := []) C 1 rfl mf_Hb_checkBeginning ml_X11_174 rfl (by decide) (by decide) (Nat.le_refl _) rfl (cHb_checkBeginning (CX_tr C) σ M n x1 o ho)) (fun v1 M2 n3 _ => ?_)
  refine s_blk C 2 3 [0, 1, 2, 3] (pc' := 8) (lv' := [(0, .inr (.inl (some a0))), (1, .inl x1), (2, .inl x2), (3, .inl x3)]) (st' := [.inl 99, .inl 0, .inl x2]) rfl ?_
  refine s_CU C htab (st := []) (fun o ho => j_callS (As := [.inl x2, .inl 0, .inl 99]) (st := []) C 5 rfl mf_Hb_checkRange ml_X11_46 rfl (by decide) (by decide) (Nat.le_refl _) rfl (cHb_checkRange (CX_tr C) σ M2 n3 x2 0 99 o ho)) (fun v4 M5 n6 _ => ?_)
  refine s_blk C 6 3 [0, 1, 2, 3] (pc' := 14) (lv' := [(0, .inr (.inl (some a0))), (1, .inl x1), (2, .inl x2), (3, .inl x3)]) (st' := [.inl 3, .inl 1, .inl x3]) rfl ?_
  refine s_CU C htab (st := []) (fun o ho => j_callS (As := [.inl x3, .inl 1, .inl 3]) (st := []) C 9 rfl mf_Hb_checkRange ml_X11_46 rfl (by decide) (by decide) (Nat.le_refl _) rfl (cHb_checkRange (CX_tr C) σ M5 n6 x3 1 3 o ho)) (fun v7 M8 n9 _ => ?_)
  refine s_blk C 10 1 [0, 1, 2, 3] (pc' := 18) (lv' := [(0, .inr (.inl (some a0))), (1, .inl x1), (2, .inl x2), (3, .inl x3)]) (st' := [.inr (.inl (some a0))]) rfl ?_
  refine s_gR C 11 rfl fl_X11_39 rfl rfl (fun v10 => ?_)
  refine s_rk (fun a11 ha12 hk13 => ?_)
  subst ha12
  refine s_RI (CE_EM _ _ _ _ _ _) (st := []) (fun o ho => j_callV (As := []) (st := []) (b := a11) C 12 rfl mf_Al_size ml_X11_136 rfl (recv_K C (by decide) (by decide) rfl hk13) (by decide) (by decide) (Nat.le_refl _) rfl (cAl_size (CX_tr C) σ M8 n9 a11 o ho)) (fun v14 => ?_)
  refine s_blk C 13 1 [0, 1, 2, 3] (pc' := 26) (lv' := [(0, .inr (.inl (some a0))), (1, .inl x1), (2, .inl x2), (3, .inl x3)]) (st' := [.inl 6, .inl v14]) rfl ?_
  refine s_icge C 14 rfl (fun _ => ?_) (fun _ => ?_)
  · refine s_blk C 17 1 [0, 1, 2, 3] (pc' := 34) (lv' := [(0, .inr (.inl (some a0))), (1, .inl x1), (2, .inl x2), (3, .inl x3)]) (st' := [.inl 0]) rfl ?_
    exact wHb_rule_j34 C htab a0 _ _ _ _ _ _
  refine s_blk C 15 2 [0, 1, 2, 3] (pc' := 34) (lv' := [(0, .inr (.inl (some a0))), (1, .inl x1), (2, .inl x2), (3, .inl x3)]) (st' := [.inl 1]) rfl ?_
  exact wHb_rule_j34 C htab a0 _ _ _ _ _ _
theorem cHb_rule {l : Launch} {G : GE} (htr : l.stackTraces = false) (σ : Sg) (M : Mm) (n : Nat) (a0 : Nat) (x1 : Int32) (x2 : Int32) (x3 : Int32) : ∀ o, fHb_rule a0 x1 x2 x3 M n = some o → MetX l G yX11_rule cX11_rule 4 (some .int) 8 300 [.inr (.inl (some a0)), .inl x1, .inl x2, .inl x3] (σ, M, n) ((eC rvI σ) o) :=
  c_ofX (by decide) kHb_rule htr rfl rfl fun X _ _ C htab => wHb_rule C htab a0 x1 x2 x3 _ _

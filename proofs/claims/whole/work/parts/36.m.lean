def pHb_list_0 : List BR := [(0, .aload_n 0, 1, 0, 1), (1, .iload_n 1, 1, 0, 2), (2, .invokevirtual 65, 3, 0, 5), (5, .astore 5, 2, 0, 7), (7, .iload 4, 2, 0, 9), (9, .ifCond .lt (7), 3, 0, 16), (12, .iconst 1, 1, 1, 13), (13, .goto (4), 3, 0, 17), (16, .iconst 0, 1, 0, 17), (17, .invokestatic 115, 3, 0, 20), (20, .iload_n 2, 1, 0, 21), (21, .invokestatic 174, 3, 0, 24), (24, .iload_n 3, 1, 0, 25), (25, .invokestatic 174, 3, 0, 28), (28, .iload 4, 2, 0, 30), (30, .istore 6, 2, 0, 32), (32, .iload_n 3, 1, 0, 33), (33, .invokestatic 177, 3, 0, 36), (36, .istore 7, 2, 0, 38), (38, .iload 7, 2, 0, 40), (40, .bipush 124, 2, 124, 42), (42, .if_icmp .gt (57), 3, 0, 99), (45, .iload 7, 2, 0, 47), (47, .invokestatic 182, 3, 0, 50), (50, .istore 8, 2, 0, 52), (52, .iload 8, 2, 0, 54), (54, .invokestatic 185, 3, 0, 57), (57, .ifCond .eq (36), 3, 0, 93), (60, .iload 8, 2, 0, 62), (62, .iload_n 2, 1, 0, 63), (63, .invokestatic 188, 3, 0, 66), (66, .ifCond .eq (27), 3, 0, 93), (69, .aload 5, 2, 0, 71), (71, .iload 8, 2, 0, 73), (73, .invokevirtual 75, 3, 0, 76), (76, .invokestatic 87, 3, 0, 79), (79, .ifCond .eq (14), 3, 0, 93), (82, .iload 6, 2, 0, 84), (84, .ifCond .ne (6), 3, 0, 90), (87, .iload 8, 2, 0, 89)]
theorem kHb_list_0 : bOK cX11_list 9 pHb_list_0 = true := by decide +kernel
def pHb_list_1 : List BR := [(89, .ireturn, 1, 0, 90), (90, .iinc 6 (-1), 3, -1, 93), (93, .iinc 7 (1), 3, 1, 96), (96, .goto (-58), 3, 0, 38), (99, .iconst 0, 1, 0, 100), (100, .ireturn, 1, 0, 101)]
theorem kHb_list_1 : bOK cX11_list 9 pHb_list_1 = true := by decide +kernel
def pHb_list : List BR := (pHb_list_0 ++ pHb_list_1)
theorem kHb_list : bOK cX11_list 9 pHb_list = true := (bOK_app kHb_list_0 kHb_list_1)
def fHb_list_j93 (a0 : Nat) (k38 : Int32 → Option Nat → Int32 → Int32 → Mm → Nat → Option ((Int32 ⊕ Nat) × Mm × Nat)) (x2 : Int32) (r5 : Option Nat) (x6 : Int32) (x7 : Int32) (M : Mm) (n : Nat) : Option ((Int32 ⊕ Nat) × Mm × Nat) :=
  k38 x2 r5 x6 (x7 + 1) M n
theorem wHb_list_j93 {X : MC} {G : GE} {n0 : Nat} (C : CX X G RX11 cX11_list pHb_list 9 (some .int) n0) (htab : ∀ z ∈ X.2.2.2.2.2.2.2.2.exceptionTable.toList, False) {σ : Sg} (a0 : Nat) (k38 : Int32 → Option Nat → Int32 → Int32 → Mm → Nat → Option ((Int32 ⊕ Nat) × Mm × Nat)) (H38 : ∀ (x2 : Int32) (r5 : Option Nat) (x6 : Int32) (x7 : Int32) (M : Mm) (n : Nat), JS X G 9 300 0 n0 (EM X G n0 8 300 (eC rvI σ)) (k38 x2 r5 x6 x7 M n) (σ, M, n) 38 [(2, .inl x2), (5, .inr (.inl r5)), (6, .inl x6), (7, .inl x7)] []) (x2 : Int32) (r5 : Option Nat) (x6 : Int32) (x7 : Int32) (M : Mm) (n : Nat) : JS X G 9 300 0 n0 (EM X G n0 8 300 (eC rvI σ)) (fHb_list_j93 a0 k38 x2 r5 x6 x7 M n) (σ, M, n) 93 [(2, .inl x2), (5, .inr (.inl r5)), (6, .inl x6), (7, .inl x7)] [] := by
  unfold fHb_list_j93
  refine s_blk C 42 2 [2, 5, 6, 7] (pc' := 38) (lv' := [(2, .inl x2), (5, .inr (.inl r5)), (6, .inl x6), (7, .inl (x7 + 1))]) (st' := []) rfl ?_
  exact H38 _ _ _ _ _ _
def fHb_list_b38 (a0 : Nat) (k38 : Int32 → Option Nat → Int32 → Int32 → Mm → Nat → Option ((Int32 ⊕ Nat) × Mm × Nat)) (x2 : Int32) (r5 : Option Nat) (x6 : Int32) (x7 : Int32) (M : Mm) (n : Nat) : Option ((Int32 ⊕ Nat) × Mm × Nat) :=
  if 124 < x7 then
    some (.inl 0, M, n)
  else
    bdR (fKeys_ofWord x7) fun v1 =>
    bdR (fKeys_isKey v1) fun v2 =>
    if v2 = 0 then
      fHb_list_j93 a0 k38 x2 r5 x6 x7 M n
    else
      bdR (fKeys_begins v1 x2) fun v3 =>
      if v3 = 0 then
        fHb_list_j93 a0 k38 x2 r5 x6 x7 M n
      else
        rk 6 r5 M fun a4 =>
        bdR (fRegion_latest a4 v1 M) fun v7 =>
        bdR (fHb_isObject v7 M) fun v8 =>
        if v8 = 0 then
          fHb_list_j93 a0 k38 x2 r5 x6 x7 M n
        else
          if x6 = 0 then
            some (.inl v1, M, n)
          else
            fHb_list_j93 a0 k38 x2 r5 (x6 + (-1)) x7 M n
theorem wHb_list_b38 {X : MC} {G : GE} {n0 : Nat} (C : CX X G RX11 cX11_list pHb_list 9 (some .int) n0) (htab : ∀ z ∈ X.2.2.2.2.2.2.2.2.exceptionTable.toList, False) {σ : Sg} (a0 : Nat) (k38 : Int32 → Option Nat → Int32 → Int32 → Mm → Nat → Option ((Int32 ⊕ Nat) × Mm × Nat)) (H38 : ∀ (x2 : Int32) (r5 : Option Nat) (x6 : Int32) (x7 : Int32) (M : Mm) (n : Nat), JS X G 9 300 0 n0 (EM X G n0 8 300 (eC rvI σ)) (k38 x2 r5 x6 x7 M n) (σ, M, n) 38 [(2, .inl x2), (5, .inr (.inl r5)), (6, .inl x6), (7, .inl x7)] []) (x2 : Int32) (r5 : Option Nat) (x6 : Int32) (x7 : Int32) (M : Mm) (n : Nat) : JS X G 9 300 0 n0 (EM X G n0 8 300 (eC rvI σ)) (fHb_list_b38 a0 k38 x2 r5 x6 x7 M n) (σ, M, n) 38 [(2, .inl x2), (5, .inr (.inl r5)), (6, .inl x6), (7, .inl x7)] [] := by
  unfold fHb_list_b38
  refine s_blk C 19 2 [2, 5, 6, 7] (pc' := 42) (lv' := [(2, .inl x2), (5, .inr (.inl r5)), (6, .inl x6), (7, .inl x7)]) (st' := [.inl 124, .inl x7]) rfl ?_
  refine s_icgt C 21 rfl (fun _ => ?_) (fun _ => ?_)
  · refine s_blk C 44 1 [] (pc' := 100) (lv' := []) (st' := [.inl 0]) rfl ?_
    exact s_iret C 45 rfl rfl
  refine s_blk C 22 1 [2, 5, 6, 7] (pc' := 47) (lv' := [(2, .inl x2), (5, .inr (.inl r5)), (6, .inl x6), (7, .inl x7)]) (st' := [.inl x7]) rfl ?_
  refine s_RI (CE_EM _ _ _ _ _ _) (st := []) (fun o ho => j_callS (As := [.inl x7]) (st := []) C 23 rfl mf_Keys_ofWord ml_X11_182 rfl (by decide) (by decide) (Nat.le_refl _) rfl (cKeys_ofWord (CX_tr C) σ M n x7 o ho)) (fun v1 => ?_)
  refine s_blk C 24 2 [2, 5, 6, 7, 8] (pc' := 54) (lv' := [(2, .inl x2), (5, .inr (.inl r5)), (6, .inl x6), (7, .inl x7), (8, .inl v1)]) (st' := [.inl v1]) rfl ?_
  refine s_RI (CE_EM _ _ _ _ _ _) (st := []) (fun o ho => j_callS (As := [.inl v1]) (st := []) C 26 rfl mf_Keys_isKey ml_X11_185 rfl (by decide) (by decide) (Nat.le_refl _) rfl (cKeys_isKey (CX_tr C) σ M n v1 o ho)) (fun v2 => ?_)
  refine s_ieq C 27 rfl (fun _ => ?_) (fun _ => ?_)
  · refine s_blk C 0 0 [2, 5, 6, 7] (pc' := 93) (lv' := [(2, .inl x2), (5, .inr (.inl r5)), (6, .inl x6), (7, .inl x7)]) (st' := []) rfl ?_
    exact wHb_list_j93 C htab a0 k38 H38 _ _ _ _ _ _
  refine s_blk C 28 2 [2, 5, 6, 7, 8] (pc' := 63) (lv' := [(2, .inl x2), (5, .inr (.inl r5)), (6, .inl x6), (7, .inl x7), (8, .inl v1)]) (st' := [.inl x2, .inl v1]) rfl ?_
  refine s_RI (CE_EM _ _ _ _ _ _) (st := []) (fun o ho => j_callS (As := [.inl v1, .inl x2]) (st := []) C 30 rfl mf_Keys_begins ml_X11_188 rfl (by decide) (by decide) (Nat.le_refl _) rfl (cKeys_begins (CX_tr C) σ M n v1 x2 o ho)) (fun v3 => ?_)
  refine s_ieq C 31 rfl (fun _ => ?_) (fun _ => ?_)
  · refine s_blk C 0 0 [2, 5, 6, 7] (pc' := 93) (lv' := [(2, .inl x2), (5, .inr (.inl r5)), (6, .inl x6), (7, .inl x7)]) (st' := []) rfl ?_
    exact wHb_list_j93 C htab a0 k38 H38 _ _ _ _ _ _
  refine s_blk C 32 2 [2, 5, 6, 7, 8] (pc' := 73) (lv' := [(2, .inl x2), (5, .inr (.inl r5)), (6, .inl x6), (7, .inl x7), (8, .inl v1)]) (st' := [.inl v1, .inr (.inl r5)]) rfl ?_
  refine s_rk (fun a4 ha5 hk6 => ?_)
  subst ha5
  refine s_RR (CE_EM _ _ _ _ _ _) (st := []) (fun o ho => j_callV (As := [.inl v1]) (st := []) (b := a4) C 34 rfl mf_Region_latest ml_X11_75 rfl (recv_K C (by decide) (by decide) rfl hk6) (by decide) (by decide) (Nat.le_refl _) rfl (cRegion_latest (CX_tr C) σ M n a4 v1 o ho)) (fun v7 => ?_)
  refine s_RI (CE_EM _ _ _ _ _ _) (st := []) (fun o ho => j_callS (As := [.inr (.inl v7)]) (st := []) C 35 rfl mf_Hb_isObject ml_X11_87 rfl (by decide) (by decide) (Nat.le_refl _) rfl (cHb_isObject (CX_tr C) σ M n v7 o ho)) (fun v8 => ?_)
  refine s_ieq C 36 rfl (fun _ => ?_) (fun _ => ?_)
  · refine s_blk C 0 0 [2, 5, 6, 7] (pc' := 93) (lv' := [(2, .inl x2), (5, .inr (.inl (some a4))), (6, .inl x6), (7, .inl x7)]) (st' := []) rfl ?_
    exact wHb_list_j93 C htab a0 k38 H38 _ _ _ _ _ _
  refine s_blk C 37 1 [2, 5, 6, 7, 8] (pc' := 84) (lv' := [(2, .inl x2), (5, .inr (.inl (some a4))), (6, .inl x6), (7, .inl x7), (8, .inl v1)]) (st' := [.inl x6]) rfl ?_
  refine s_ine C 38 rfl (fun _ => ?_) (fun _ => ?_)
  · refine s_blk C 39 1 [] (pc' := 89) (lv' := []) (st' := [.inl v1]) rfl ?_
    exact s_iret C 40 rfl rfl
  refine s_blk C 41 1 [2, 5, 6, 7] (pc' := 93) (lv' := [(2, .inl x2), (5, .inr (.inl (some a4))), (6, .inl (x6 + (-1))), (7, .inl x7)]) (st' := []) rfl ?_
  exact wHb_list_j93 C htab a0 k38 H38 _ _ _ _ _ _
def fHb_list_l38 (a0 : Nat) (fu : Nat) : Int32 → Option Nat → Int32 → Int32 → Mm → Nat → Option ((Int32 ⊕ Nat) × Mm × Nat) := Nat.rec (fun x2 r5 x6 x7 M n => none) (fun _ k => fHb_list_b38 a0 k) fu
theorem wHb_list_l38 {X : MC} {G : GE} {n0 : Nat} (C : CX X G RX11 cX11_list pHb_list 9 (some .int) n0) (htab : ∀ z ∈ X.2.2.2.2.2.2.2.2.exceptionTable.toList, False) {σ : Sg} (a0 : Nat) : ∀ (fu : Nat) (x2 : Int32) (r5 : Option Nat) (x6 : Int32) (x7 : Int32) (M : Mm) (n : Nat), JS X G 9 300 0 n0 (EM X G n0 8 300 (eC rvI σ)) (fHb_list_l38 a0 fu x2 r5 x6 x7 M n) (σ, M, n) 38 [(2, .inl x2), (5, .inr (.inl r5)), (6, .inl x6), (7, .inl x7)] [] := by
  intro fu
  induction fu with
  | zero => intro x2 r5 x6 x7 M n; exact s_none
  | succ fu ih => intro x2 r5 x6 x7 M n; exact wHb_list_b38 C htab a0 (fHb_list_l38 a0 fu) ih _ _ _ _ _ _
def fHb_list_j17 (a0 : Nat) (x2 : Int32) (x3 : Int32) (x4 : Int32) (r5 : Option Nat) (s0 : Int32) (M : Mm) (n : Nat) : Option ((Int32 ⊕ Nat) × Mm × Nat) :=
  bdC (fHb_checkIndex s0 M n) n fun v1 M2 n3 =>
  bdC (fHb_checkBeginning x2 M2 n3) n3 fun v4 M5 n6 =>
  bdC (fHb_checkBeginning x3 M5 n6) n6 fun v7 M8 n9 =>
  bdR (fKeys_wordBehind x3) fun v10 =>
  fHb_list_l38 a0 FU x2 r5 x4 v10 M8 n9
theorem wHb_list_j17 {X : MC} {G : GE} {n0 : Nat} (C : CX X G RX11 cX11_list pHb_list 9 (some .int) n0) (htab : ∀ z ∈ X.2.2.2.2.2.2.2.2.exceptionTable.toList, False) {σ : Sg} (a0 : Nat) (x2 : Int32) (x3 : Int32) (x4 : Int32) (r5 : Option Nat) (s0 : Int32) (M : Mm) (n : Nat) : JS X G 9 300 0 n0 (EM X G n0 8 300 (eC rvI σ)) (fHb_list_j17 a0 x2 x3 x4 r5 s0 M n) (σ, M, n) 17 [(2, .inl x2), (3, .inl x3), (4, .inl x4), (5, .inr (.inl r5))] [.inl s0] := by
  unfold fHb_list_j17
  refine s_CU C htab (st := []) (fun o ho => j_callS (As := [.inl s0]) (st := []) C 9 rfl mf_Hb_checkIndex ml_X11_115 rfl (by decide) (by decide) (Nat.le_refl _) rfl (cHb_checkIndex (CX_tr C) σ M n s0 o ho)) (fun v1 M2 n3 _ => ?_)
  refine s_blk C 10 1 [2, 3, 4, 5] (pc' := 21) (lv' := [(2, .inl x2), (3, .inl x3), (4, .inl x4), (5, .inr (.inl r5))]) (st' := [.inl x2]) rfl ?_
  refine s_CU C htab (st := []) (fun o ho => j_callS (As := [.inl x2]) (st := []) C 11 rfl mf_Hb_checkBeginning ml_X11_174 rfl (by decide) (by decide) (Nat.le_refl _) rfl (cHb_checkBeginning (CX_tr C) σ M2 n3 x2 o ho)) (fun v4 M5 n6 _ => ?_)
  refine s_blk C 12 1 [2, 3, 4, 5] (pc' := 25) (lv' := [(2, .inl x2), (3, .inl x3), (4, .inl x4), (5, .inr (.inl r5))]) (st' := [.inl x3]) rfl ?_
  refine s_CU C htab (st := []) (fun o ho => j_callS (As := [.inl x3]) (st := []) C 13 rfl mf_Hb_checkBeginning ml_X11_174 rfl (by decide) (by decide) (Nat.le_refl _) rfl (cHb_checkBeginning (CX_tr C) σ M5 n6 x3 o ho)) (fun v7 M8 n9 _ => ?_)
  refine s_blk C 14 3 [2, 5, 6] (pc' := 33) (lv' := [(2, .inl x2), (5, .inr (.inl r5)), (6, .inl x4)]) (st' := [.inl x3]) rfl ?_
  refine s_RI (CE_EM _ _ _ _ _ _) (st := []) (fun o ho => j_callS (As := [.inl x3]) (st := []) C 17 rfl mf_Keys_wordBehind ml_X11_177 rfl (by decide) (by decide) (Nat.le_refl _) rfl (cKeys_wordBehind (CX_tr C) σ M8 n9 x3 o ho)) (fun v10 => ?_)
  refine s_blk C 18 1 [2, 5, 6, 7] (pc' := 38) (lv' := [(2, .inl x2), (5, .inr (.inl r5)), (6, .inl x4), (7, .inl v10)]) (st' := []) rfl ?_
  exact wHb_list_l38 C htab a0 FU _ _ _ _ _ _
def fHb_list (a0 : Nat) (x1 : Int32) (x2 : Int32) (x3 : Int32) (x4 : Int32) (M : Mm) (n : Nat) : Option ((Int32 ⊕ Nat) × Mm × Nat) :=
  rk 11 (some a0) M fun _ =>
  bdC (fHb_regionOf a0 x1 M n) n fun v2 M3 n4 =>
  if x4 < 0 then
    fHb_list_j17 a0 x2 x3 x4 v2 0 M3 n4
  else
    fHb_list_j17 a0 x2 x3 x4 v2 1 M3 n4
theorem wHb_list {X : MC} {G : GE} {n0 : Nat} (C : CX X G RX11 cX11_list pHb_list 9 (some .int) n0) (htab : ∀ z ∈ X.2.2.2.2.2.2.2.2.exceptionTable.toList, False) {σ : Sg} (a0 : Nat) (x1 : Int32) (x2 : Int32) (x3 : Int32) (x4 : Int32) (M : Mm) (n : Nat) : JS X G 9 300 0 n0 (EM X G n0 8 300 (eC rvI σ)) (fHb_list a0 x1 x2 x3 x4 M n) (σ, M, n) 0 [(0, .inr (.inl (some a0))), (1, .inl x1), (2, .inl x2), (3, .inl x3), (4, .inl x4)] [] := by
  unfold fHb_list
  refine s_blk C 0 2 [2, 3, 4] (pc' := 2) (lv' := [(2, .inl x2), (3, .inl x3), (4, .inl x4)]) (st' := [.inl x1, .inr (.inl (some a0))]) rfl ?_
  refine s_rks (fun hk1 => ?_)
  refine s_CR C htab (st := []) (fun o ho => j_callV (As := [.inl x1]) (st := []) (b := a0) C 2 rfl mf_Hb_regionOf ml_X11_65 rfl (recv_K C (by decide) (by decide) rfl hk1) (by decide) (by decide) (Nat.le_refl _) rfl (cHb_regionOf (CX_tr C) σ M n a0 x1 o ho)) (fun v2 M3 n4 _ => ?_)
  refine s_blk C 3 2 [2, 3, 4, 5] (pc' := 9) (lv' := [(2, .inl x2), (3, .inl x3), (4, .inl x4), (5, .inr (.inl v2))]) (st' := [.inl x4]) rfl ?_
  refine s_ilt C 5 rfl (fun _ => ?_) (fun _ => ?_)
  · refine s_blk C 8 1 [2, 3, 4, 5] (pc' := 17) (lv' := [(2, .inl x2), (3, .inl x3), (4, .inl x4), (5, .inr (.inl v2))]) (st' := [.inl 0]) rfl ?_
    exact wHb_list_j17 C htab a0 _ _ _ _ _ _ _
  refine s_blk C 6 2 [2, 3, 4, 5] (pc' := 17) (lv' := [(2, .inl x2), (3, .inl x3), (4, .inl x4), (5, .inr (.inl v2))]) (st' := [.inl 1]) rfl ?_
  exact wHb_list_j17 C htab a0 _ _ _ _ _ _ _
theorem cHb_list {l : Launch} {G : GE} (htr : l.stackTraces = false) (σ : Sg) (M : Mm) (n : Nat) (a0 : Nat) (x1 : Int32) (x2 : Int32) (x3 : Int32) (x4 : Int32) : ∀ o, fHb_list a0 x1 x2 x3 x4 M n = some o → MetX l G yX11_list cX11_list 9 (some .int) 8 300 [.inr (.inl (some a0)), .inl x1, .inl x2, .inl x3, .inl x4] (σ, M, n) ((eC rvI σ) o) :=
  c_ofX (by decide) kHb_list htr rfl rfl fun X _ _ C htab => wHb_list C htab a0 x1 x2 x3 x4 _ _
def pHb_lock : List BR := [(0, .aload_n 0, 1, 0, 1), (1, .iload_n 1, 1, 0, 2), (2, .invokevirtual 65, 3, 0, 5), (5, .iload_n 2, 1, 0, 6), (6, .iload_n 3, 1, 0, 7), (7, .invokestatic 91, 3, 0, 10), (10, .astore 5, 2, 0, 12), (12, .iload 4, 2, 0, 14), (14, .iconst 0, 1, 0, 15), (15, .sipush 999, 3, 999, 18), (18, .invokestatic 46, 3, 0, 21), (21, .aload 5, 2, 0, 23), (23, .getfield 112, 3, 0, 26), (26, .istore 6, 2, 0, 28), (28, .iload 6, 2, 0, 30), (30, .iload 4, 2, 0, 32), (32, .if_icmp .gt (7), 3, 0, 39), (35, .iconst 1, 1, 1, 36), (36, .goto (4), 3, 0, 40), (39, .iconst 0, 1, 0, 40), (40, .invokestatic 54, 3, 0, 43), (43, .aload 5, 2, 0, 45), (45, .iload 4, 2, 0, 47), (47, .putfield 112, 3, 0, 50), (50, .iload 6, 2, 0, 52), (52, .ireturn, 1, 0, 53)]
theorem kHb_lock : bOK cX11_lock 7 pHb_lock = true := by decide +kernel
def fHb_lock_j40 (a0 : Nat) (x4 : Int32) (r5 : Option Nat) (x6 : Int32) (s0 : Int32) (M : Mm) (n : Nat) : Option ((Int32 ⊕ Nat) × Mm × Nat) :=
  bdC (fHb_checkState s0 M n) n fun v1 M2 n3 =>
  fpI 10 1003 r5 x4 M2 fun M4 =>
  some (.inl x6, M4, n3)
theorem wHb_lock_j40 {X : MC} {G : GE} {n0 : Nat} (C : CX X G RX11 cX11_lock pHb_lock 7 (some .int) n0) (htab : ∀ z ∈ X.2.2.2.2.2.2.2.2.exceptionTable.toList, False) {σ : Sg} (a0 : Nat) (x4 : Int32) (r5 : Option Nat) (x6 : Int32) (s0 : Int32) (M : Mm) (n : Nat) : JS X G 7 300 0 n0 (EM X G n0 8 300 (eC rvI σ)) (fHb_lock_j40 a0 x4 r5 x6 s0 M n) (σ, M, n) 40 [(4, .inl x4), (5, .inr (.inl r5)), (6, .inl x6)] [.inl s0] := by
  unfold fHb_lock_j40
  refine s_CU C htab (st := []) (fun o ho => j_callS (As := [.inl s0]) (st := []) C 20 rfl mf_Hb_checkState ml_X11_54 rfl (by decide) (by decide) (Nat.le_refl _) rfl (cHb_checkState (CX_tr C) σ M n s0 o ho)) (fun v1 M2 n3 _ => ?_)
  refine s_blk C 21 2 [6] (pc' := 47) (lv' := [(6, .inl x6)]) (st' := [.inl x4, .inr (.inl r5)]) rfl ?_
  refine s_pI C 23 rfl fl_X11_112 fp_X11_10_3 (fun h => Bool.noConfusion h) rfl rfl (fun M4 _ => ?_)
  refine s_blk C 24 1 [] (pc' := 52) (lv' := []) (st' := [.inl x6]) rfl ?_
  exact s_iret C 25 rfl rfl
def fHb_lock (a0 : Nat) (x1 : Int32) (x2 : Int32) (x3 : Int32) (x4 : Int32) (M : Mm) (n : Nat) : Option ((Int32 ⊕ Nat) × Mm × Nat) :=
  rk 11 (some a0) M fun _ =>
  bdC (fHb_regionOf a0 x1 M n) n fun v2 M3 n4 =>
  bdC (fHb_versionOf v2 x2 x3 M3 n4) n4 fun v5 M6 n7 =>
  bdC (fHb_checkRange x4 0 999 M6 n7) n7 fun v8 M9 n10 =>
  fgI 10 1003 v5 M9 fun v11 =>
  if x4 < v11 then
    fHb_lock_j40 a0 x4 v5 v11 0 M9 n10
  else
    fHb_lock_j40 a0 x4 v5 v11 1 M9 n10
theorem wHb_lock {X : MC} {G : GE} {n0 : Nat} (C : CX X G RX11 cX11_lock pHb_lock 7 (some .int) n0) (htab : ∀ z ∈ X.2.2.2.2.2.2.2.2.exceptionTable.toList, False) {σ : Sg} (a0 : Nat) (x1 : Int32) (x2 : Int32) (x3 : Int32) (x4 : Int32) (M : Mm) (n : Nat) : JS X G 7 300 0 n0 (EM X G n0 8 300 (eC rvI σ)) (fHb_lock a0 x1 x2 x3 x4 M n) (σ, M, n) 0 [(0, .inr (.inl (some a0))), (1, .inl x1), (2, .inl x2), (3, .inl x3), (4, .inl x4)] [] := by
  unfold fHb_lock
  refine s_blk C 0 2 [2, 3, 4] (pc' := 2) (lv' := [(2, .inl x2), (3, .inl x3), (4, .inl x4)]) (st' := [.inl x1, .inr (.inl (some a0))]) rfl ?_
  refine s_rks (fun hk1 => ?_)
  refine s_CR C htab (st := []) (fun o ho => j_callV (As := [.inl x1]) (st := []) (b := a0) C 2 rfl mf_Hb_regionOf ml_X11_65 rfl (recv_K C (by decide) (by decide) rfl hk1) (by decide) (by decide) (Nat.le_refl _) rfl (cHb_regionOf (CX_tr C) σ M n a0 x1 o ho)) (fun v2 M3 n4 _ => ?_)
  refine s_blk C 3 2 [4] (pc' := 7) (lv' := [(4, .inl x4)]) (st' := [.inl x3, .inl x2, .inr (.inl v2)]) rfl ?_
  refine s_CR C htab (st := []) (fun o ho => j_callS (As := [.inr (.inl v2), .inl x2, .inl x3]) (st := []) C 5 rfl mf_Hb_versionOf ml_X11_91 rfl (by decide) (by decide) (Nat.le_refl _) rfl (cHb_versionOf (CX_tr C) σ M3 n4 v2 x2 x3 o ho)) (fun v5 M6 n7 _ => ?_)
  refine s_blk C 6 4 [4, 5] (pc' := 18) (lv' := [(4, .inl x4), (5, .inr (.inl v5))]) (st' := [.inl 999, .inl 0, .inl x4]) rfl ?_
  refine s_CU C htab (st := []) (fun o ho => j_callS (As := [.inl x4, .inl 0, .inl 999]) (st := []) C 10 rfl mf_Hb_checkRange ml_X11_46 rfl (by decide) (by decide) (Nat.le_refl _) rfl (cHb_checkRange (CX_tr C) σ M6 n7 x4 0 999 o ho)) (fun v8 M9 n10 _ => ?_)
  refine s_blk C 11 1 [4, 5] (pc' := 23) (lv' := [(4, .inl x4), (5, .inr (.inl v5))]) (st' := [.inr (.inl v5)]) rfl ?_
  refine s_gI C 12 rfl fl_X11_112 rfl rfl (fun v11 => ?_)
  refine s_blk C 13 3 [4, 5, 6] (pc' := 32) (lv' := [(4, .inl x4), (5, .inr (.inl v5)), (6, .inl v11)]) (st' := [.inl x4, .inl v11]) rfl ?_
  refine s_icgt C 16 rfl (fun _ => ?_) (fun _ => ?_)
  · refine s_blk C 19 1 [4, 5, 6] (pc' := 40) (lv' := [(4, .inl x4), (5, .inr (.inl v5)), (6, .inl v11)]) (st' := [.inl 0]) rfl ?_
    exact wHb_lock_j40 C htab a0 _ _ _ _ _ _
  refine s_blk C 17 2 [4, 5, 6] (pc' := 40) (lv' := [(4, .inl x4), (5, .inr (.inl v5)), (6, .inl v11)]) (st' := [.inl 1]) rfl ?_
  exact wHb_lock_j40 C htab a0 _ _ _ _ _ _
theorem cHb_lock {l : Launch} {G : GE} (htr : l.stackTraces = false) (σ : Sg) (M : Mm) (n : Nat) (a0 : Nat) (x1 : Int32) (x2 : Int32) (x3 : Int32) (x4 : Int32) : ∀ o, fHb_lock a0 x1 x2 x3 x4 M n = some o → MetX l G yX11_lock cX11_lock 7 (some .int) 8 300 [.inr (.inl (some a0)), .inl x1, .inl x2, .inl x3, .inl x4] (σ, M, n) ((eC rvI σ) o) :=
  c_ofX (by decide) kHb_lock htr rfl rfl fun X _ _ C htab => wHb_lock C htab a0 x1 x2 x3 x4 _ _
def pStore_mendShard_0 : List BR := [(0, .iconst 0, 1, 0, 1), (1, .istore_n 2, 1, 0, 2), (2, .iload_n 2, 1, 0, 3), (3, .iconst 5, 1, 5, 4), (4, .if_icmp .ge (75), 3, 0, 79), (7, .aload_n 1, 1, 0, 8), (8, .iload_n 2, 1, 0, 9), (9, .invokevirtual 163, 3, 0, 12), (12, .iconst (-1), 1, -1, 13), (13, .if_icmp .ne (11), 3, 0, 24), (16, .aload_n 0, 1, 0, 17), (17, .aload_n 1, 1, 0, 18), (18, .invokevirtual 134, 3, 0, 21), (21, .goto (8), 3, 0, 29), (24, .aload_n 1, 1, 0, 25), (25, .iload_n 2, 1, 0, 26), (26, .invokevirtual 163, 3, 0, 29), (29, .istore_n 3, 1, 0, 30), (30, .aload_n 1, 1, 0, 31), (31, .iload_n 2, 1, 0, 32), (32, .invokevirtual 166, 3, 0, 35), (35, .ifCond .ne (38), 3, 0, 73), (38, .iload_n 3, 1, 0, 39), (39, .iconst (-1), 1, -1, 40), (40, .if_icmp .eq (33), 3, 0, 73), (43, .aload_n 0, 1, 0, 44), (44, .getfield 32, 3, 0, 47), (47, .aload_n 1, 1, 0, 48), (48, .invokevirtual 150, 3, 0, 51), (51, .ifCond .eq (22), 3, 0, 73), (54, .aload_n 0, 1, 0, 55), (55, .getfield 32, 3, 0, 58), (58, .invokevirtual 131, 3, 0, 61), (61, .aload_n 1, 1, 0, 62), (62, .iload_n 2, 1, 0, 63), (63, .iload_n 3, 1, 0, 64), (64, .aload_n 0, 1, 0, 65), (65, .getfield 32, 3, 0, 68), (68, .invokevirtual 138, 3, 0, 71), (71, .iconst 1, 1, 1, 72)]
theorem kStore_mendShard_0 : bOK cX8_mendShard 4 pStore_mendShard_0 = true := by decide +kernel
def pStore_mendShard_1 : List BR := [(72, .ireturn, 1, 0, 73), (73, .iinc 2 (1), 3, 1, 76), (76, .goto (-74), 3, 0, 2), (79, .iconst 0, 1, 0, 80), (80, .ireturn, 1, 0, 81)]
theorem kStore_mendShard_1 : bOK cX8_mendShard 4 pStore_mendShard_1 = true := by decide +kernel
def pStore_mendShard : List BR := (pStore_mendShard_0 ++ pStore_mendShard_1)
theorem kStore_mendShard : bOK cX8_mendShard 4 pStore_mendShard = true := (bOK_app kStore_mendShard_0 kStore_mendShard_1)
def fStore_mendShard_j73 (a0 : Nat) (k2 : Option Nat → Int32 → Mm → Option (Int32 × Mm)) (r1 : Option Nat) (x2 : Int32) (M : Mm) : Option (Int32 × Mm) :=
  k2 r1 (x2 + 1) M
theorem wStore_mendShard_j73 {X : MC} {G : GE} {n0 : Nat} (C : CX X G RX8 cX8_mendShard pStore_mendShard 4 (some .boolean) n0) (htab : ∀ z ∈ X.2.2.2.2.2.2.2.2.exceptionTable.toList, False) {σ : Sg} {n : Nat} (a0 : Nat) (k2 : Option Nat → Int32 → Mm → Option (Int32 × Mm)) (H2 : ∀ (r1 : Option Nat) (x2 : Int32) (M : Mm), JS X G 4 300 0 n0 (EM X G n0 7 300 (eW rvI σ n)) (k2 r1 x2 M) (σ, M, n) 2 [(0, .inr (.inl (some a0))), (1, .inr (.inl r1)), (2, .inl x2)] []) (r1 : Option Nat) (x2 : Int32) (M : Mm) : JS X G 4 300 0 n0 (EM X G n0 7 300 (eW rvI σ n)) (fStore_mendShard_j73 a0 k2 r1 x2 M) (σ, M, n) 73 [(0, .inr (.inl (some a0))), (1, .inr (.inl r1)), (2, .inl x2)] [] := by
  unfold fStore_mendShard_j73
  refine s_blk C 41 2 [0, 1, 2] (pc' := 2) (lv' := [(0, .inr (.inl (some a0))), (1, .inr (.inl r1)), (2, .inl (x2 + 1))]) (st' := []) rfl ?_
  exact H2 _ _ _
def fStore_mendShard_j29 (a0 : Nat) (k2 : Option Nat → Int32 → Mm → Option (Int32 × Mm)) (r1 : Option Nat) (x2 : Int32) (s0 : Int32) (M : Mm) : Option (Int32 × Mm) :=
  rk 5 r1 M fun a1 =>
  bdR (fPart_isGood a1 x2 M) fun v4 =>
  if v4 = 0 then
    if s0 = (-1) then
      fStore_mendShard_j73 a0 k2 r1 x2 M
    else
      fgR 8 803 (some a0) M fun v5 =>
      rk 2 v5 M fun a6 =>
      bdW (fCode_decode a6 r1 M) fun v9 M10 =>
      if v9 = 0 then
        fStore_mendShard_j73 a0 k2 r1 x2 M10
      else
        fgR 8 803 (some a0) M10 fun v11 =>
        rk 2 v11 M10 fun a12 =>
        bdW (fCode_encodePlain a12 M10) fun v15 M16 =>
        fgR 8 803 (some a0) M16 fun v17 =>
        rk 5 r1 M16 fun a19 =>
        bdW (fPart_place a19 x2 s0 v17 M16) fun v20 M21 =>
        rZ 1 (some (1, M21))
  else
    fStore_mendShard_j73 a0 k2 r1 x2 M
theorem wStore_mendShard_j29 {X : MC} {G : GE} {n0 : Nat} (C : CX X G RX8 cX8_mendShard pStore_mendShard 4 (some .boolean) n0) (htab : ∀ z ∈ X.2.2.2.2.2.2.2.2.exceptionTable.toList, False) {σ : Sg} {n : Nat} (a0 : Nat) (k2 : Option Nat → Int32 → Mm → Option (Int32 × Mm)) (H2 : ∀ (r1 : Option Nat) (x2 : Int32) (M : Mm), JS X G 4 300 0 n0 (EM X G n0 7 300 (eW rvI σ n)) (k2 r1 x2 M) (σ, M, n) 2 [(0, .inr (.inl (some a0))), (1, .inr (.inl r1)), (2, .inl x2)] []) (r1 : Option Nat) (x2 : Int32) (s0 : Int32) (M : Mm) : JS X G 4 300 0 n0 (EM X G n0 7 300 (eW rvI σ n)) (fStore_mendShard_j29 a0 k2 r1 x2 s0 M) (σ, M, n) 29 [(0, .inr (.inl (some a0))), (1, .inr (.inl r1)), (2, .inl x2)] [.inl s0] := by
  unfold fStore_mendShard_j29
  refine s_blk C 17 3 [0, 1, 2, 3] (pc' := 32) (lv' := [(0, .inr (.inl (some a0))), (1, .inr (.inl r1)), (2, .inl x2), (3, .inl s0)]) (st' := [.inl x2, .inr (.inl r1)]) rfl ?_
  refine s_rk (fun a1 ha2 hk3 => ?_)
  subst ha2
  refine s_RI (CE_EM _ _ _ _ _ _) (st := []) (fun o ho => j_callV (As := [.inl x2]) (st := []) (b := a1) C 20 rfl mf_Part_isGood ml_X8_166 rfl (recv_K C (by decide) (by decide) rfl hk3) (by decide) (by decide) (Nat.le_refl _) rfl (cPart_isGood (CX_tr C) σ M n a1 x2 o ho)) (fun v4 => ?_)
  refine s_ine C 21 rfl (fun _ => ?_) (fun _ => ?_)
  · refine s_blk C 22 2 [0, 1, 2, 3] (pc' := 40) (lv' := [(0, .inr (.inl (some a0))), (1, .inr (.inl (some a1))), (2, .inl x2), (3, .inl s0)]) (st' := [.inl (-1), .inl s0]) rfl ?_
    refine s_iceq C 24 rfl (fun _ => ?_) (fun _ => ?_)
    · refine s_blk C 0 0 [0, 1, 2] (pc' := 73) (lv' := [(0, .inr (.inl (some a0))), (1, .inr (.inl (some a1))), (2, .inl x2)]) (st' := []) rfl ?_
      exact wStore_mendShard_j73 C htab a0 k2 H2 _ _ _
    refine s_blk C 25 1 [0, 1, 2, 3] (pc' := 44) (lv' := [(0, .inr (.inl (some a0))), (1, .inr (.inl (some a1))), (2, .inl x2), (3, .inl s0)]) (st' := [.inr (.inl (some a0))]) rfl ?_
    refine s_gR C 26 rfl fl_X8_32 rfl rfl (fun v5 => ?_)
    refine s_blk C 27 1 [0, 1, 2, 3] (pc' := 48) (lv' := [(0, .inr (.inl (some a0))), (1, .inr (.inl (some a1))), (2, .inl x2), (3, .inl s0)]) (st' := [.inr (.inl (some a1)), .inr (.inl v5)]) rfl ?_
    refine s_rk (fun a6 ha7 hk8 => ?_)
    subst ha7
    refine s_WI (CE_EM _ _ _ _ _ _) (st := []) (fun o ho => j_callV (As := [.inr (.inl (some a1))]) (st := []) (b := a6) C 28 rfl mf_Code_decode ml_X8_150 rfl (recv_K C (by decide) (by decide) rfl hk8) (by decide) (by decide) (Nat.le_refl _) rfl (cCode_decode (CX_tr C) σ M n a6 (some a1) o ho)) (fun v9 M10 => ?_)
    refine s_ieq C 29 rfl (fun _ => ?_) (fun _ => ?_)
    · refine s_blk C 0 0 [0, 1, 2] (pc' := 73) (lv' := [(0, .inr (.inl (some a0))), (1, .inr (.inl (some a1))), (2, .inl x2)]) (st' := []) rfl ?_
      exact wStore_mendShard_j73 C htab a0 k2 H2 _ _ _
    refine s_blk C 30 1 [0, 1, 2, 3] (pc' := 55) (lv' := [(0, .inr (.inl (some a0))), (1, .inr (.inl (some a1))), (2, .inl x2), (3, .inl s0)]) (st' := [.inr (.inl (some a0))]) rfl ?_
    refine s_gR C 31 rfl fl_X8_32 rfl rfl (fun v11 => ?_)
    refine s_rk (fun a12 ha13 hk14 => ?_)
    subst ha13
    refine s_WU (CE_EM _ _ _ _ _ _) (st := []) (fun o ho => j_callV (As := []) (st := []) (b := a12) C 32 rfl mf_Code_encodePlain ml_X8_131 rfl (recv_K C (by decide) (by decide) rfl hk14) (by decide) (by decide) (Nat.le_refl _) rfl (cCode_encodePlain (CX_tr C) σ M10 n a12 o ho)) (fun v15 M16 => ?_)
    refine s_blk C 33 4 [] (pc' := 65) (lv' := []) (st' := [.inr (.inl (some a0)), .inl s0, .inl x2, .inr (.inl (some a1))]) rfl ?_
    refine s_gR C 37 rfl fl_X8_32 rfl rfl (fun v17 => ?_)
    refine s_rks (fun hk18 => ?_)
    refine s_WU (CE_EM _ _ _ _ _ _) (st := []) (fun o ho => j_callV (As := [.inl x2, .inl s0, .inr (.inl v17)]) (st := []) (b := a1) C 38 rfl mf_Part_place ml_X8_138 rfl (recv_K C (by decide) (by decide) rfl hk18) (by decide) (by decide) (Nat.le_refl _) rfl (cPart_place (CX_tr C) σ M16 n a1 x2 s0 v17 o ho)) (fun v20 M21 => ?_)
    refine s_blk C 39 1 [] (pc' := 72) (lv' := []) (st' := [.inl 1]) rfl ?_
    exact s_zret C 40 rfl rfl
  refine s_blk C 0 0 [0, 1, 2] (pc' := 73) (lv' := [(0, .inr (.inl (some a0))), (1, .inr (.inl (some a1))), (2, .inl x2)]) (st' := []) rfl ?_
  exact wStore_mendShard_j73 C htab a0 k2 H2 _ _ _
def fStore_mendShard_b2 (a0 : Nat) (k2 : Option Nat → Int32 → Mm → Option (Int32 × Mm)) (r1 : Option Nat) (x2 : Int32) (M : Mm) : Option (Int32 × Mm) :=
  if 5 ≤ x2 then
    rZ 0 (some (0, M))
  else
    rk 5 r1 M fun a1 =>
    bdR (fPart_nodeOf a1 x2 M) fun v4 =>
    if v4 = (-1) then
      rk 8 (some a0) M fun _ =>
      bdR (fStore_freeNode a0 r1 M) fun v6 =>
      fStore_mendShard_j29 a0 k2 r1 x2 v6 M
    else
      rk 5 r1 M fun a8 =>
      bdR (fPart_nodeOf a8 x2 M) fun v9 =>
      fStore_mendShard_j29 a0 k2 r1 x2 v9 M
theorem wStore_mendShard_b2 {X : MC} {G : GE} {n0 : Nat} (C : CX X G RX8 cX8_mendShard pStore_mendShard 4 (some .boolean) n0) (htab : ∀ z ∈ X.2.2.2.2.2.2.2.2.exceptionTable.toList, False) {σ : Sg} {n : Nat} (a0 : Nat) (k2 : Option Nat → Int32 → Mm → Option (Int32 × Mm)) (H2 : ∀ (r1 : Option Nat) (x2 : Int32) (M : Mm), JS X G 4 300 0 n0 (EM X G n0 7 300 (eW rvI σ n)) (k2 r1 x2 M) (σ, M, n) 2 [(0, .inr (.inl (some a0))), (1, .inr (.inl r1)), (2, .inl x2)] []) (r1 : Option Nat) (x2 : Int32) (M : Mm) : JS X G 4 300 0 n0 (EM X G n0 7 300 (eW rvI σ n)) (fStore_mendShard_b2 a0 k2 r1 x2 M) (σ, M, n) 2 [(0, .inr (.inl (some a0))), (1, .inr (.inl r1)), (2, .inl x2)] [] := by
  unfold fStore_mendShard_b2
  refine s_blk C 2 2 [0, 1, 2] (pc' := 4) (lv' := [(0, .inr (.inl (some a0))), (1, .inr (.inl r1)), (2, .inl x2)]) (st' := [.inl 5, .inl x2]) rfl ?_
  refine s_icge C 4 rfl (fun _ => ?_) (fun _ => ?_)
  · refine s_blk C 43 1 [] (pc' := 80) (lv' := []) (st' := [.inl 0]) rfl ?_
    exact s_zret C 44 rfl rfl
  refine s_blk C 5 2 [0, 1, 2] (pc' := 9) (lv' := [(0, .inr (.inl (some a0))), (1, .inr (.inl r1)), (2, .inl x2)]) (st' := [.inl x2, .inr (.inl r1)]) rfl ?_
  refine s_rk (fun a1 ha2 hk3 => ?_)
  subst ha2
  refine s_RI (CE_EM _ _ _ _ _ _) (st := []) (fun o ho => j_callV (As := [.inl x2]) (st := []) (b := a1) C 7 rfl mf_Part_nodeOf ml_X8_163 rfl (recv_K C (by decide) (by decide) rfl hk3) (by decide) (by decide) (Nat.le_refl _) rfl (cPart_nodeOf (CX_tr C) σ M n a1 x2 o ho)) (fun v4 => ?_)
  refine s_blk C 8 1 [0, 1, 2] (pc' := 13) (lv' := [(0, .inr (.inl (some a0))), (1, .inr (.inl (some a1))), (2, .inl x2)]) (st' := [.inl (-1), .inl v4]) rfl ?_
  refine s_icne C 9 rfl (fun _ => ?_) (fun _ => ?_)
  · refine s_blk C 10 2 [0, 1, 2] (pc' := 18) (lv' := [(0, .inr (.inl (some a0))), (1, .inr (.inl (some a1))), (2, .inl x2)]) (st' := [.inr (.inl (some a1)), .inr (.inl (some a0))]) rfl ?_
    refine s_rks (fun hk5 => ?_)
    refine s_RI (CE_EM _ _ _ _ _ _) (st := []) (fun o ho => j_callV (As := [.inr (.inl (some a1))]) (st := []) (b := a0) C 12 rfl mf_Store_freeNode ml_X8_134 rfl (recv_K C (by decide) (by decide) rfl hk5) (by decide) (by decide) (Nat.le_refl _) rfl (cStore_freeNode (CX_tr C) σ M n a0 (some a1) o ho)) (fun v6 => ?_)
    refine s_blk C 13 1 [0, 1, 2] (pc' := 29) (lv' := [(0, .inr (.inl (some a0))), (1, .inr (.inl (some a1))), (2, .inl x2)]) (st' := [.inl v6]) rfl ?_
    exact wStore_mendShard_j29 C htab a0 k2 H2 _ _ _ _
  refine s_blk C 14 2 [0, 1, 2] (pc' := 26) (lv' := [(0, .inr (.inl (some a0))), (1, .inr (.inl (some a1))), (2, .inl x2)]) (st' := [.inl x2, .inr (.inl (some a1))]) rfl ?_
  refine s_rks (fun hk7 => ?_)
  refine s_RI (CE_EM _ _ _ _ _ _) (st := []) (fun o ho => j_callV (As := [.inl x2]) (st := []) (b := a1) C 16 rfl mf_Part_nodeOf ml_X8_163 rfl (recv_K C (by decide) (by decide) rfl hk7) (by decide) (by decide) (Nat.le_refl _) rfl (cPart_nodeOf (CX_tr C) σ M n a1 x2 o ho)) (fun v9 => ?_)
  exact wStore_mendShard_j29 C htab a0 k2 H2 _ _ _ _
def fStore_mendShard_l2 (a0 : Nat) (fu : Nat) : Option Nat → Int32 → Mm → Option (Int32 × Mm) := Nat.rec (fun r1 x2 M => none) (fun _ k => fStore_mendShard_b2 a0 k) fu
theorem wStore_mendShard_l2 {X : MC} {G : GE} {n0 : Nat} (C : CX X G RX8 cX8_mendShard pStore_mendShard 4 (some .boolean) n0) (htab : ∀ z ∈ X.2.2.2.2.2.2.2.2.exceptionTable.toList, False) {σ : Sg} {n : Nat} (a0 : Nat) : ∀ (fu : Nat) (r1 : Option Nat) (x2 : Int32) (M : Mm), JS X G 4 300 0 n0 (EM X G n0 7 300 (eW rvI σ n)) (fStore_mendShard_l2 a0 fu r1 x2 M) (σ, M, n) 2 [(0, .inr (.inl (some a0))), (1, .inr (.inl r1)), (2, .inl x2)] [] := by
  intro fu
  induction fu with
  | zero => intro r1 x2 M; exact s_none
  | succ fu ih => intro r1 x2 M; exact wStore_mendShard_b2 C htab a0 (fStore_mendShard_l2 a0 fu) ih _ _ _
def fStore_mendShard (a0 : Nat) (r1 : Option Nat) (M : Mm) : Option (Int32 × Mm) :=
  fStore_mendShard_l2 a0 FU r1 0 M
theorem wStore_mendShard {X : MC} {G : GE} {n0 : Nat} (C : CX X G RX8 cX8_mendShard pStore_mendShard 4 (some .boolean) n0) (htab : ∀ z ∈ X.2.2.2.2.2.2.2.2.exceptionTable.toList, False) {σ : Sg} {n : Nat} (a0 : Nat) (r1 : Option Nat) (M : Mm) : JS X G 4 300 0 n0 (EM X G n0 7 300 (eW rvI σ n)) (fStore_mendShard a0 r1 M) (σ, M, n) 0 [(0, .inr (.inl (some a0))), (1, .inr (.inl r1))] [] := by
  unfold fStore_mendShard
  refine s_blk C 0 2 [0, 1, 2] (pc' := 2) (lv' := [(0, .inr (.inl (some a0))), (1, .inr (.inl r1)), (2, .inl 0)]) (st' := []) rfl ?_
  exact wStore_mendShard_l2 C htab a0 FU _ _ _
theorem cStore_mendShard {l : Launch} {G : GE} (htr : l.stackTraces = false) (σ : Sg) (M : Mm) (n : Nat) (a0 : Nat) (r1 : Option Nat) : ∀ o, fStore_mendShard a0 r1 M = some o → MetX l G yX8_mendShard cX8_mendShard 4 (some .boolean) 7 300 [.inr (.inl (some a0)), .inr (.inl r1)] (σ, M, n) ((eW rvI σ n) o) :=
  c_ofX (by decide) kStore_mendShard htr rfl rfl fun X _ _ C htab => wStore_mendShard C htab a0 r1 _
def pStore_mendOne : List BR := [(0, .iconst 3, 1, 3, 1), (1, .istore_n 1, 1, 0, 2), (2, .iload_n 1, 1, 0, 3), (3, .iconst 5, 1, 5, 4), (4, .if_icmp .ge (65), 3, 0, 69), (7, .iconst 0, 1, 0, 8), (8, .istore_n 2, 1, 0, 9), (9, .iload_n 2, 1, 0, 10), (10, .aload_n 0, 1, 0, 11), (11, .getfield 18, 3, 0, 14), (14, .invokevirtual 40, 3, 0, 17), (17, .if_icmp .ge (46), 3, 0, 63), (20, .aload_n 0, 1, 0, 21), (21, .getfield 18, 3, 0, 24), (24, .iload_n 2, 1, 0, 25), (25, .invokevirtual 44, 3, 0, 28), (28, .checkcast 48, 3, 0, 31), (31, .astore_n 3, 1, 0, 32), (32, .aload_n 3, 1, 0, 33), (33, .getfield 54, 3, 0, 36), (36, .ifCond .ne (21), 3, 0, 57), (39, .aload_n 3, 1, 0, 40), (40, .invokevirtual 157, 3, 0, 43), (43, .iload_n 1, 1, 0, 44), (44, .if_icmp .ne (13), 3, 0, 57), (47, .aload_n 0, 1, 0, 48), (48, .aload_n 3, 1, 0, 49), (49, .invokevirtual 160, 3, 0, 52), (52, .ifCond .eq (5), 3, 0, 57), (55, .iconst 1, 1, 1, 56), (56, .ireturn, 1, 0, 57), (57, .iinc 2 (1), 3, 1, 60), (60, .goto (-51), 3, 0, 9), (63, .iinc 1 (1), 3, 1, 66), (66, .goto (-64), 3, 0, 2), (69, .iconst 0, 1, 0, 70), (70, .ireturn, 1, 0, 71)]
theorem kStore_mendOne : bOK cX8_mendOne 4 pStore_mendOne = true := by decide +kernel
def fStore_mendOne_j57 (a0 : Nat) (k2 : Int32 → Mm → Option (Int32 × Mm)) (k9 : Int32 → Int32 → Mm → Option (Int32 × Mm)) (x1 : Int32) (x2 : Int32) (M : Mm) : Option (Int32 × Mm) :=
  k9 x1 (x2 + 1) M
theorem wStore_mendOne_j57 {X : MC} {G : GE} {n0 : Nat} (C : CX X G RX8 cX8_mendOne pStore_mendOne 4 (some .boolean) n0) (htab : ∀ z ∈ X.2.2.2.2.2.2.2.2.exceptionTable.toList, False) {σ : Sg} {n : Nat} (a0 : Nat) (k2 : Int32 → Mm → Option (Int32 × Mm)) (H2 : ∀ (x1 : Int32) (M : Mm), JS X G 4 300 0 n0 (EM X G n0 8 300 (eW rvI σ n)) (k2 x1 M) (σ, M, n) 2 [(0, .inr (.inl (some a0))), (1, .inl x1)] []) (k9 : Int32 → Int32 → Mm → Option (Int32 × Mm)) (H9 : ∀ (x1 : Int32) (x2 : Int32) (M : Mm), JS X G 4 300 0 n0 (EM X G n0 8 300 (eW rvI σ n)) (k9 x1 x2 M) (σ, M, n) 9 [(0, .inr (.inl (some a0))), (1, .inl x1), (2, .inl x2)] []) (x1 : Int32) (x2 : Int32) (M : Mm) : JS X G 4 300 0 n0 (EM X G n0 8 300 (eW rvI σ n)) (fStore_mendOne_j57 a0 k2 k9 x1 x2 M) (σ, M, n) 57 [(0, .inr (.inl (some a0))), (1, .inl x1), (2, .inl x2)] [] := by
  unfold fStore_mendOne_j57
  refine s_blk C 31 2 [0, 1, 2] (pc' := 9) (lv' := [(0, .inr (.inl (some a0))), (1, .inl x1), (2, .inl (x2 + 1))]) (st' := []) rfl ?_
  exact H9 _ _ _
def fStore_mendOne_b9 (a0 : Nat) (k2 : Int32 → Mm → Option (Int32 × Mm)) (k9 : Int32 → Int32 → Mm → Option (Int32 × Mm)) (x1 : Int32) (x2 : Int32) (M : Mm) : Option (Int32 × Mm) :=
  fgR 8 801 (some a0) M fun v1 =>
  rk 12 v1 M fun a2 =>
  bdR (fAl_size a2 M) fun v5 =>
  if v5 ≤ x2 then
    k2 (x1 + 1) M
  else
    fgR 8 801 (some a0) M fun v6 =>
    rk 12 v6 M fun a7 =>
    bdR (fAl_get a7 x2 M) fun v10 =>
    fca 5 v10 M fun v11 =>
    fgI 5 507 v11 M fun v12 =>
    if v12 = 0 then
      rk 5 v11 M fun a13 =>
      bdR (fPart_manyGood a13 M) fun v16 =>
      if v16 = x1 then
        rk 8 (some a0) M fun _ =>
        bdW (fStore_mendShard a0 v11 M) fun v18 M19 =>
        if v18 = 0 then
          fStore_mendOne_j57 a0 k2 k9 x1 x2 M19
        else
          rZ 1 (some (1, M19))
      else
        fStore_mendOne_j57 a0 k2 k9 x1 x2 M
    else
      fStore_mendOne_j57 a0 k2 k9 x1 x2 M
theorem wStore_mendOne_b9 {X : MC} {G : GE} {n0 : Nat} (C : CX X G RX8 cX8_mendOne pStore_mendOne 4 (some .boolean) n0) (htab : ∀ z ∈ X.2.2.2.2.2.2.2.2.exceptionTable.toList, False) {σ : Sg} {n : Nat} (a0 : Nat) (k2 : Int32 → Mm → Option (Int32 × Mm)) (H2 : ∀ (x1 : Int32) (M : Mm), JS X G 4 300 0 n0 (EM X G n0 8 300 (eW rvI σ n)) (k2 x1 M) (σ, M, n) 2 [(0, .inr (.inl (some a0))), (1, .inl x1)] []) (k9 : Int32 → Int32 → Mm → Option (Int32 × Mm)) (H9 : ∀ (x1 : Int32) (x2 : Int32) (M : Mm), JS X G 4 300 0 n0 (EM X G n0 8 300 (eW rvI σ n)) (k9 x1 x2 M) (σ, M, n) 9 [(0, .inr (.inl (some a0))), (1, .inl x1), (2, .inl x2)] []) (x1 : Int32) (x2 : Int32) (M : Mm) : JS X G 4 300 0 n0 (EM X G n0 8 300 (eW rvI σ n)) (fStore_mendOne_b9 a0 k2 k9 x1 x2 M) (σ, M, n) 9 [(0, .inr (.inl (some a0))), (1, .inl x1), (2, .inl x2)] [] := by
  unfold fStore_mendOne_b9
  refine s_blk C 7 2 [0, 1, 2] (pc' := 11) (lv' := [(0, .inr (.inl (some a0))), (1, .inl x1), (2, .inl x2)]) (st' := [.inr (.inl (some a0)), .inl x2]) rfl ?_
  refine s_gR C 9 rfl fl_X8_18 rfl rfl (fun v1 => ?_)
  refine s_rk (fun a2 ha3 hk4 => ?_)
  subst ha3
  refine s_RI (CE_EM _ _ _ _ _ _) (st := [.inl x2]) (fun o ho => j_callV (As := []) (st := [.inl x2]) (b := a2) C 10 rfl mf_Al_size ml_X8_40 rfl (recv_K C (by decide) (by decide) rfl hk4) (by decide) (by decide) (Nat.le_refl _) rfl (cAl_size (CX_tr C) σ M n a2 o ho)) (fun v5 => ?_)
  refine s_icge C 11 rfl (fun _ => ?_) (fun _ => ?_)
  · refine s_blk C 33 2 [0, 1] (pc' := 2) (lv' := [(0, .inr (.inl (some a0))), (1, .inl (x1 + 1))]) (st' := []) rfl ?_
    exact H2 _ _
  refine s_blk C 12 1 [0, 1, 2] (pc' := 21) (lv' := [(0, .inr (.inl (some a0))), (1, .inl x1), (2, .inl x2)]) (st' := [.inr (.inl (some a0))]) rfl ?_
  refine s_gR C 13 rfl fl_X8_18 rfl rfl (fun v6 => ?_)
  refine s_blk C 14 1 [0, 1, 2] (pc' := 25) (lv' := [(0, .inr (.inl (some a0))), (1, .inl x1), (2, .inl x2)]) (st' := [.inl x2, .inr (.inl v6)]) rfl ?_
  refine s_rk (fun a7 ha8 hk9 => ?_)
  subst ha8
  refine s_RR (CE_EM _ _ _ _ _ _) (st := []) (fun o ho => j_callV (As := [.inl x2]) (st := []) (b := a7) C 15 rfl mf_Al_get ml_X8_44 rfl (recv_K C (by decide) (by decide) rfl hk9) (by decide) (by decide) (Nat.le_refl _) rfl (cAl_get (CX_tr C) σ M n a7 x2 o ho)) (fun v10 => ?_)
  refine s_cast C 16 rfl rfl (by decide) (by decide) cw_X8_48 (fun v11 => ?_)
  refine s_blk C 17 2 [0, 1, 2, 3] (pc' := 33) (lv' := [(0, .inr (.inl (some a0))), (1, .inl x1), (2, .inl x2), (3, .inr (.inl v11))]) (st' := [.inr (.inl v11)]) rfl ?_
  refine s_gI C 19 rfl fl_X8_54 rfl rfl (fun v12 => ?_)
  refine s_ine C 20 rfl (fun _ => ?_) (fun _ => ?_)
  · refine s_blk C 21 1 [0, 1, 2, 3] (pc' := 40) (lv' := [(0, .inr (.inl (some a0))), (1, .inl x1), (2, .inl x2), (3, .inr (.inl v11))]) (st' := [.inr (.inl v11)]) rfl ?_
    refine s_rk (fun a13 ha14 hk15 => ?_)
    subst ha14
    refine s_RI (CE_EM _ _ _ _ _ _) (st := []) (fun o ho => j_callV (As := []) (st := []) (b := a13) C 22 rfl mf_Part_manyGood ml_X8_157 rfl (recv_K C (by decide) (by decide) rfl hk15) (by decide) (by decide) (Nat.le_refl _) rfl (cPart_manyGood (CX_tr C) σ M n a13 o ho)) (fun v16 => ?_)
    refine s_blk C 23 1 [0, 1, 2, 3] (pc' := 44) (lv' := [(0, .inr (.inl (some a0))), (1, .inl x1), (2, .inl x2), (3, .inr (.inl (some a13)))]) (st' := [.inl x1, .inl v16]) rfl ?_
    refine s_icne C 24 rfl (fun _ => ?_) (fun _ => ?_)
    · refine s_blk C 25 2 [0, 1, 2] (pc' := 49) (lv' := [(0, .inr (.inl (some a0))), (1, .inl x1), (2, .inl x2)]) (st' := [.inr (.inl (some a13)), .inr (.inl (some a0))]) rfl ?_
      refine s_rks (fun hk17 => ?_)
      refine s_WI (CE_EM _ _ _ _ _ _) (st := []) (fun o ho => j_callV (As := [.inr (.inl (some a13))]) (st := []) (b := a0) C 27 rfl mf_Store_mendShard ml_X8_160 rfl (recv_K C (by decide) (by decide) rfl hk17) (by decide) (by decide) (Nat.le_refl _) rfl (cStore_mendShard (CX_tr C) σ M n a0 (some a13) o ho)) (fun v18 M19 => ?_)
      refine s_ieq C 28 rfl (fun _ => ?_) (fun _ => ?_)
      · exact wStore_mendOne_j57 C htab a0 k2 H2 k9 H9 _ _ _
      refine s_blk C 29 1 [] (pc' := 56) (lv' := []) (st' := [.inl 1]) rfl ?_
      exact s_zret C 30 rfl rfl
    refine s_blk C 0 0 [0, 1, 2] (pc' := 57) (lv' := [(0, .inr (.inl (some a0))), (1, .inl x1), (2, .inl x2)]) (st' := []) rfl ?_
    exact wStore_mendOne_j57 C htab a0 k2 H2 k9 H9 _ _ _
  refine s_blk C 0 0 [0, 1, 2] (pc' := 57) (lv' := [(0, .inr (.inl (some a0))), (1, .inl x1), (2, .inl x2)]) (st' := []) rfl ?_
  exact wStore_mendOne_j57 C htab a0 k2 H2 k9 H9 _ _ _
def fStore_mendOne_l9 (a0 : Nat) (k2 : Int32 → Mm → Option (Int32 × Mm)) (fu : Nat) : Int32 → Int32 → Mm → Option (Int32 × Mm) := Nat.rec (fun x1 x2 M => none) (fun _ k => fStore_mendOne_b9 a0 k2 k) fu
theorem wStore_mendOne_l9 {X : MC} {G : GE} {n0 : Nat} (C : CX X G RX8 cX8_mendOne pStore_mendOne 4 (some .boolean) n0) (htab : ∀ z ∈ X.2.2.2.2.2.2.2.2.exceptionTable.toList, False) {σ : Sg} {n : Nat} (a0 : Nat) (k2 : Int32 → Mm → Option (Int32 × Mm)) (H2 : ∀ (x1 : Int32) (M : Mm), JS X G 4 300 0 n0 (EM X G n0 8 300 (eW rvI σ n)) (k2 x1 M) (σ, M, n) 2 [(0, .inr (.inl (some a0))), (1, .inl x1)] []) : ∀ (fu : Nat) (x1 : Int32) (x2 : Int32) (M : Mm), JS X G 4 300 0 n0 (EM X G n0 8 300 (eW rvI σ n)) (fStore_mendOne_l9 a0 k2 fu x1 x2 M) (σ, M, n) 9 [(0, .inr (.inl (some a0))), (1, .inl x1), (2, .inl x2)] [] := by
  intro fu
  induction fu with
  | zero => intro x1 x2 M; exact s_none
  | succ fu ih => intro x1 x2 M; exact wStore_mendOne_b9 C htab a0 k2 H2 (fStore_mendOne_l9 a0 k2 fu) ih _ _ _
def fStore_mendOne_b2 (a0 : Nat) (k2 : Int32 → Mm → Option (Int32 × Mm)) (x1 : Int32) (M : Mm) : Option (Int32 × Mm) :=
  if 5 ≤ x1 then
    rZ 0 (some (0, M))
  else
    fStore_mendOne_l9 a0 k2 FU x1 0 M
theorem wStore_mendOne_b2 {X : MC} {G : GE} {n0 : Nat} (C : CX X G RX8 cX8_mendOne pStore_mendOne 4 (some .boolean) n0) (htab : ∀ z ∈ X.2.2.2.2.2.2.2.2.exceptionTable.toList, False) {σ : Sg} {n : Nat} (a0 : Nat) (k2 : Int32 → Mm → Option (Int32 × Mm)) (H2 : ∀ (x1 : Int32) (M : Mm), JS X G 4 300 0 n0 (EM X G n0 8 300 (eW rvI σ n)) (k2 x1 M) (σ, M, n) 2 [(0, .inr (.inl (some a0))), (1, .inl x1)] []) (x1 : Int32) (M : Mm) : JS X G 4 300 0 n0 (EM X G n0 8 300 (eW rvI σ n)) (fStore_mendOne_b2 a0 k2 x1 M) (σ, M, n) 2 [(0, .inr (.inl (some a0))), (1, .inl x1)] [] := by
  unfold fStore_mendOne_b2
  refine s_blk C 2 2 [0, 1] (pc' := 4) (lv' := [(0, .inr (.inl (some a0))), (1, .inl x1)]) (st' := [.inl 5, .inl x1]) rfl ?_
  refine s_icge C 4 rfl (fun _ => ?_) (fun _ => ?_)
  · refine s_blk C 35 1 [] (pc' := 70) (lv' := []) (st' := [.inl 0]) rfl ?_
    exact s_zret C 36 rfl rfl
  refine s_blk C 5 2 [0, 1, 2] (pc' := 9) (lv' := [(0, .inr (.inl (some a0))), (1, .inl x1), (2, .inl 0)]) (st' := []) rfl ?_
  exact wStore_mendOne_l9 C htab a0 k2 H2 FU _ _ _
def fStore_mendOne_l2 (a0 : Nat) (fu : Nat) : Int32 → Mm → Option (Int32 × Mm) := Nat.rec (fun x1 M => none) (fun _ k => fStore_mendOne_b2 a0 k) fu
theorem wStore_mendOne_l2 {X : MC} {G : GE} {n0 : Nat} (C : CX X G RX8 cX8_mendOne pStore_mendOne 4 (some .boolean) n0) (htab : ∀ z ∈ X.2.2.2.2.2.2.2.2.exceptionTable.toList, False) {σ : Sg} {n : Nat} (a0 : Nat) : ∀ (fu : Nat) (x1 : Int32) (M : Mm), JS X G 4 300 0 n0 (EM X G n0 8 300 (eW rvI σ n)) (fStore_mendOne_l2 a0 fu x1 M) (σ, M, n) 2 [(0, .inr (.inl (some a0))), (1, .inl x1)] [] := by
  intro fu
  induction fu with
  | zero => intro x1 M; exact s_none
  | succ fu ih => intro x1 M; exact wStore_mendOne_b2 C htab a0 (fStore_mendOne_l2 a0 fu) ih _ _
def fStore_mendOne (a0 : Nat) (M : Mm) : Option (Int32 × Mm) :=
  fStore_mendOne_l2 a0 FU 3 M
theorem wStore_mendOne {X : MC} {G : GE} {n0 : Nat} (C : CX X G RX8 cX8_mendOne pStore_mendOne 4 (some .boolean) n0) (htab : ∀ z ∈ X.2.2.2.2.2.2.2.2.exceptionTable.toList, False) {σ : Sg} {n : Nat} (a0 : Nat) (M : Mm) : JS X G 4 300 0 n0 (EM X G n0 8 300 (eW rvI σ n)) (fStore_mendOne a0 M) (σ, M, n) 0 [(0, .inr (.inl (some a0)))] [] := by
  unfold fStore_mendOne
  refine s_blk C 0 2 [0, 1] (pc' := 2) (lv' := [(0, .inr (.inl (some a0))), (1, .inl 3)]) (st' := []) rfl ?_
  exact wStore_mendOne_l2 C htab a0 FU _ _
theorem cStore_mendOne {l : Launch} {G : GE} (htr : l.stackTraces = false) (σ : Sg) (M : Mm) (n : Nat) (a0 : Nat) : ∀ o, fStore_mendOne a0 M = some o → MetX l G yX8_mendOne cX8_mendOne 4 (some .boolean) 8 300 [.inr (.inl (some a0))] (σ, M, n) ((eW rvI σ n) o) :=
  c_ofX (by decide) kStore_mendOne htr rfl rfl fun X _ _ C htab => wStore_mendOne C htab a0 _

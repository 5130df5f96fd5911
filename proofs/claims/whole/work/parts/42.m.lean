def pMd_letterOf : List BR := [(0, .iload_n 0, 1, 0, 1), (1, .invokestatic 136, 3, 0, 4), (4, .istore_n 2, 1, 0, 5), (5, .iload_n 0, 1, 0, 6), (6, .istore_n 3, 1, 0, 7), (7, .iload_n 2, 1, 0, 8), (8, .iconst 1, 1, 1, 9), (9, .isub, 1, 0, 10), (10, .istore 4, 2, 0, 12), (12, .iload 4, 2, 0, 14), (14, .iload_n 1, 1, 0, 15), (15, .if_icmp .le (13), 3, 0, 28), (18, .iload_n 3, 1, 0, 19), (19, .iconst 5, 1, 5, 20), (20, .idiv, 1, 0, 21), (21, .istore_n 3, 1, 0, 22), (22, .iinc 4 (-1), 3, -1, 25), (25, .goto (-13), 3, 0, 12), (28, .iload_n 1, 1, 0, 29), (29, .iload_n 2, 1, 0, 30), (30, .if_icmp .ge (9), 3, 0, 39), (33, .iload_n 3, 1, 0, 34), (34, .iconst 5, 1, 5, 35), (35, .irem, 1, 0, 36), (36, .goto (4), 3, 0, 40), (39, .iconst 0, 1, 0, 40), (40, .ireturn, 1, 0, 41)]
theorem kMd_letterOf : bOK cX12_letterOf 5 pMd_letterOf = true := by decide +kernel
def fMd_letterOf_b12 (k12 : Int32 → Int32 → Int32 → Int32 → Option (Int32)) (x1 : Int32) (x2 : Int32) (x3 : Int32) (x4 : Int32) : Option (Int32) :=
  if x4 ≤ x1 then
    if x2 ≤ x1 then
      some 0
    else
      some (x3 - x3 / 5 * 5)
  else
    k12 x1 x2 (x3 / 5) (x4 + (-1))
theorem wMd_letterOf_b12 {X : MC} {G : GE} {n0 : Nat} (hG : gH G = true) (C : CX X G RX12 cX12_letterOf pMd_letterOf 5 (some .int) n0) (htab : ∀ z ∈ X.2.2.2.2.2.2.2.2.exceptionTable.toList, False) {σ : Sg} {M : Mm} {n : Nat} (k12 : Int32 → Int32 → Int32 → Int32 → Option (Int32)) (H12 : ∀ (x1 : Int32) (x2 : Int32) (x3 : Int32) (x4 : Int32), JS X G 5 300 0 n0 (EM X G n0 3 300 (eR rvI σ M n)) (k12 x1 x2 x3 x4) (σ, M, n) 12 [(1, .inl x1), (2, .inl x2), (3, .inl x3), (4, .inl x4)] []) (x1 : Int32) (x2 : Int32) (x3 : Int32) (x4 : Int32) : JS X G 5 300 0 n0 (EM X G n0 3 300 (eR rvI σ M n)) (fMd_letterOf_b12 k12 x1 x2 x3 x4) (σ, M, n) 12 [(1, .inl x1), (2, .inl x2), (3, .inl x3), (4, .inl x4)] [] := by
  unfold fMd_letterOf_b12
  refine s_blk C 9 2 [1, 2, 3, 4] (pc' := 15) (lv' := [(1, .inl x1), (2, .inl x2), (3, .inl x3), (4, .inl x4)]) (st' := [.inl x1, .inl x4]) rfl ?_
  refine s_icle C 11 rfl (fun _ => ?_) (fun _ => ?_)
  · refine s_blk C 18 2 [3] (pc' := 30) (lv' := [(3, .inl x3)]) (st' := [.inl x2, .inl x1]) rfl ?_
    refine s_icge C 20 rfl (fun _ => ?_) (fun _ => ?_)
    · refine s_blk C 25 1 [] (pc' := 40) (lv' := []) (st' := [.inl 0]) rfl ?_
      exact s_iret C 26 rfl rfl
    refine s_blk C 21 2 [] (pc' := 35) (lv' := []) (st' := [.inl 5, .inl x3]) rfl ?_
    refine s_irem C 23 rfl (by decide) ?_
    refine s_blk C 24 1 [] (pc' := 40) (lv' := []) (st' := [.inl (x3 - x3 / 5 * 5)]) rfl ?_
    exact s_iret C 26 rfl rfl
  refine s_blk C 12 2 [1, 2, 4] (pc' := 20) (lv' := [(1, .inl x1), (2, .inl x2), (4, .inl x4)]) (st' := [.inl 5, .inl x3]) rfl ?_
  refine s_idiv C 14 rfl (by decide) ?_
  refine s_blk C 15 3 [1, 2, 3, 4] (pc' := 12) (lv' := [(1, .inl x1), (2, .inl x2), (3, .inl (x3 / 5)), (4, .inl (x4 + (-1)))]) (st' := []) rfl ?_
  exact H12 _ _ _ _
def fMd_letterOf_l12 (fu : Nat) : Int32 → Int32 → Int32 → Int32 → Option (Int32) := Nat.rec (fun x1 x2 x3 x4 => none) (fun _ k => fMd_letterOf_b12 k) fu
theorem wMd_letterOf_l12 {X : MC} {G : GE} {n0 : Nat} (hG : gH G = true) (C : CX X G RX12 cX12_letterOf pMd_letterOf 5 (some .int) n0) (htab : ∀ z ∈ X.2.2.2.2.2.2.2.2.exceptionTable.toList, False) {σ : Sg} {M : Mm} {n : Nat} : ∀ (fu : Nat) (x1 : Int32) (x2 : Int32) (x3 : Int32) (x4 : Int32), JS X G 5 300 0 n0 (EM X G n0 3 300 (eR rvI σ M n)) (fMd_letterOf_l12 fu x1 x2 x3 x4) (σ, M, n) 12 [(1, .inl x1), (2, .inl x2), (3, .inl x3), (4, .inl x4)] [] := by
  intro fu
  induction fu with
  | zero => intro x1 x2 x3 x4; exact s_none
  | succ fu ih => intro x1 x2 x3 x4; exact wMd_letterOf_b12 hG C htab (fMd_letterOf_l12 fu) ih _ _ _ _
def fMd_letterOf (x0 : Int32) (x1 : Int32) : Option (Int32) :=
  bdR (fMd_letters x0) fun v1 =>
  fMd_letterOf_l12 FU x1 v1 x0 (v1 - 1)
theorem wMd_letterOf {X : MC} {G : GE} {n0 : Nat} (hG : gH G = true) (C : CX X G RX12 cX12_letterOf pMd_letterOf 5 (some .int) n0) (htab : ∀ z ∈ X.2.2.2.2.2.2.2.2.exceptionTable.toList, False) {σ : Sg} {M : Mm} {n : Nat} (x0 : Int32) (x1 : Int32) : JS X G 5 300 0 n0 (EM X G n0 3 300 (eR rvI σ M n)) (fMd_letterOf x0 x1) (σ, M, n) 0 [(0, .inl x0), (1, .inl x1)] [] := by
  unfold fMd_letterOf
  refine s_blk C 0 1 [0, 1] (pc' := 1) (lv' := [(0, .inl x0), (1, .inl x1)]) (st' := [.inl x0]) rfl ?_
  refine s_RI (CE_EM _ _ _ _ _ _) (st := []) (fun o ho => j_callS (As := [.inl x0]) (st := []) C 1 rfl mf_Md_letters ml_X12_136 rfl (by decide) (by decide) (Nat.le_refl _) rfl (cMd_letters (CX_tr C) hG σ M n x0 o ho)) (fun v1 => ?_)
  refine s_blk C 2 7 [1, 2, 3, 4] (pc' := 12) (lv' := [(1, .inl x1), (2, .inl v1), (3, .inl x0), (4, .inl (v1 - 1))]) (st' := []) rfl ?_
  exact wMd_letterOf_l12 hG C htab FU _ _ _ _
theorem cMd_letterOf {l : Launch} {G : GE} (htr : l.stackTraces = false) (hG : gH G = true) (σ : Sg) (M : Mm) (n : Nat) (x0 : Int32) (x1 : Int32) : ∀ o, fMd_letterOf x0 x1 = some o → MetX l G yX12_letterOf cX12_letterOf 5 (some .int) 3 300 [.inl x0, .inl x1] (σ, M, n) ((eR rvI σ M n) o) :=
  c_ofX (by decide) kMd_letterOf htr rfl rfl fun X _ _ C htab => wMd_letterOf hG C htab x0 x1
def pMd_begins : List BR := [(0, .iload_n 1, 1, 0, 1), (1, .invokestatic 136, 3, 0, 4), (4, .iload_n 0, 1, 0, 5), (5, .invokestatic 136, 3, 0, 8), (8, .if_icmp .gt (7), 3, 0, 15), (11, .iconst 1, 1, 1, 12), (12, .goto (4), 3, 0, 16), (15, .iconst 0, 1, 0, 16), (16, .istore_n 2, 1, 0, 17), (17, .iconst 0, 1, 0, 18), (18, .istore_n 3, 1, 0, 19), (19, .iload_n 3, 1, 0, 20), (20, .iload_n 1, 1, 0, 21), (21, .invokestatic 136, 3, 0, 24), (24, .if_icmp .ge (32), 3, 0, 56), (27, .iload_n 2, 1, 0, 28), (28, .ifCond .eq (20), 3, 0, 48), (31, .iload_n 0, 1, 0, 32), (32, .iload_n 3, 1, 0, 33), (33, .invokestatic 140, 3, 0, 36), (36, .iload_n 1, 1, 0, 37), (37, .iload_n 3, 1, 0, 38), (38, .invokestatic 140, 3, 0, 41), (41, .if_icmp .ne (7), 3, 0, 48), (44, .iconst 1, 1, 1, 45), (45, .goto (4), 3, 0, 49), (48, .iconst 0, 1, 0, 49), (49, .istore_n 2, 1, 0, 50), (50, .iinc 3 (1), 3, 1, 53), (53, .goto (-34), 3, 0, 19), (56, .iload_n 2, 1, 0, 57), (57, .ireturn, 1, 0, 58)]
theorem kMd_begins : bOK cX12_begins 4 pMd_begins = true := by decide +kernel
def fMd_begins_j49 (k19 : Int32 → Int32 → Int32 → Int32 → Option (Int32)) (x0 : Int32) (x1 : Int32) (x3 : Int32) (s0 : Int32) : Option (Int32) :=
  k19 x0 x1 s0 (x3 + 1)
theorem wMd_begins_j49 {X : MC} {G : GE} {n0 : Nat} (hG : gH G = true) (C : CX X G RX12 cX12_begins pMd_begins 4 (some .boolean) n0) (htab : ∀ z ∈ X.2.2.2.2.2.2.2.2.exceptionTable.toList, False) {σ : Sg} {M : Mm} {n : Nat} (k19 : Int32 → Int32 → Int32 → Int32 → Option (Int32)) (H19 : ∀ (x0 : Int32) (x1 : Int32) (x2 : Int32) (x3 : Int32), JS X G 4 300 0 n0 (EM X G n0 4 300 (eR rvI σ M n)) (k19 x0 x1 x2 x3) (σ, M, n) 19 [(0, .inl x0), (1, .inl x1), (2, .inl x2), (3, .inl x3)] []) (x0 : Int32) (x1 : Int32) (x3 : Int32) (s0 : Int32) : JS X G 4 300 0 n0 (EM X G n0 4 300 (eR rvI σ M n)) (fMd_begins_j49 k19 x0 x1 x3 s0) (σ, M, n) 49 [(0, .inl x0), (1, .inl x1), (3, .inl x3)] [.inl s0] := by
  unfold fMd_begins_j49
  refine s_blk C 27 3 [0, 1, 2, 3] (pc' := 19) (lv' := [(0, .inl x0), (1, .inl x1), (2, .inl s0), (3, .inl (x3 + 1))]) (st' := []) rfl ?_
  exact H19 _ _ _ _
def fMd_begins_j48 (k19 : Int32 → Int32 → Int32 → Int32 → Option (Int32)) (x0 : Int32) (x1 : Int32) (x3 : Int32) : Option (Int32) :=
  fMd_begins_j49 k19 x0 x1 x3 0
theorem wMd_begins_j48 {X : MC} {G : GE} {n0 : Nat} (hG : gH G = true) (C : CX X G RX12 cX12_begins pMd_begins 4 (some .boolean) n0) (htab : ∀ z ∈ X.2.2.2.2.2.2.2.2.exceptionTable.toList, False) {σ : Sg} {M : Mm} {n : Nat} (k19 : Int32 → Int32 → Int32 → Int32 → Option (Int32)) (H19 : ∀ (x0 : Int32) (x1 : Int32) (x2 : Int32) (x3 : Int32), JS X G 4 300 0 n0 (EM X G n0 4 300 (eR rvI σ M n)) (k19 x0 x1 x2 x3) (σ, M, n) 19 [(0, .inl x0), (1, .inl x1), (2, .inl x2), (3, .inl x3)] []) (x0 : Int32) (x1 : Int32) (x3 : Int32) : JS X G 4 300 0 n0 (EM X G n0 4 300 (eR rvI σ M n)) (fMd_begins_j48 k19 x0 x1 x3) (σ, M, n) 48 [(0, .inl x0), (1, .inl x1), (3, .inl x3)] [] := by
  unfold fMd_begins_j48
  refine s_blk C 26 1 [0, 1, 3] (pc' := 49) (lv' := [(0, .inl x0), (1, .inl x1), (3, .inl x3)]) (st' := [.inl 0]) rfl ?_
  exact wMd_begins_j49 hG C htab k19 H19 _ _ _ _
def fMd_begins_b19 (k19 : Int32 → Int32 → Int32 → Int32 → Option (Int32)) (x0 : Int32) (x1 : Int32) (x2 : Int32) (x3 : Int32) : Option (Int32) :=
  bdR (fMd_letters x1) fun v1 =>
  if v1 ≤ x3 then
    rZ x2 (some x2)
  else
    if x2 = 0 then
      fMd_begins_j48 k19 x0 x1 x3
    else
      bdR (fMd_letterOf x0 x3) fun v2 =>
      bdR (fMd_letterOf x1 x3) fun v3 =>
      if v2 = v3 then
        fMd_begins_j49 k19 x0 x1 x3 1
      else
        fMd_begins_j48 k19 x0 x1 x3
theorem wMd_begins_b19 {X : MC} {G : GE} {n0 : Nat} (hG : gH G = true) (C : CX X G RX12 cX12_begins pMd_begins 4 (some .boolean) n0) (htab : ∀ z ∈ X.2.2.2.2.2.2.2.2.exceptionTable.toList, False) {σ : Sg} {M : Mm} {n : Nat} (k19 : Int32 → Int32 → Int32 → Int32 → Option (Int32)) (H19 : ∀ (x0 : Int32) (x1 : Int32) (x2 : Int32) (x3 : Int32), JS X G 4 300 0 n0 (EM X G n0 4 300 (eR rvI σ M n)) (k19 x0 x1 x2 x3) (σ, M, n) 19 [(0, .inl x0), (1, .inl x1), (2, .inl x2), (3, .inl x3)] []) (x0 : Int32) (x1 : Int32) (x2 : Int32) (x3 : Int32) : JS X G 4 300 0 n0 (EM X G n0 4 300 (eR rvI σ M n)) (fMd_begins_b19 k19 x0 x1 x2 x3) (σ, M, n) 19 [(0, .inl x0), (1, .inl x1), (2, .inl x2), (3, .inl x3)] [] := by
  unfold fMd_begins_b19
  refine s_blk C 11 2 [0, 1, 2, 3] (pc' := 21) (lv' := [(0, .inl x0), (1, .inl x1), (2, .inl x2), (3, .inl x3)]) (st' := [.inl x1, .inl x3]) rfl ?_
  refine s_RI (CE_EM _ _ _ _ _ _) (st := [.inl x3]) (fun o ho => j_callS (As := [.inl x1]) (st := [.inl x3]) C 13 rfl mf_Md_letters ml_X12_136 rfl (by decide) (by decide) (Nat.le_refl _) rfl (cMd_letters (CX_tr C) hG σ M n x1 o ho)) (fun v1 => ?_)
  refine s_icge C 14 rfl (fun _ => ?_) (fun _ => ?_)
  · refine s_blk C 30 1 [] (pc' := 57) (lv' := []) (st' := [.inl x2]) rfl ?_
    exact s_zret C 31 rfl rfl
  refine s_blk C 15 1 [0, 1, 3] (pc' := 28) (lv' := [(0, .inl x0), (1, .inl x1), (3, .inl x3)]) (st' := [.inl x2]) rfl ?_
  refine s_ieq C 16 rfl (fun _ => ?_) (fun _ => ?_)
  · exact wMd_begins_j48 hG C htab k19 H19 _ _ _
  refine s_blk C 17 2 [0, 1, 3] (pc' := 33) (lv' := [(0, .inl x0), (1, .inl x1), (3, .inl x3)]) (st' := [.inl x3, .inl x0]) rfl ?_
  refine s_RI (CE_EM _ _ _ _ _ _) (st := []) (fun o ho => j_callS (As := [.inl x0, .inl x3]) (st := []) C 19 rfl mf_Md_letterOf ml_X12_140 rfl (by decide) (by decide) (Nat.le_refl _) rfl (cMd_letterOf (CX_tr C) hG σ M n x0 x3 o ho)) (fun v2 => ?_)
  refine s_blk C 20 2 [0, 1, 3] (pc' := 38) (lv' := [(0, .inl x0), (1, .inl x1), (3, .inl x3)]) (st' := [.inl x3, .inl x1, .inl v2]) rfl ?_
  refine s_RI (CE_EM _ _ _ _ _ _) (st := [.inl v2]) (fun o ho => j_callS (As := [.inl x1, .inl x3]) (st := [.inl v2]) C 22 rfl mf_Md_letterOf ml_X12_140 rfl (by decide) (by decide) (Nat.le_refl _) rfl (cMd_letterOf (CX_tr C) hG σ M n x1 x3 o ho)) (fun v3 => ?_)
  refine s_icne C 23 rfl (fun _ => ?_) (fun _ => ?_)
  · refine s_blk C 24 2 [0, 1, 3] (pc' := 49) (lv' := [(0, .inl x0), (1, .inl x1), (3, .inl x3)]) (st' := [.inl 1]) rfl ?_
    exact wMd_begins_j49 hG C htab k19 H19 _ _ _ _
  exact wMd_begins_j48 hG C htab k19 H19 _ _ _
def fMd_begins_l19 (fu : Nat) : Int32 → Int32 → Int32 → Int32 → Option (Int32) := Nat.rec (fun x0 x1 x2 x3 => none) (fun _ k => fMd_begins_b19 k) fu
theorem wMd_begins_l19 {X : MC} {G : GE} {n0 : Nat} (hG : gH G = true) (C : CX X G RX12 cX12_begins pMd_begins 4 (some .boolean) n0) (htab : ∀ z ∈ X.2.2.2.2.2.2.2.2.exceptionTable.toList, False) {σ : Sg} {M : Mm} {n : Nat} : ∀ (fu : Nat) (x0 : Int32) (x1 : Int32) (x2 : Int32) (x3 : Int32), JS X G 4 300 0 n0 (EM X G n0 4 300 (eR rvI σ M n)) (fMd_begins_l19 fu x0 x1 x2 x3) (σ, M, n) 19 [(0, .inl x0), (1, .inl x1), (2, .inl x2), (3, .inl x3)] [] := by
  intro fu
  induction fu with
  | zero => intro x0 x1 x2 x3; exact s_none
  | succ fu ih => intro x0 x1 x2 x3; exact wMd_begins_b19 hG C htab (fMd_begins_l19 fu) ih _ _ _ _
def fMd_begins_j16 (x0 : Int32) (x1 : Int32) (s0 : Int32) : Option (Int32) :=
  fMd_begins_l19 FU x0 x1 s0 0
theorem wMd_begins_j16 {X : MC} {G : GE} {n0 : Nat} (hG : gH G = true) (C : CX X G RX12 cX12_begins pMd_begins 4 (some .boolean) n0) (htab : ∀ z ∈ X.2.2.2.2.2.2.2.2.exceptionTable.toList, False) {σ : Sg} {M : Mm} {n : Nat} (x0 : Int32) (x1 : Int32) (s0 : Int32) : JS X G 4 300 0 n0 (EM X G n0 4 300 (eR rvI σ M n)) (fMd_begins_j16 x0 x1 s0) (σ, M, n) 16 [(0, .inl x0), (1, .inl x1)] [.inl s0] := by
  unfold fMd_begins_j16
  refine s_blk C 8 3 [0, 1, 2, 3] (pc' := 19) (lv' := [(0, .inl x0), (1, .inl x1), (2, .inl s0), (3, .inl 0)]) (st' := []) rfl ?_
  exact wMd_begins_l19 hG C htab FU _ _ _ _
def fMd_begins (x0 : Int32) (x1 : Int32) : Option (Int32) :=
  bdR (fMd_letters x1) fun v1 =>
  bdR (fMd_letters x0) fun v2 =>
  if v2 < v1 then
    fMd_begins_j16 x0 x1 0
  else
    fMd_begins_j16 x0 x1 1
theorem wMd_begins {X : MC} {G : GE} {n0 : Nat} (hG : gH G = true) (C : CX X G RX12 cX12_begins pMd_begins 4 (some .boolean) n0) (htab : ∀ z ∈ X.2.2.2.2.2.2.2.2.exceptionTable.toList, False) {σ : Sg} {M : Mm} {n : Nat} (x0 : Int32) (x1 : Int32) : JS X G 4 300 0 n0 (EM X G n0 4 300 (eR rvI σ M n)) (fMd_begins x0 x1) (σ, M, n) 0 [(0, .inl x0), (1, .inl x1)] [] := by
  unfold fMd_begins
  refine s_blk C 0 1 [0, 1] (pc' := 1) (lv' := [(0, .inl x0), (1, .inl x1)]) (st' := [.inl x1]) rfl ?_
  refine s_RI (CE_EM _ _ _ _ _ _) (st := []) (fun o ho => j_callS (As := [.inl x1]) (st := []) C 1 rfl mf_Md_letters ml_X12_136 rfl (by decide) (by decide) (Nat.le_refl _) rfl (cMd_letters (CX_tr C) hG σ M n x1 o ho)) (fun v1 => ?_)
  refine s_blk C 2 1 [0, 1] (pc' := 5) (lv' := [(0, .inl x0), (1, .inl x1)]) (st' := [.inl x0, .inl v1]) rfl ?_
  refine s_RI (CE_EM _ _ _ _ _ _) (st := [.inl v1]) (fun o ho => j_callS (As := [.inl x0]) (st := [.inl v1]) C 3 rfl mf_Md_letters ml_X12_136 rfl (by decide) (by decide) (Nat.le_refl _) rfl (cMd_letters (CX_tr C) hG σ M n x0 o ho)) (fun v2 => ?_)
  refine s_icgt C 4 rfl (fun _ => ?_) (fun _ => ?_)
  · refine s_blk C 7 1 [0, 1] (pc' := 16) (lv' := [(0, .inl x0), (1, .inl x1)]) (st' := [.inl 0]) rfl ?_
    exact wMd_begins_j16 hG C htab _ _ _
  refine s_blk C 5 2 [0, 1] (pc' := 16) (lv' := [(0, .inl x0), (1, .inl x1)]) (st' := [.inl 1]) rfl ?_
  exact wMd_begins_j16 hG C htab _ _ _
theorem cMd_begins {l : Launch} {G : GE} (htr : l.stackTraces = false) (hG : gH G = true) (σ : Sg) (M : Mm) (n : Nat) (x0 : Int32) (x1 : Int32) : ∀ o, fMd_begins x0 x1 = some o → MetX l G yX12_begins cX12_begins 4 (some .boolean) 4 300 [.inl x0, .inl x1] (σ, M, n) ((eR rvI σ M n) o) :=
  c_ofX (by decide) kMd_begins htr rfl rfl fun X _ _ C htab => wMd_begins hG C htab x0 x1
def pMd_latest : List BR := [(0, .iconst (-1), 1, -1, 1), (1, .istore_n 3, 1, 0, 2), (2, .bipush 40, 2, 40, 4), (4, .iload_n 1, 1, 0, 5), (5, .imul, 1, 0, 6), (6, .istore 4, 2, 0, 8), (8, .iload 4, 2, 0, 10), (10, .aload_n 0, 1, 0, 11), (11, .iload_n 1, 1, 0, 12), (12, .invokevirtual 219, 3, 0, 15), (15, .if_icmp .ge (27), 3, 0, 42), (18, .aload_n 0, 1, 0, 19), (19, .getfield 74, 3, 0, 22), (22, .iload 4, 2, 0, 24), (24, .iaload, 1, 0, 25), (25, .iload_n 2, 1, 0, 26), (26, .if_icmp .ne (8), 3, 0, 34), (29, .iload 4, 2, 0, 31), (31, .goto (4), 3, 0, 35), (34, .iload_n 3, 1, 0, 35), (35, .istore_n 3, 1, 0, 36), (36, .iinc 4 (1), 3, 1, 39), (39, .goto (-31), 3, 0, 8), (42, .iload_n 3, 1, 0, 43), (43, .ireturn, 1, 0, 44)]
theorem kMd_latest : bOK cX12_latest 5 pMd_latest = true := by decide +kernel
def fMd_latest_j35 (k8 : Int32 → Int32 → Int32 → Int32 → Sg → Option (Int32)) (x1 : Int32) (x2 : Int32) (x4 : Int32) (s0 : Int32) (σ : Sg) : Option (Int32) :=
  k8 x1 x2 s0 (x4 + 1) σ
theorem wMd_latest_j35 {X : MC} {G : GE} {n0 : Nat} (hG : gH G = true) (C : CX X G RX12 cX12_latest pMd_latest 5 (some .int) n0) (htab : ∀ z ∈ X.2.2.2.2.2.2.2.2.exceptionTable.toList, False) {σ : Sg} {M : Mm} {n : Nat} (k8 : Int32 → Int32 → Int32 → Int32 → Sg → Option (Int32)) (H8 : ∀ (x1 : Int32) (x2 : Int32) (x3 : Int32) (x4 : Int32), JS X G 5 300 0 n0 (EM X G n0 3 300 (eR rvI σ M n)) (k8 x1 x2 x3 x4 σ) (σ, M, n) 8 [(0, .inr (.inl (some (gM G)))), (1, .inl x1), (2, .inl x2), (3, .inl x3), (4, .inl x4)] []) (x1 : Int32) (x2 : Int32) (x4 : Int32) (s0 : Int32) : JS X G 5 300 0 n0 (EM X G n0 3 300 (eR rvI σ M n)) (fMd_latest_j35 k8 x1 x2 x4 s0 σ) (σ, M, n) 35 [(0, .inr (.inl (some (gM G)))), (1, .inl x1), (2, .inl x2), (4, .inl x4)] [.inl s0] := by
  unfold fMd_latest_j35
  refine s_blk C 20 3 [0, 1, 2, 3, 4] (pc' := 8) (lv' := [(0, .inr (.inl (some (gM G)))), (1, .inl x1), (2, .inl x2), (3, .inl s0), (4, .inl (x4 + 1))]) (st' := []) rfl ?_
  exact H8 _ _ _ _
def fMd_latest_b8 (k8 : Int32 → Int32 → Int32 → Int32 → Sg → Option (Int32)) (x1 : Int32) (x2 : Int32) (x3 : Int32) (x4 : Int32) (σ : Sg) : Option (Int32) :=
  bdR (fMd_endOf x1 σ) fun v1 =>
  if v1 ≤ x4 then
    some x3
  else
    mgA 28 x4 σ fun v2 =>
    if v2 = x2 then
      fMd_latest_j35 k8 x1 x2 x4 x4 σ
    else
      fMd_latest_j35 k8 x1 x2 x4 x3 σ
theorem wMd_latest_b8 {X : MC} {G : GE} {n0 : Nat} (hG : gH G = true) (C : CX X G RX12 cX12_latest pMd_latest 5 (some .int) n0) (htab : ∀ z ∈ X.2.2.2.2.2.2.2.2.exceptionTable.toList, False) {σ : Sg} {M : Mm} {n : Nat} (k8 : Int32 → Int32 → Int32 → Int32 → Sg → Option (Int32)) (H8 : ∀ (x1 : Int32) (x2 : Int32) (x3 : Int32) (x4 : Int32), JS X G 5 300 0 n0 (EM X G n0 3 300 (eR rvI σ M n)) (k8 x1 x2 x3 x4 σ) (σ, M, n) 8 [(0, .inr (.inl (some (gM G)))), (1, .inl x1), (2, .inl x2), (3, .inl x3), (4, .inl x4)] []) (x1 : Int32) (x2 : Int32) (x3 : Int32) (x4 : Int32) : JS X G 5 300 0 n0 (EM X G n0 3 300 (eR rvI σ M n)) (fMd_latest_b8 k8 x1 x2 x3 x4 σ) (σ, M, n) 8 [(0, .inr (.inl (some (gM G)))), (1, .inl x1), (2, .inl x2), (3, .inl x3), (4, .inl x4)] [] := by
  unfold fMd_latest_b8
  refine s_blk C 6 3 [0, 1, 2, 3, 4] (pc' := 12) (lv' := [(0, .inr (.inl (some (gM G)))), (1, .inl x1), (2, .inl x2), (3, .inl x3), (4, .inl x4)]) (st' := [.inl x1, .inr (.inl (some (gM G))), .inl x4]) rfl ?_
  refine s_RI (CE_EM _ _ _ _ _ _) (st := [.inl x4]) (fun o ho => j_callV (As := [.inl x1]) (st := [.inl x4]) (b := gM G) C 9 rfl mf_Md_endOf ml_X12_219 rfl (recv_M hG C) (by decide) (by decide) (Nat.le_refl _) rfl (cMd_endOf (CX_tr C) hG σ M n x1 o ho)) (fun v1 => ?_)
  refine s_icge C 10 rfl (fun _ => ?_) (fun _ => ?_)
  · refine s_blk C 23 1 [] (pc' := 43) (lv' := []) (st' := [.inl x3]) rfl ?_
    exact s_iret C 24 rfl rfl
  refine s_blk C 11 1 [0, 1, 2, 3, 4] (pc' := 19) (lv' := [(0, .inr (.inl (some (gM G)))), (1, .inl x1), (2, .inl x2), (3, .inl x3), (4, .inl x4)]) (st' := [.inr (.inl (some (gM G)))]) rfl ?_
  refine s_mR hG C 12 rfl 28 fl_X12_74 rfl ?_
  refine s_blk C 13 1 [0, 1, 2, 3, 4] (pc' := 24) (lv' := [(0, .inr (.inl (some (gM G)))), (1, .inl x1), (2, .inl x2), (3, .inl x3), (4, .inl x4)]) (st' := [.inl x4, .inr (.inl (some (gA G 28)))]) rfl ?_
  refine s_mldI hG C 14 rfl rfl rfl (fun v2 => ?_)
  refine s_blk C 15 1 [0, 1, 2, 3, 4] (pc' := 26) (lv' := [(0, .inr (.inl (some (gM G)))), (1, .inl x1), (2, .inl x2), (3, .inl x3), (4, .inl x4)]) (st' := [.inl x2, .inl v2]) rfl ?_
  refine s_icne C 16 rfl (fun _ => ?_) (fun _ => ?_)
  · refine s_blk C 17 2 [0, 1, 2, 4] (pc' := 35) (lv' := [(0, .inr (.inl (some (gM G)))), (1, .inl x1), (2, .inl x2), (4, .inl x4)]) (st' := [.inl x4]) rfl ?_
    exact wMd_latest_j35 hG C htab k8 H8 _ _ _ _
  refine s_blk C 19 1 [0, 1, 2, 4] (pc' := 35) (lv' := [(0, .inr (.inl (some (gM G)))), (1, .inl x1), (2, .inl x2), (4, .inl x4)]) (st' := [.inl x3]) rfl ?_
  exact wMd_latest_j35 hG C htab k8 H8 _ _ _ _
def fMd_latest_l8 (fu : Nat) : Int32 → Int32 → Int32 → Int32 → Sg → Option (Int32) := Nat.rec (fun x1 x2 x3 x4 σ => none) (fun _ k => fMd_latest_b8 k) fu
theorem wMd_latest_l8 {X : MC} {G : GE} {n0 : Nat} (hG : gH G = true) (C : CX X G RX12 cX12_latest pMd_latest 5 (some .int) n0) (htab : ∀ z ∈ X.2.2.2.2.2.2.2.2.exceptionTable.toList, False) {σ : Sg} {M : Mm} {n : Nat} : ∀ (fu : Nat) (x1 : Int32) (x2 : Int32) (x3 : Int32) (x4 : Int32), JS X G 5 300 0 n0 (EM X G n0 3 300 (eR rvI σ M n)) (fMd_latest_l8 fu x1 x2 x3 x4 σ) (σ, M, n) 8 [(0, .inr (.inl (some (gM G)))), (1, .inl x1), (2, .inl x2), (3, .inl x3), (4, .inl x4)] [] := by
  intro fu
  induction fu with
  | zero => intro x1 x2 x3 x4; exact s_none
  | succ fu ih => intro x1 x2 x3 x4; exact wMd_latest_b8 hG C htab (fMd_latest_l8 fu) ih _ _ _ _
def fMd_latest (x1 : Int32) (x2 : Int32) (σ : Sg) : Option (Int32) :=
  fMd_latest_l8 FU x1 x2 (-1) (40 * x1) σ
theorem wMd_latest {X : MC} {G : GE} {n0 : Nat} (hG : gH G = true) (C : CX X G RX12 cX12_latest pMd_latest 5 (some .int) n0) (htab : ∀ z ∈ X.2.2.2.2.2.2.2.2.exceptionTable.toList, False) {σ : Sg} {M : Mm} {n : Nat} (x1 : Int32) (x2 : Int32) : JS X G 5 300 0 n0 (EM X G n0 3 300 (eR rvI σ M n)) (fMd_latest x1 x2 σ) (σ, M, n) 0 [(0, .inr (.inl (some (gM G)))), (1, .inl x1), (2, .inl x2)] [] := by
  unfold fMd_latest
  refine s_blk C 0 6 [0, 1, 2, 3, 4] (pc' := 8) (lv' := [(0, .inr (.inl (some (gM G)))), (1, .inl x1), (2, .inl x2), (3, .inl (-1)), (4, .inl (40 * x1))]) (st' := []) rfl ?_
  exact wMd_latest_l8 hG C htab FU _ _ _ _
theorem cMd_latest {l : Launch} {G : GE} (htr : l.stackTraces = false) (hG : gH G = true) (σ : Sg) (M : Mm) (n : Nat) (x1 : Int32) (x2 : Int32) : ∀ o, fMd_latest x1 x2 σ = some o → MetX l G yX12_latest cX12_latest 5 (some .int) 3 300 [.inr (.inl (some (gM G))), .inl x1, .inl x2] (σ, M, n) ((eR rvI σ M n) o) :=
  c_ofX (by decide) kMd_latest htr rfl rfl fun X _ _ C htab => wMd_latest hG C htab x1 x2
def pMd_isLocked : List BR := [(0, .aload_n 0, 1, 0, 1), (1, .getfield 222, 3, 0, 4), (4, .aload_n 0, 1, 0, 5), (5, .getfield 83, 3, 0, 8), (8, .iload_n 1, 1, 0, 9), (9, .iaload, 1, 0, 10), (10, .if_icmp .gt (7), 3, 0, 17), (13, .iconst 1, 1, 1, 14), (14, .goto (4), 3, 0, 18), (17, .iconst 0, 1, 0, 18), (18, .ireturn, 1, 0, 19)]
theorem kMd_isLocked : bOK cX12_isLocked 2 pMd_isLocked = true := by decide +kernel
def fMd_isLocked (x1 : Int32) (σ : Sg) : Option (Int32) :=
  mgF 11 σ fun v1 =>
  mgA 31 x1 σ fun v2 =>
  if v2 < v1 then
    rZ 0 (some 0)
  else
    rZ 1 (some 1)
theorem wMd_isLocked {X : MC} {G : GE} {n0 : Nat} (hG : gH G = true) (C : CX X G RX12 cX12_isLocked pMd_isLocked 2 (some .boolean) n0) (htab : ∀ z ∈ X.2.2.2.2.2.2.2.2.exceptionTable.toList, False) {σ : Sg} {M : Mm} {n : Nat} (x1 : Int32) : JS X G 2 300 0 n0 (EM X G n0 2 300 (eR rvI σ M n)) (fMd_isLocked x1 σ) (σ, M, n) 0 [(0, .inr (.inl (some (gM G)))), (1, .inl x1)] [] := by
  unfold fMd_isLocked
  refine s_blk C 0 1 [0, 1] (pc' := 1) (lv' := [(0, .inr (.inl (some (gM G)))), (1, .inl x1)]) (st' := [.inr (.inl (some (gM G)))]) rfl ?_
  refine s_mF hG C 1 rfl fl_X12_222 rfl (fun v1 => ?_)
  refine s_blk C 2 1 [1] (pc' := 5) (lv' := [(1, .inl x1)]) (st' := [.inr (.inl (some (gM G))), .inl v1]) rfl ?_
  refine s_mR hG C 3 rfl 31 fl_X12_83 rfl ?_
  refine s_blk C 4 1 [] (pc' := 9) (lv' := []) (st' := [.inl x1, .inr (.inl (some (gA G 31))), .inl v1]) rfl ?_
  refine s_mldI hG C 5 rfl rfl rfl (fun v2 => ?_)
  refine s_icgt C 6 rfl (fun _ => ?_) (fun _ => ?_)
  · refine s_blk C 9 1 [] (pc' := 18) (lv' := []) (st' := [.inl 0]) rfl ?_
    exact s_zret C 10 rfl rfl
  refine s_blk C 7 2 [] (pc' := 18) (lv' := []) (st' := [.inl 1]) rfl ?_
  exact s_zret C 10 rfl rfl
theorem cMd_isLocked {l : Launch} {G : GE} (htr : l.stackTraces = false) (hG : gH G = true) (σ : Sg) (M : Mm) (n : Nat) (x1 : Int32) : ∀ o, fMd_isLocked x1 σ = some o → MetX l G yX12_isLocked cX12_isLocked 2 (some .boolean) 2 300 [.inr (.inl (some (gM G))), .inl x1] (σ, M, n) ((eR rvI σ M n) o) :=
  c_ofX (by decide) kMd_isLocked htr rfl rfl fun X _ _ C htab => wMd_isLocked hG C htab x1
def pMd_moves_0 : List BR := [(0, .aload_n 0, 1, 0, 1), (1, .getfield 71, 3, 0, 4), (4, .iload_n 2, 1, 0, 5), (5, .aload_n 0, 1, 0, 6), (6, .getfield 71, 3, 0, 9), (9, .iload_n 1, 1, 0, 10), (10, .iaload, 1, 0, 11), (11, .iastore, 1, 0, 12), (12, .aload_n 0, 1, 0, 13), (13, .getfield 74, 3, 0, 16), (16, .iload_n 2, 1, 0, 17), (17, .aload_n 0, 1, 0, 18), (18, .getfield 74, 3, 0, 21), (21, .iload_n 1, 1, 0, 22), (22, .iaload, 1, 0, 23), (23, .iastore, 1, 0, 24), (24, .aload_n 0, 1, 0, 25), (25, .getfield 77, 3, 0, 28), (28, .iload_n 2, 1, 0, 29), (29, .aload_n 0, 1, 0, 30), (30, .getfield 77, 3, 0, 33), (33, .iload_n 1, 1, 0, 34), (34, .iaload, 1, 0, 35), (35, .iastore, 1, 0, 36), (36, .aload_n 0, 1, 0, 37), (37, .getfield 80, 3, 0, 40), (40, .iload_n 2, 1, 0, 41), (41, .aload_n 0, 1, 0, 42), (42, .getfield 80, 3, 0, 45), (45, .iload_n 1, 1, 0, 46), (46, .iaload, 1, 0, 47), (47, .iastore, 1, 0, 48), (48, .aload_n 0, 1, 0, 49), (49, .getfield 83, 3, 0, 52), (52, .iload_n 2, 1, 0, 53), (53, .aload_n 0, 1, 0, 54), (54, .getfield 83, 3, 0, 57), (57, .iload_n 1, 1, 0, 58), (58, .iaload, 1, 0, 59), (59, .iastore, 1, 0, 60)]
theorem kMd_moves_0 : bOK cX12_moves 4 pMd_moves_0 = true := by decide +kernel
def pMd_moves_1 : List BR := [(60, .aload_n 0, 1, 0, 61), (61, .getfield 86, 3, 0, 64), (64, .iload_n 2, 1, 0, 65), (65, .aload_n 0, 1, 0, 66), (66, .getfield 86, 3, 0, 69), (69, .iload_n 1, 1, 0, 70), (70, .iaload, 1, 0, 71), (71, .iastore, 1, 0, 72), (72, .aload_n 0, 1, 0, 73), (73, .getfield 89, 3, 0, 76), (76, .iload_n 2, 1, 0, 77), (77, .aload_n 0, 1, 0, 78), (78, .getfield 89, 3, 0, 81), (81, .iload_n 1, 1, 0, 82), (82, .iaload, 1, 0, 83), (83, .iastore, 1, 0, 84), (84, .iconst 0, 1, 0, 85), (85, .istore_n 3, 1, 0, 86), (86, .iload_n 3, 1, 0, 87), (87, .aload_n 0, 1, 0, 88), (88, .getfield 89, 3, 0, 91), (91, .iload_n 1, 1, 0, 92), (92, .iaload, 1, 0, 93), (93, .if_icmp .ge (31), 3, 0, 124), (96, .aload_n 0, 1, 0, 97), (97, .getfield 92, 3, 0, 100), (100, .bipush 20, 2, 20, 102), (102, .iload_n 2, 1, 0, 103), (103, .imul, 1, 0, 104), (104, .iload_n 3, 1, 0, 105), (105, .iadd, 1, 0, 106), (106, .aload_n 0, 1, 0, 107), (107, .getfield 92, 3, 0, 110), (110, .bipush 20, 2, 20, 112), (112, .iload_n 1, 1, 0, 113), (113, .imul, 1, 0, 114), (114, .iload_n 3, 1, 0, 115), (115, .iadd, 1, 0, 116), (116, .iaload, 1, 0, 117), (117, .iastore, 1, 0, 118)]
theorem kMd_moves_1 : bOK cX12_moves 4 pMd_moves_1 = true := by decide +kernel
def pMd_moves_2 : List BR := [(118, .iinc 3 (1), 3, 1, 121), (121, .goto (-35), 3, 0, 86), (124, .return_, 1, 0, 125)]
theorem kMd_moves_2 : bOK cX12_moves 4 pMd_moves_2 = true := by decide +kernel
def pMd_moves : List BR := (pMd_moves_0 ++ (pMd_moves_1 ++ pMd_moves_2))
theorem kMd_moves : bOK cX12_moves 4 pMd_moves = true := (bOK_app kMd_moves_0 (bOK_app kMd_moves_1 kMd_moves_2))
def fMd_moves_b86 (k86 : Int32 → Int32 → Int32 → Sg → Option (Unit × Sg)) (x1 : Int32) (x2 : Int32) (x3 : Int32) (σ : Sg) : Option (Unit × Sg) :=
  mgA 33 x1 σ fun v1 =>
  if v1 ≤ x3 then
    some ((), σ)
  else
    mgA 34 ((20 * x1) + x3) σ fun v2 =>
    mpA 34 ((20 * x2) + x3) v2 σ fun σ3 =>
    k86 x1 x2 (x3 + 1) σ3
theorem wMd_moves_b86 {X : MC} {G : GE} {n0 : Nat} (hG : gH G = true) (C : CX X G RX12 cX12_moves pMd_moves 4 none n0) (htab : ∀ z ∈ X.2.2.2.2.2.2.2.2.exceptionTable.toList, False) {M : Mm} {n : Nat} (k86 : Int32 → Int32 → Int32 → Sg → Option (Unit × Sg)) (H86 : ∀ (x1 : Int32) (x2 : Int32) (x3 : Int32) (σ : Sg), JS X G 4 300 0 n0 (EM X G n0 2 300 (eS rvU M n)) (k86 x1 x2 x3 σ) (σ, M, n) 86 [(0, .inr (.inl (some (gM G)))), (1, .inl x1), (2, .inl x2), (3, .inl x3)] []) (x1 : Int32) (x2 : Int32) (x3 : Int32) (σ : Sg) : JS X G 4 300 0 n0 (EM X G n0 2 300 (eS rvU M n)) (fMd_moves_b86 k86 x1 x2 x3 σ) (σ, M, n) 86 [(0, .inr (.inl (some (gM G)))), (1, .inl x1), (2, .inl x2), (3, .inl x3)] [] := by
  unfold fMd_moves_b86
  refine s_blk C 58 2 [0, 1, 2, 3] (pc' := 88) (lv' := [(0, .inr (.inl (some (gM G)))), (1, .inl x1), (2, .inl x2), (3, .inl x3)]) (st' := [.inr (.inl (some (gM G))), .inl x3]) rfl ?_
  refine s_mR hG C 60 rfl 33 fl_X12_89 rfl ?_
  refine s_blk C 61 1 [0, 1, 2, 3] (pc' := 92) (lv' := [(0, .inr (.inl (some (gM G)))), (1, .inl x1), (2, .inl x2), (3, .inl x3)]) (st' := [.inl x1, .inr (.inl (some (gA G 33))), .inl x3]) rfl ?_
  refine s_mldI hG C 62 rfl rfl rfl (fun v1 => ?_)
  refine s_icge C 63 rfl (fun _ => ?_) (fun _ => ?_)
  · exact s_vret C 82 rfl rfl
  refine s_blk C 64 1 [0, 1, 2, 3] (pc' := 97) (lv' := [(0, .inr (.inl (some (gM G)))), (1, .inl x1), (2, .inl x2), (3, .inl x3)]) (st' := [.inr (.inl (some (gM G)))]) rfl ?_
  refine s_mR hG C 65 rfl 34 fl_X12_92 rfl ?_
  refine s_blk C 66 6 [0, 1, 2, 3] (pc' := 107) (lv' := [(0, .inr (.inl (some (gM G)))), (1, .inl x1), (2, .inl x2), (3, .inl x3)]) (st' := [.inr (.inl (some (gM G))), .inl ((20 * x2) + x3), .inr (.inl (some (gA G 34)))]) rfl ?_
  refine s_mR hG C 72 rfl 34 fl_X12_92 rfl ?_
  refine s_blk C 73 5 [0, 1, 2, 3] (pc' := 116) (lv' := [(0, .inr (.inl (some (gM G)))), (1, .inl x1), (2, .inl x2), (3, .inl x3)]) (st' := [.inl ((20 * x1) + x3), .inr (.inl (some (gA G 34))), .inl ((20 * x2) + x3), .inr (.inl (some (gA G 34)))]) rfl ?_
  refine s_mldI hG C 78 rfl rfl rfl (fun v2 => ?_)
  refine s_mstI hG C 79 rfl rfl rfl (fun σ3 _ => ?_)
  refine s_blk C 80 2 [0, 1, 2, 3] (pc' := 86) (lv' := [(0, .inr (.inl (some (gM G)))), (1, .inl x1), (2, .inl x2), (3, .inl (x3 + 1))]) (st' := []) rfl ?_
  exact H86 _ _ _ _
def fMd_moves_l86 (fu : Nat) : Int32 → Int32 → Int32 → Sg → Option (Unit × Sg) := Nat.rec (fun x1 x2 x3 σ => none) (fun _ k => fMd_moves_b86 k) fu
theorem wMd_moves_l86 {X : MC} {G : GE} {n0 : Nat} (hG : gH G = true) (C : CX X G RX12 cX12_moves pMd_moves 4 none n0) (htab : ∀ z ∈ X.2.2.2.2.2.2.2.2.exceptionTable.toList, False) {M : Mm} {n : Nat} : ∀ (fu : Nat) (x1 : Int32) (x2 : Int32) (x3 : Int32) (σ : Sg), JS X G 4 300 0 n0 (EM X G n0 2 300 (eS rvU M n)) (fMd_moves_l86 fu x1 x2 x3 σ) (σ, M, n) 86 [(0, .inr (.inl (some (gM G)))), (1, .inl x1), (2, .inl x2), (3, .inl x3)] [] := by
  intro fu
  induction fu with
  | zero => intro x1 x2 x3 σ; exact s_none
  | succ fu ih => intro x1 x2 x3 σ; exact wMd_moves_b86 hG C htab (fMd_moves_l86 fu) ih _ _ _ _
def fMd_moves (x1 : Int32) (x2 : Int32) (σ : Sg) : Option (Unit × Sg) :=
  mgA 27 x1 σ fun v1 =>
  mpA 27 x2 v1 σ fun σ2 =>
  mgA 28 x1 σ2 fun v3 =>
  mpA 28 x2 v3 σ2 fun σ4 =>
  mgA 29 x1 σ4 fun v5 =>
  mpA 29 x2 v5 σ4 fun σ6 =>
  mgA 30 x1 σ6 fun v7 =>
  mpA 30 x2 v7 σ6 fun σ8 =>
  mgA 31 x1 σ8 fun v9 =>
  mpA 31 x2 v9 σ8 fun σ10 =>
  mgA 32 x1 σ10 fun v11 =>
  mpA 32 x2 v11 σ10 fun σ12 =>
  mgA 33 x1 σ12 fun v13 =>
  mpA 33 x2 v13 σ12 fun σ14 =>
  fMd_moves_l86 FU x1 x2 0 σ14
theorem wMd_moves {X : MC} {G : GE} {n0 : Nat} (hG : gH G = true) (C : CX X G RX12 cX12_moves pMd_moves 4 none n0) (htab : ∀ z ∈ X.2.2.2.2.2.2.2.2.exceptionTable.toList, False) {M : Mm} {n : Nat} (x1 : Int32) (x2 : Int32) (σ : Sg) : JS X G 4 300 0 n0 (EM X G n0 2 300 (eS rvU M n)) (fMd_moves x1 x2 σ) (σ, M, n) 0 [(0, .inr (.inl (some (gM G)))), (1, .inl x1), (2, .inl x2)] [] := by
  unfold fMd_moves
  refine s_blk C 0 1 [0, 1, 2] (pc' := 1) (lv' := [(0, .inr (.inl (some (gM G)))), (1, .inl x1), (2, .inl x2)]) (st' := [.inr (.inl (some (gM G)))]) rfl ?_
  refine s_mR hG C 1 rfl 27 fl_X12_71 rfl ?_
  refine s_blk C 2 2 [0, 1, 2] (pc' := 6) (lv' := [(0, .inr (.inl (some (gM G)))), (1, .inl x1), (2, .inl x2)]) (st' := [.inr (.inl (some (gM G))), .inl x2, .inr (.inl (some (gA G 27)))]) rfl ?_
  refine s_mR hG C 4 rfl 27 fl_X12_71 rfl ?_
  refine s_blk C 5 1 [0, 1, 2] (pc' := 10) (lv' := [(0, .inr (.inl (some (gM G)))), (1, .inl x1), (2, .inl x2)]) (st' := [.inl x1, .inr (.inl (some (gA G 27))), .inl x2, .inr (.inl (some (gA G 27)))]) rfl ?_
  refine s_mldI hG C 6 rfl rfl rfl (fun v1 => ?_)
  refine s_mstI hG C 7 rfl rfl rfl (fun σ2 _ => ?_)
  refine s_blk C 8 1 [0, 1, 2] (pc' := 13) (lv' := [(0, .inr (.inl (some (gM G)))), (1, .inl x1), (2, .inl x2)]) (st' := [.inr (.inl (some (gM G)))]) rfl ?_
  refine s_mR hG C 9 rfl 28 fl_X12_74 rfl ?_
  refine s_blk C 10 2 [0, 1, 2] (pc' := 18) (lv' := [(0, .inr (.inl (some (gM G)))), (1, .inl x1), (2, .inl x2)]) (st' := [.inr (.inl (some (gM G))), .inl x2, .inr (.inl (some (gA G 28)))]) rfl ?_
  refine s_mR hG C 12 rfl 28 fl_X12_74 rfl ?_
  refine s_blk C 13 1 [0, 1, 2] (pc' := 22) (lv' := [(0, .inr (.inl (some (gM G)))), (1, .inl x1), (2, .inl x2)]) (st' := [.inl x1, .inr (.inl (some (gA G 28))), .inl x2, .inr (.inl (some (gA G 28)))]) rfl ?_
  refine s_mldI hG C 14 rfl rfl rfl (fun v3 => ?_)
  refine s_mstI hG C 15 rfl rfl rfl (fun σ4 _ => ?_)
  refine s_blk C 16 1 [0, 1, 2] (pc' := 25) (lv' := [(0, .inr (.inl (some (gM G)))), (1, .inl x1), (2, .inl x2)]) (st' := [.inr (.inl (some (gM G)))]) rfl ?_
  refine s_mR hG C 17 rfl 29 fl_X12_77 rfl ?_
  refine s_blk C 18 2 [0, 1, 2] (pc' := 30) (lv' := [(0, .inr (.inl (some (gM G)))), (1, .inl x1), (2, .inl x2)]) (st' := [.inr (.inl (some (gM G))), .inl x2, .inr (.inl (some (gA G 29)))]) rfl ?_
  refine s_mR hG C 20 rfl 29 fl_X12_77 rfl ?_
  refine s_blk C 21 1 [0, 1, 2] (pc' := 34) (lv' := [(0, .inr (.inl (some (gM G)))), (1, .inl x1), (2, .inl x2)]) (st' := [.inl x1, .inr (.inl (some (gA G 29))), .inl x2, .inr (.inl (some (gA G 29)))]) rfl ?_
  refine s_mldI hG C 22 rfl rfl rfl (fun v5 => ?_)
  refine s_mstI hG C 23 rfl rfl rfl (fun σ6 _ => ?_)
  refine s_blk C 24 1 [0, 1, 2] (pc' := 37) (lv' := [(0, .inr (.inl (some (gM G)))), (1, .inl x1), (2, .inl x2)]) (st' := [.inr (.inl (some (gM G)))]) rfl ?_
  refine s_mR hG C 25 rfl 30 fl_X12_80 rfl ?_
  refine s_blk C 26 2 [0, 1, 2] (pc' := 42) (lv' := [(0, .inr (.inl (some (gM G)))), (1, .inl x1), (2, .inl x2)]) (st' := [.inr (.inl (some (gM G))), .inl x2, .inr (.inl (some (gA G 30)))]) rfl ?_
  refine s_mR hG C 28 rfl 30 fl_X12_80 rfl ?_
  refine s_blk C 29 1 [0, 1, 2] (pc' := 46) (lv' := [(0, .inr (.inl (some (gM G)))), (1, .inl x1), (2, .inl x2)]) (st' := [.inl x1, .inr (.inl (some (gA G 30))), .inl x2, .inr (.inl (some (gA G 30)))]) rfl ?_
  refine s_mldI hG C 30 rfl rfl rfl (fun v7 => ?_)
  refine s_mstI hG C 31 rfl rfl rfl (fun σ8 _ => ?_)
  refine s_blk C 32 1 [0, 1, 2] (pc' := 49) (lv' := [(0, .inr (.inl (some (gM G)))), (1, .inl x1), (2, .inl x2)]) (st' := [.inr (.inl (some (gM G)))]) rfl ?_
  refine s_mR hG C 33 rfl 31 fl_X12_83 rfl ?_
  refine s_blk C 34 2 [0, 1, 2] (pc' := 54) (lv' := [(0, .inr (.inl (some (gM G)))), (1, .inl x1), (2, .inl x2)]) (st' := [.inr (.inl (some (gM G))), .inl x2, .inr (.inl (some (gA G 31)))]) rfl ?_
  refine s_mR hG C 36 rfl 31 fl_X12_83 rfl ?_
  refine s_blk C 37 1 [0, 1, 2] (pc' := 58) (lv' := [(0, .inr (.inl (some (gM G)))), (1, .inl x1), (2, .inl x2)]) (st' := [.inl x1, .inr (.inl (some (gA G 31))), .inl x2, .inr (.inl (some (gA G 31)))]) rfl ?_
  refine s_mldI hG C 38 rfl rfl rfl (fun v9 => ?_)
  refine s_mstI hG C 39 rfl rfl rfl (fun σ10 _ => ?_)
  refine s_blk C 40 1 [0, 1, 2] (pc' := 61) (lv' := [(0, .inr (.inl (some (gM G)))), (1, .inl x1), (2, .inl x2)]) (st' := [.inr (.inl (some (gM G)))]) rfl ?_
  refine s_mR hG C 41 rfl 32 fl_X12_86 rfl ?_
  refine s_blk C 42 2 [0, 1, 2] (pc' := 66) (lv' := [(0, .inr (.inl (some (gM G)))), (1, .inl x1), (2, .inl x2)]) (st' := [.inr (.inl (some (gM G))), .inl x2, .inr (.inl (some (gA G 32)))]) rfl ?_
  refine s_mR hG C 44 rfl 32 fl_X12_86 rfl ?_
  refine s_blk C 45 1 [0, 1, 2] (pc' := 70) (lv' := [(0, .inr (.inl (some (gM G)))), (1, .inl x1), (2, .inl x2)]) (st' := [.inl x1, .inr (.inl (some (gA G 32))), .inl x2, .inr (.inl (some (gA G 32)))]) rfl ?_
  refine s_mldI hG C 46 rfl rfl rfl (fun v11 => ?_)
  refine s_mstI hG C 47 rfl rfl rfl (fun σ12 _ => ?_)
  refine s_blk C 48 1 [0, 1, 2] (pc' := 73) (lv' := [(0, .inr (.inl (some (gM G)))), (1, .inl x1), (2, .inl x2)]) (st' := [.inr (.inl (some (gM G)))]) rfl ?_
  refine s_mR hG C 49 rfl 33 fl_X12_89 rfl ?_
  refine s_blk C 50 2 [0, 1, 2] (pc' := 78) (lv' := [(0, .inr (.inl (some (gM G)))), (1, .inl x1), (2, .inl x2)]) (st' := [.inr (.inl (some (gM G))), .inl x2, .inr (.inl (some (gA G 33)))]) rfl ?_
  refine s_mR hG C 52 rfl 33 fl_X12_89 rfl ?_
  refine s_blk C 53 1 [0, 1, 2] (pc' := 82) (lv' := [(0, .inr (.inl (some (gM G)))), (1, .inl x1), (2, .inl x2)]) (st' := [.inl x1, .inr (.inl (some (gA G 33))), .inl x2, .inr (.inl (some (gA G 33)))]) rfl ?_
  refine s_mldI hG C 54 rfl rfl rfl (fun v13 => ?_)
  refine s_mstI hG C 55 rfl rfl rfl (fun σ14 _ => ?_)
  refine s_blk C 56 2 [0, 1, 2, 3] (pc' := 86) (lv' := [(0, .inr (.inl (some (gM G)))), (1, .inl x1), (2, .inl x2), (3, .inl 0)]) (st' := []) rfl ?_
  exact wMd_moves_l86 hG C htab FU _ _ _ _
theorem cMd_moves {l : Launch} {G : GE} (htr : l.stackTraces = false) (hG : gH G = true) (σ : Sg) (M : Mm) (n : Nat) (x1 : Int32) (x2 : Int32) : ∀ o, fMd_moves x1 x2 σ = some o → MetX l G yX12_moves cX12_moves 4 none 2 300 [.inr (.inl (some (gM G))), .inl x1, .inl x2] (σ, M, n) ((eS rvU M n) o) :=
  c_ofX (by decide) kMd_moves htr rfl rfl fun X _ _ C htab => wMd_moves hG C htab x1 x2 _

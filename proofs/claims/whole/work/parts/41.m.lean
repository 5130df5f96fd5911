def pMd_isIn : List BR := [(0, .iload_n 0, 1, 0, 1), (1, .iload_n 1, 1, 0, 2), (2, .if_icmp .lt (12), 3, 0, 14), (5, .iload_n 0, 1, 0, 6), (6, .iload_n 2, 1, 0, 7), (7, .if_icmp .gt (7), 3, 0, 14), (10, .iconst 1, 1, 1, 11), (11, .goto (4), 3, 0, 15), (14, .iconst 0, 1, 0, 15), (15, .ireturn, 1, 0, 16)]
theorem kMd_isIn : bOK cX12_isIn 3 pMd_isIn = true := by decide +kernel
def fMd_isIn (x0 : Int32) (x1 : Int32) (x2 : Int32) : Option (Int32) :=
  if x0 < x1 then
    rZ 0 (some 0)
  else
    if x2 < x0 then
      rZ 0 (some 0)
    else
      rZ 1 (some 1)
theorem wMd_isIn {X : MC} {G : GE} {n0 : Nat} (hG : gH G = true) (C : CX X G RX12 cX12_isIn pMd_isIn 3 (some .boolean) n0) (htab : ∀ z ∈ X.2.2.2.2.2.2.2.2.exceptionTable.toList, False) {σ : Sg} {M : Mm} {n : Nat} (x0 : Int32) (x1 : Int32) (x2 : Int32) : JS X G 3 300 0 n0 (EM X G n0 2 300 (eR rvI σ M n)) (fMd_isIn x0 x1 x2) (σ, M, n) 0 [(0, .inl x0), (1, .inl x1), (2, .inl x2)] [] := by
  unfold fMd_isIn
  refine s_blk C 0 2 [0, 2] (pc' := 2) (lv' := [(0, .inl x0), (2, .inl x2)]) (st' := [.inl x1, .inl x0]) rfl ?_
  refine s_iclt C 2 rfl (fun _ => ?_) (fun _ => ?_)
  · refine s_blk C 8 1 [] (pc' := 15) (lv' := []) (st' := [.inl 0]) rfl ?_
    exact s_zret C 9 rfl rfl
  refine s_blk C 3 2 [] (pc' := 7) (lv' := []) (st' := [.inl x2, .inl x0]) rfl ?_
  refine s_icgt C 5 rfl (fun _ => ?_) (fun _ => ?_)
  · refine s_blk C 8 1 [] (pc' := 15) (lv' := []) (st' := [.inl 0]) rfl ?_
    exact s_zret C 9 rfl rfl
  refine s_blk C 6 2 [] (pc' := 15) (lv' := []) (st' := [.inl 1]) rfl ?_
  exact s_zret C 9 rfl rfl
theorem cMd_isIn {l : Launch} {G : GE} (htr : l.stackTraces = false) (hG : gH G = true) (σ : Sg) (M : Mm) (n : Nat) (x0 : Int32) (x1 : Int32) (x2 : Int32) : ∀ o, fMd_isIn x0 x1 x2 = some o → MetX l G yX12_isIn cX12_isIn 3 (some .boolean) 2 300 [.inl x0, .inl x1, .inl x2] (σ, M, n) ((eR rvI σ M n) o) :=
  c_ofX (by decide) kMd_isIn htr rfl rfl fun X _ _ C htab => wMd_isIn hG C htab x0 x1 x2
def pMd_isRegion : List BR := [(0, .iload_n 0, 1, 0, 1), (1, .iconst 0, 1, 0, 2), (2, .iconst 1, 1, 1, 3), (3, .invokestatic 132, 3, 0, 6), (6, .ireturn, 1, 0, 7)]
theorem kMd_isRegion : bOK cX12_isRegion 1 pMd_isRegion = true := by decide +kernel
def fMd_isRegion (x0 : Int32) : Option (Int32) :=
  bdR (fMd_isIn x0 0 1) fun v1 =>
  rZ v1 (some v1)
theorem wMd_isRegion {X : MC} {G : GE} {n0 : Nat} (hG : gH G = true) (C : CX X G RX12 cX12_isRegion pMd_isRegion 1 (some .boolean) n0) (htab : ∀ z ∈ X.2.2.2.2.2.2.2.2.exceptionTable.toList, False) {σ : Sg} {M : Mm} {n : Nat} (x0 : Int32) : JS X G 1 300 0 n0 (EM X G n0 3 300 (eR rvI σ M n)) (fMd_isRegion x0) (σ, M, n) 0 [(0, .inl x0)] [] := by
  unfold fMd_isRegion
  refine s_blk C 0 3 [] (pc' := 3) (lv' := []) (st' := [.inl 1, .inl 0, .inl x0]) rfl ?_
  refine s_RI (CE_EM _ _ _ _ _ _) (st := []) (fun o ho => j_callS (As := [.inl x0, .inl 0, .inl 1]) (st := []) C 3 rfl mf_Md_isIn ml_X12_132 rfl (by decide) (by decide) (Nat.le_refl _) rfl (cMd_isIn (CX_tr C) hG σ M n x0 0 1 o ho)) (fun v1 => ?_)
  exact s_zret C 4 rfl rfl
theorem cMd_isRegion {l : Launch} {G : GE} (htr : l.stackTraces = false) (hG : gH G = true) (σ : Sg) (M : Mm) (n : Nat) (x0 : Int32) : ∀ o, fMd_isRegion x0 = some o → MetX l G yX12_isRegion cX12_isRegion 1 (some .boolean) 3 300 [.inl x0] (σ, M, n) ((eR rvI σ M n) o) :=
  c_ofX (by decide) kMd_isRegion htr rfl rfl fun X _ _ C htab => wMd_isRegion hG C htab x0
def pMd_letters : List BR := [(0, .iconst 0, 1, 0, 1), (1, .istore_n 1, 1, 0, 2), (2, .iload_n 0, 1, 0, 3), (3, .ifCond .le (7), 3, 0, 10), (6, .iconst 1, 1, 1, 7), (7, .goto (4), 3, 0, 11), (10, .iconst 0, 1, 0, 11), (11, .istore_n 2, 1, 0, 12), (12, .iload_n 0, 1, 0, 13), (13, .istore_n 3, 1, 0, 14), (14, .iload_n 3, 1, 0, 15), (15, .ifCond .le (29), 3, 0, 44), (18, .iload_n 2, 1, 0, 19), (19, .ifCond .eq (25), 3, 0, 44), (22, .iload_n 3, 1, 0, 23), (23, .iconst 5, 1, 5, 24), (24, .irem, 1, 0, 25), (25, .ifCond .le (7), 3, 0, 32), (28, .iconst 1, 1, 1, 29), (29, .goto (4), 3, 0, 33), (32, .iconst 0, 1, 0, 33), (33, .istore_n 2, 1, 0, 34), (34, .iinc 1 (1), 3, 1, 37), (37, .iload_n 3, 1, 0, 38), (38, .iconst 5, 1, 5, 39), (39, .idiv, 1, 0, 40), (40, .istore_n 3, 1, 0, 41), (41, .goto (-27), 3, 0, 14), (44, .iload_n 2, 1, 0, 45), (45, .ifCond .eq (12), 3, 0, 57), (48, .iload_n 1, 1, 0, 49), (49, .iconst 4, 1, 4, 50), (50, .if_icmp .ge (7), 3, 0, 57), (53, .iload_n 1, 1, 0, 54), (54, .goto (4), 3, 0, 58), (57, .iconst 0, 1, 0, 58), (58, .ireturn, 1, 0, 59)]
theorem kMd_letters : bOK cX12_letters 4 pMd_letters = true := by decide +kernel
def fMd_letters_j44 (x1 : Int32) (x2 : Int32) : Option (Int32) :=
  if x2 = 0 then
    some 0
  else
    if 4 ≤ x1 then
      some 0
    else
      some x1
theorem wMd_letters_j44 {X : MC} {G : GE} {n0 : Nat} (hG : gH G = true) (C : CX X G RX12 cX12_letters pMd_letters 4 (some .int) n0) (htab : ∀ z ∈ X.2.2.2.2.2.2.2.2.exceptionTable.toList, False) {σ : Sg} {M : Mm} {n : Nat} (x1 : Int32) (x2 : Int32) : JS X G 4 300 0 n0 (EM X G n0 2 300 (eR rvI σ M n)) (fMd_letters_j44 x1 x2) (σ, M, n) 44 [(1, .inl x1), (2, .inl x2)] [] := by
  unfold fMd_letters_j44
  refine s_blk C 28 1 [1] (pc' := 45) (lv' := [(1, .inl x1)]) (st' := [.inl x2]) rfl ?_
  refine s_ieq C 29 rfl (fun _ => ?_) (fun _ => ?_)
  · refine s_blk C 35 1 [] (pc' := 58) (lv' := []) (st' := [.inl 0]) rfl ?_
    exact s_iret C 36 rfl rfl
  refine s_blk C 30 2 [1] (pc' := 50) (lv' := [(1, .inl x1)]) (st' := [.inl 4, .inl x1]) rfl ?_
  refine s_icge C 32 rfl (fun _ => ?_) (fun _ => ?_)
  · refine s_blk C 35 1 [] (pc' := 58) (lv' := []) (st' := [.inl 0]) rfl ?_
    exact s_iret C 36 rfl rfl
  refine s_blk C 33 2 [] (pc' := 58) (lv' := []) (st' := [.inl x1]) rfl ?_
  exact s_iret C 36 rfl rfl
def fMd_letters_j33 (k14 : Int32 → Int32 → Int32 → Option (Int32)) (x1 : Int32) (x3 : Int32) (s0 : Int32) : Option (Int32) :=
  k14 (x1 + 1) s0 (x3 / 5)
theorem wMd_letters_j33 {X : MC} {G : GE} {n0 : Nat} (hG : gH G = true) (C : CX X G RX12 cX12_letters pMd_letters 4 (some .int) n0) (htab : ∀ z ∈ X.2.2.2.2.2.2.2.2.exceptionTable.toList, False) {σ : Sg} {M : Mm} {n : Nat} (k14 : Int32 → Int32 → Int32 → Option (Int32)) (H14 : ∀ (x1 : Int32) (x2 : Int32) (x3 : Int32), JS X G 4 300 0 n0 (EM X G n0 2 300 (eR rvI σ M n)) (k14 x1 x2 x3) (σ, M, n) 14 [(1, .inl x1), (2, .inl x2), (3, .inl x3)] []) (x1 : Int32) (x3 : Int32) (s0 : Int32) : JS X G 4 300 0 n0 (EM X G n0 2 300 (eR rvI σ M n)) (fMd_letters_j33 k14 x1 x3 s0) (σ, M, n) 33 [(1, .inl x1), (3, .inl x3)] [.inl s0] := by
  unfold fMd_letters_j33
  refine s_blk C 21 4 [1, 2] (pc' := 39) (lv' := [(1, .inl (x1 + 1)), (2, .inl s0)]) (st' := [.inl 5, .inl x3]) rfl ?_
  refine s_idiv C 25 rfl (by decide) ?_
  refine s_blk C 26 2 [1, 2, 3] (pc' := 14) (lv' := [(1, .inl (x1 + 1)), (2, .inl s0), (3, .inl (x3 / 5))]) (st' := []) rfl ?_
  exact H14 _ _ _
def fMd_letters_b14 (k14 : Int32 → Int32 → Int32 → Option (Int32)) (x1 : Int32) (x2 : Int32) (x3 : Int32) : Option (Int32) :=
  if x3 ≤ 0 then
    fMd_letters_j44 x1 x2
  else
    if x2 = 0 then
      fMd_letters_j44 x1 x2
    else
      if (x3 - x3 / 5 * 5) ≤ 0 then
        fMd_letters_j33 k14 x1 x3 0
      else
        fMd_letters_j33 k14 x1 x3 1
theorem wMd_letters_b14 {X : MC} {G : GE} {n0 : Nat} (hG : gH G = true) (C : CX X G RX12 cX12_letters pMd_letters 4 (some .int) n0) (htab : ∀ z ∈ X.2.2.2.2.2.2.2.2.exceptionTable.toList, False) {σ : Sg} {M : Mm} {n : Nat} (k14 : Int32 → Int32 → Int32 → Option (Int32)) (H14 : ∀ (x1 : Int32) (x2 : Int32) (x3 : Int32), JS X G 4 300 0 n0 (EM X G n0 2 300 (eR rvI σ M n)) (k14 x1 x2 x3) (σ, M, n) 14 [(1, .inl x1), (2, .inl x2), (3, .inl x3)] []) (x1 : Int32) (x2 : Int32) (x3 : Int32) : JS X G 4 300 0 n0 (EM X G n0 2 300 (eR rvI σ M n)) (fMd_letters_b14 k14 x1 x2 x3) (σ, M, n) 14 [(1, .inl x1), (2, .inl x2), (3, .inl x3)] [] := by
  unfold fMd_letters_b14
  refine s_blk C 10 1 [1, 2, 3] (pc' := 15) (lv' := [(1, .inl x1), (2, .inl x2), (3, .inl x3)]) (st' := [.inl x3]) rfl ?_
  refine s_ile C 11 rfl (fun _ => ?_) (fun _ => ?_)
  · refine s_blk C 0 0 [1, 2] (pc' := 44) (lv' := [(1, .inl x1), (2, .inl x2)]) (st' := []) rfl ?_
    exact wMd_letters_j44 hG C htab _ _
  refine s_blk C 12 1 [1, 2, 3] (pc' := 19) (lv' := [(1, .inl x1), (2, .inl x2), (3, .inl x3)]) (st' := [.inl x2]) rfl ?_
  refine s_ieq C 13 rfl (fun _ => ?_) (fun _ => ?_)
  · refine s_blk C 0 0 [1, 2] (pc' := 44) (lv' := [(1, .inl x1), (2, .inl x2)]) (st' := []) rfl ?_
    exact wMd_letters_j44 hG C htab _ _
  refine s_blk C 14 2 [1, 3] (pc' := 24) (lv' := [(1, .inl x1), (3, .inl x3)]) (st' := [.inl 5, .inl x3]) rfl ?_
  refine s_irem C 16 rfl (by decide) ?_
  refine s_ile C 17 rfl (fun _ => ?_) (fun _ => ?_)
  · refine s_blk C 20 1 [1, 3] (pc' := 33) (lv' := [(1, .inl x1), (3, .inl x3)]) (st' := [.inl 0]) rfl ?_
    exact wMd_letters_j33 hG C htab k14 H14 _ _ _
  refine s_blk C 18 2 [1, 3] (pc' := 33) (lv' := [(1, .inl x1), (3, .inl x3)]) (st' := [.inl 1]) rfl ?_
  exact wMd_letters_j33 hG C htab k14 H14 _ _ _
def fMd_letters_l14 (fu : Nat) : Int32 → Int32 → Int32 → Option (Int32) := Nat.rec (fun x1 x2 x3 => none) (fun _ k => fMd_letters_b14 k) fu
theorem wMd_letters_l14 {X : MC} {G : GE} {n0 : Nat} (hG : gH G = true) (C : CX X G RX12 cX12_letters pMd_letters 4 (some .int) n0) (htab : ∀ z ∈ X.2.2.2.2.2.2.2.2.exceptionTable.toList, False) {σ : Sg} {M : Mm} {n : Nat} : ∀ (fu : Nat) (x1 : Int32) (x2 : Int32) (x3 : Int32), JS X G 4 300 0 n0 (EM X G n0 2 300 (eR rvI σ M n)) (fMd_letters_l14 fu x1 x2 x3) (σ, M, n) 14 [(1, .inl x1), (2, .inl x2), (3, .inl x3)] [] := by
  intro fu
  induction fu with
  | zero => intro x1 x2 x3; exact s_none
  | succ fu ih => intro x1 x2 x3; exact wMd_letters_b14 hG C htab (fMd_letters_l14 fu) ih _ _ _
def fMd_letters_j11 (x0 : Int32) (x1 : Int32) (s0 : Int32) : Option (Int32) :=
  fMd_letters_l14 FU x1 s0 x0
theorem wMd_letters_j11 {X : MC} {G : GE} {n0 : Nat} (hG : gH G = true) (C : CX X G RX12 cX12_letters pMd_letters 4 (some .int) n0) (htab : ∀ z ∈ X.2.2.2.2.2.2.2.2.exceptionTable.toList, False) {σ : Sg} {M : Mm} {n : Nat} (x0 : Int32) (x1 : Int32) (s0 : Int32) : JS X G 4 300 0 n0 (EM X G n0 2 300 (eR rvI σ M n)) (fMd_letters_j11 x0 x1 s0) (σ, M, n) 11 [(0, .inl x0), (1, .inl x1)] [.inl s0] := by
  unfold fMd_letters_j11
  refine s_blk C 7 3 [1, 2, 3] (pc' := 14) (lv' := [(1, .inl x1), (2, .inl s0), (3, .inl x0)]) (st' := []) rfl ?_
  exact wMd_letters_l14 hG C htab FU _ _ _
def fMd_letters (x0 : Int32) : Option (Int32) :=
  if x0 ≤ 0 then
    fMd_letters_j11 x0 0 0
  else
    fMd_letters_j11 x0 0 1
theorem wMd_letters {X : MC} {G : GE} {n0 : Nat} (hG : gH G = true) (C : CX X G RX12 cX12_letters pMd_letters 4 (some .int) n0) (htab : ∀ z ∈ X.2.2.2.2.2.2.2.2.exceptionTable.toList, False) {σ : Sg} {M : Mm} {n : Nat} (x0 : Int32) : JS X G 4 300 0 n0 (EM X G n0 2 300 (eR rvI σ M n)) (fMd_letters x0) (σ, M, n) 0 [(0, .inl x0)] [] := by
  unfold fMd_letters
  refine s_blk C 0 3 [0, 1] (pc' := 3) (lv' := [(0, .inl x0), (1, .inl 0)]) (st' := [.inl x0]) rfl ?_
  refine s_ile C 3 rfl (fun _ => ?_) (fun _ => ?_)
  · refine s_blk C 6 1 [0, 1] (pc' := 11) (lv' := [(0, .inl x0), (1, .inl 0)]) (st' := [.inl 0]) rfl ?_
    exact wMd_letters_j11 hG C htab _ _ _
  refine s_blk C 4 2 [0, 1] (pc' := 11) (lv' := [(0, .inl x0), (1, .inl 0)]) (st' := [.inl 1]) rfl ?_
  exact wMd_letters_j11 hG C htab _ _ _
theorem cMd_letters {l : Launch} {G : GE} (htr : l.stackTraces = false) (hG : gH G = true) (σ : Sg) (M : Mm) (n : Nat) (x0 : Int32) : ∀ o, fMd_letters x0 = some o → MetX l G yX12_letters cX12_letters 4 (some .int) 2 300 [.inl x0] (σ, M, n) ((eR rvI σ M n) o) :=
  c_ofX (by decide) kMd_letters htr rfl rfl fun X _ _ C htab => wMd_letters hG C htab x0
def pMd_isKey : List BR := [(0, .iload_n 0, 1, 0, 1), (1, .invokestatic 136, 3, 0, 4), (4, .ifCond .le (7), 3, 0, 11), (7, .iconst 1, 1, 1, 8), (8, .goto (4), 3, 0, 12), (11, .iconst 0, 1, 0, 12), (12, .ireturn, 1, 0, 13)]
theorem kMd_isKey : bOK cX12_isKey 1 pMd_isKey = true := by decide +kernel
def fMd_isKey (x0 : Int32) : Option (Int32) :=
  bdR (fMd_letters x0) fun v1 =>
  if v1 ≤ 0 then
    rZ 0 (some 0)
  else
    rZ 1 (some 1)
theorem wMd_isKey {X : MC} {G : GE} {n0 : Nat} (hG : gH G = true) (C : CX X G RX12 cX12_isKey pMd_isKey 1 (some .boolean) n0) (htab : ∀ z ∈ X.2.2.2.2.2.2.2.2.exceptionTable.toList, False) {σ : Sg} {M : Mm} {n : Nat} (x0 : Int32) : JS X G 1 300 0 n0 (EM X G n0 3 300 (eR rvI σ M n)) (fMd_isKey x0) (σ, M, n) 0 [(0, .inl x0)] [] := by
  unfold fMd_isKey
  refine s_blk C 0 1 [] (pc' := 1) (lv' := []) (st' := [.inl x0]) rfl ?_
  refine s_RI (CE_EM _ _ _ _ _ _) (st := []) (fun o ho => j_callS (As := [.inl x0]) (st := []) C 1 rfl mf_Md_letters ml_X12_136 rfl (by decide) (by decide) (Nat.le_refl _) rfl (cMd_letters (CX_tr C) hG σ M n x0 o ho)) (fun v1 => ?_)
  refine s_ile C 2 rfl (fun _ => ?_) (fun _ => ?_)
  · refine s_blk C 5 1 [] (pc' := 12) (lv' := []) (st' := [.inl 0]) rfl ?_
    exact s_zret C 6 rfl rfl
  refine s_blk C 3 2 [] (pc' := 12) (lv' := []) (st' := [.inl 1]) rfl ?_
  exact s_zret C 6 rfl rfl
theorem cMd_isKey {l : Launch} {G : GE} (htr : l.stackTraces = false) (hG : gH G = true) (σ : Sg) (M : Mm) (n : Nat) (x0 : Int32) : ∀ o, fMd_isKey x0 = some o → MetX l G yX12_isKey cX12_isKey 1 (some .boolean) 3 300 [.inl x0] (σ, M, n) ((eR rvI σ M n) o) :=
  c_ofX (by decide) kMd_isKey htr rfl rfl fun X _ _ C htab => wMd_isKey hG C htab x0
def pMd_endOf : List BR := [(0, .bipush 40, 2, 40, 2), (2, .iload_n 1, 1, 0, 3), (3, .imul, 1, 0, 4), (4, .aload_n 0, 1, 0, 5), (5, .getfield 68, 3, 0, 8), (8, .iload_n 1, 1, 0, 9), (9, .iaload, 1, 0, 10), (10, .iadd, 1, 0, 11), (11, .ireturn, 1, 0, 12)]
theorem kMd_endOf : bOK cX12_endOf 2 pMd_endOf = true := by decide +kernel
def fMd_endOf (x1 : Int32) (σ : Sg) : Option (Int32) :=
  mgA 26 x1 σ fun v1 =>
  some ((40 * x1) + v1)
theorem wMd_endOf {X : MC} {G : GE} {n0 : Nat} (hG : gH G = true) (C : CX X G RX12 cX12_endOf pMd_endOf 2 (some .int) n0) (htab : ∀ z ∈ X.2.2.2.2.2.2.2.2.exceptionTable.toList, False) {σ : Sg} {M : Mm} {n : Nat} (x1 : Int32) : JS X G 2 300 0 n0 (EM X G n0 2 300 (eR rvI σ M n)) (fMd_endOf x1 σ) (σ, M, n) 0 [(0, .inr (.inl (some (gM G)))), (1, .inl x1)] [] := by
  unfold fMd_endOf
  refine s_blk C 0 4 [1] (pc' := 5) (lv' := [(1, .inl x1)]) (st' := [.inr (.inl (some (gM G))), .inl (40 * x1)]) rfl ?_
  refine s_mR hG C 4 rfl 26 fl_X12_68 rfl ?_
  refine s_blk C 5 1 [] (pc' := 9) (lv' := []) (st' := [.inl x1, .inr (.inl (some (gA G 26))), .inl (40 * x1)]) rfl ?_
  refine s_mldI hG C 6 rfl rfl rfl (fun v1 => ?_)
  refine s_blk C 7 1 [] (pc' := 11) (lv' := []) (st' := [.inl ((40 * x1) + v1)]) rfl ?_
  exact s_iret C 8 rfl rfl
theorem cMd_endOf {l : Launch} {G : GE} (htr : l.stackTraces = false) (hG : gH G = true) (σ : Sg) (M : Mm) (n : Nat) (x1 : Int32) : ∀ o, fMd_endOf x1 σ = some o → MetX l G yX12_endOf cX12_endOf 2 (some .int) 2 300 [.inr (.inl (some (gM G))), .inl x1] (σ, M, n) ((eR rvI σ M n) o) :=
  c_ofX (by decide) kMd_endOf htr rfl rfl fun X _ _ C htab => wMd_endOf hG C htab x1
def pMd_versionAt : List BR := [(0, .bipush 40, 2, 40, 2), (2, .iload_n 1, 1, 0, 3), (3, .imul, 1, 0, 4), (4, .istore 4, 2, 0, 6), (6, .iload 4, 2, 0, 8), (8, .aload_n 0, 1, 0, 9), (9, .iload_n 1, 1, 0, 10), (10, .invokevirtual 219, 3, 0, 13), (13, .if_icmp .ge (34), 3, 0, 47), (16, .aload_n 0, 1, 0, 17), (17, .getfield 74, 3, 0, 20), (20, .iload 4, 2, 0, 22), (22, .iaload, 1, 0, 23), (23, .iload_n 2, 1, 0, 24), (24, .if_icmp .ne (17), 3, 0, 41), (27, .aload_n 0, 1, 0, 28), (28, .getfield 71, 3, 0, 31), (31, .iload 4, 2, 0, 33), (33, .iaload, 1, 0, 34), (34, .iload_n 3, 1, 0, 35), (35, .if_icmp .ne (6), 3, 0, 41), (38, .iload 4, 2, 0, 40), (40, .ireturn, 1, 0, 41), (41, .iinc 4 (1), 3, 1, 44), (44, .goto (-38), 3, 0, 6), (47, .iconst (-1), 1, -1, 48), (48, .ireturn, 1, 0, 49)]
theorem kMd_versionAt : bOK cX12_versionAt 5 pMd_versionAt = true := by decide +kernel
def fMd_versionAt_j41 (k6 : Int32 → Int32 → Int32 → Int32 → Sg → Option (Int32)) (x1 : Int32) (x2 : Int32) (x3 : Int32) (x4 : Int32) (σ : Sg) : Option (Int32) :=
  k6 x1 x2 x3 (x4 + 1) σ
theorem wMd_versionAt_j41 {X : MC} {G : GE} {n0 : Nat} (hG : gH G = true) (C : CX X G RX12 cX12_versionAt pMd_versionAt 5 (some .int) n0) (htab : ∀ z ∈ X.2.2.2.2.2.2.2.2.exceptionTable.toList, False) {σ : Sg} {M : Mm} {n : Nat} (k6 : Int32 → Int32 → Int32 → Int32 → Sg → Option (Int32)) (H6 : ∀ (x1 : Int32) (x2 : Int32) (x3 : Int32) (x4 : Int32), JS X G 5 300 0 n0 (EM X G n0 3 300 (eR rvI σ M n)) (k6 x1 x2 x3 x4 σ) (σ, M, n) 6 [(0, .inr (.inl (some (gM G)))), (1, .inl x1), (2, .inl x2), (3, .inl x3), (4, .inl x4)] []) (x1 : Int32) (x2 : Int32) (x3 : Int32) (x4 : Int32) : JS X G 5 300 0 n0 (EM X G n0 3 300 (eR rvI σ M n)) (fMd_versionAt_j41 k6 x1 x2 x3 x4 σ) (σ, M, n) 41 [(0, .inr (.inl (some (gM G)))), (1, .inl x1), (2, .inl x2), (3, .inl x3), (4, .inl x4)] [] := by
  unfold fMd_versionAt_j41
  refine s_blk C 23 2 [0, 1, 2, 3, 4] (pc' := 6) (lv' := [(0, .inr (.inl (some (gM G)))), (1, .inl x1), (2, .inl x2), (3, .inl x3), (4, .inl (x4 + 1))]) (st' := []) rfl ?_
  exact H6 _ _ _ _
def fMd_versionAt_b6 (k6 : Int32 → Int32 → Int32 → Int32 → Sg → Option (Int32)) (x1 : Int32) (x2 : Int32) (x3 : Int32) (x4 : Int32) (σ : Sg) : Option (Int32) :=
  bdR (fMd_endOf x1 σ) fun v1 =>
  if v1 ≤ x4 then
    some (-1)
  else
    mgA 28 x4 σ fun v2 =>
    if v2 = x2 then
      mgA 27 x4 σ fun v3 =>
      if v3 = x3 then
        some x4
      else
        fMd_versionAt_j41 k6 x1 x2 x3 x4 σ
    else
      fMd_versionAt_j41 k6 x1 x2 x3 x4 σ
theorem wMd_versionAt_b6 {X : MC} {G : GE} {n0 : Nat} (hG : gH G = true) (C : CX X G RX12 cX12_versionAt pMd_versionAt 5 (some .int) n0) (htab : ∀ z ∈ X.2.2.2.2.2.2.2.2.exceptionTable.toList, False) {σ : Sg} {M : Mm} {n : Nat} (k6 : Int32 → Int32 → Int32 → Int32 → Sg → Option (Int32)) (H6 : ∀ (x1 : Int32) (x2 : Int32) (x3 : Int32) (x4 : Int32), JS X G 5 300 0 n0 (EM X G n0 3 300 (eR rvI σ M n)) (k6 x1 x2 x3 x4 σ) (σ, M, n) 6 [(0, .inr (.inl (some (gM G)))), (1, .inl x1), (2, .inl x2), (3, .inl x3), (4, .inl x4)] []) (x1 : Int32) (x2 : Int32) (x3 : Int32) (x4 : Int32) : JS X G 5 300 0 n0 (EM X G n0 3 300 (eR rvI σ M n)) (fMd_versionAt_b6 k6 x1 x2 x3 x4 σ) (σ, M, n) 6 [(0, .inr (.inl (some (gM G)))), (1, .inl x1), (2, .inl x2), (3, .inl x3), (4, .inl x4)] [] := by
  unfold fMd_versionAt_b6
  refine s_blk C 4 3 [0, 1, 2, 3, 4] (pc' := 10) (lv' := [(0, .inr (.inl (some (gM G)))), (1, .inl x1), (2, .inl x2), (3, .inl x3), (4, .inl x4)]) (st' := [.inl x1, .inr (.inl (some (gM G))), .inl x4]) rfl ?_
  refine s_RI (CE_EM _ _ _ _ _ _) (st := [.inl x4]) (fun o ho => j_callV (As := [.inl x1]) (st := [.inl x4]) (b := gM G) C 7 rfl mf_Md_endOf ml_X12_219 rfl (recv_M hG C) (by decide) (by decide) (Nat.le_refl _) rfl (cMd_endOf (CX_tr C) hG σ M n x1 o ho)) (fun v1 => ?_)
  refine s_icge C 8 rfl (fun _ => ?_) (fun _ => ?_)
  · refine s_blk C 25 1 [] (pc' := 48) (lv' := []) (st' := [.inl (-1)]) rfl ?_
    exact s_iret C 26 rfl rfl
  refine s_blk C 9 1 [0, 1, 2, 3, 4] (pc' := 17) (lv' := [(0, .inr (.inl (some (gM G)))), (1, .inl x1), (2, .inl x2), (3, .inl x3), (4, .inl x4)]) (st' := [.inr (.inl (some (gM G)))]) rfl ?_
  refine s_mR hG C 10 rfl 28 fl_X12_74 rfl ?_
  refine s_blk C 11 1 [0, 1, 2, 3, 4] (pc' := 22) (lv' := [(0, .inr (.inl (some (gM G)))), (1, .inl x1), (2, .inl x2), (3, .inl x3), (4, .inl x4)]) (st' := [.inl x4, .inr (.inl (some (gA G 28)))]) rfl ?_
  refine s_mldI hG C 12 rfl rfl rfl (fun v2 => ?_)
  refine s_blk C 13 1 [0, 1, 2, 3, 4] (pc' := 24) (lv' := [(0, .inr (.inl (some (gM G)))), (1, .inl x1), (2, .inl x2), (3, .inl x3), (4, .inl x4)]) (st' := [.inl x2, .inl v2]) rfl ?_
  refine s_icne C 14 rfl (fun _ => ?_) (fun _ => ?_)
  · refine s_blk C 15 1 [0, 1, 2, 3, 4] (pc' := 28) (lv' := [(0, .inr (.inl (some (gM G)))), (1, .inl x1), (2, .inl x2), (3, .inl x3), (4, .inl x4)]) (st' := [.inr (.inl (some (gM G)))]) rfl ?_
    refine s_mR hG C 16 rfl 27 fl_X12_71 rfl ?_
    refine s_blk C 17 1 [0, 1, 2, 3, 4] (pc' := 33) (lv' := [(0, .inr (.inl (some (gM G)))), (1, .inl x1), (2, .inl x2), (3, .inl x3), (4, .inl x4)]) (st' := [.inl x4, .inr (.inl (some (gA G 27)))]) rfl ?_
    refine s_mldI hG C 18 rfl rfl rfl (fun v3 => ?_)
    refine s_blk C 19 1 [0, 1, 2, 3, 4] (pc' := 35) (lv' := [(0, .inr (.inl (some (gM G)))), (1, .inl x1), (2, .inl x2), (3, .inl x3), (4, .inl x4)]) (st' := [.inl x3, .inl v3]) rfl ?_
    refine s_icne C 20 rfl (fun _ => ?_) (fun _ => ?_)
    · refine s_blk C 21 1 [] (pc' := 40) (lv' := []) (st' := [.inl x4]) rfl ?_
      exact s_iret C 22 rfl rfl
    exact wMd_versionAt_j41 hG C htab k6 H6 _ _ _ _
  exact wMd_versionAt_j41 hG C htab k6 H6 _ _ _ _
def fMd_versionAt_l6 (fu : Nat) : Int32 → Int32 → Int32 → Int32 → Sg → Option (Int32) := Nat.rec (fun x1 x2 x3 x4 σ => none) (fun _ k => fMd_versionAt_b6 k) fu
theorem wMd_versionAt_l6 {X : MC} {G : GE} {n0 : Nat} (hG : gH G = true) (C : CX X G RX12 cX12_versionAt pMd_versionAt 5 (some .int) n0) (htab : ∀ z ∈ X.2.2.2.2.2.2.2.2.exceptionTable.toList, False) {σ : Sg} {M : Mm} {n : Nat} : ∀ (fu : Nat) (x1 : Int32) (x2 : Int32) (x3 : Int32) (x4 : Int32), JS X G 5 300 0 n0 (EM X G n0 3 300 (eR rvI σ M n)) (fMd_versionAt_l6 fu x1 x2 x3 x4 σ) (σ, M, n) 6 [(0, .inr (.inl (some (gM G)))), (1, .inl x1), (2, .inl x2), (3, .inl x3), (4, .inl x4)] [] := by
  intro fu
  induction fu with
  | zero => intro x1 x2 x3 x4; exact s_none
  | succ fu ih => intro x1 x2 x3 x4; exact wMd_versionAt_b6 hG C htab (fMd_versionAt_l6 fu) ih _ _ _ _
def fMd_versionAt (x1 : Int32) (x2 : Int32) (x3 : Int32) (σ : Sg) : Option (Int32) :=
  fMd_versionAt_l6 FU x1 x2 x3 (40 * x1) σ
theorem wMd_versionAt {X : MC} {G : GE} {n0 : Nat} (hG : gH G = true) (C : CX X G RX12 cX12_versionAt pMd_versionAt 5 (some .int) n0) (htab : ∀ z ∈ X.2.2.2.2.2.2.2.2.exceptionTable.toList, False) {σ : Sg} {M : Mm} {n : Nat} (x1 : Int32) (x2 : Int32) (x3 : Int32) : JS X G 5 300 0 n0 (EM X G n0 3 300 (eR rvI σ M n)) (fMd_versionAt x1 x2 x3 σ) (σ, M, n) 0 [(0, .inr (.inl (some (gM G)))), (1, .inl x1), (2, .inl x2), (3, .inl x3)] [] := by
  unfold fMd_versionAt
  refine s_blk C 0 4 [0, 1, 2, 3, 4] (pc' := 6) (lv' := [(0, .inr (.inl (some (gM G)))), (1, .inl x1), (2, .inl x2), (3, .inl x3), (4, .inl (40 * x1))]) (st' := []) rfl ?_
  exact wMd_versionAt_l6 hG C htab FU _ _ _ _
theorem cMd_versionAt {l : Launch} {G : GE} (htr : l.stackTraces = false) (hG : gH G = true) (σ : Sg) (M : Mm) (n : Nat) (x1 : Int32) (x2 : Int32) (x3 : Int32) : ∀ o, fMd_versionAt x1 x2 x3 σ = some o → MetX l G yX12_versionAt cX12_versionAt 5 (some .int) 3 300 [.inr (.inl (some (gM G))), .inl x1, .inl x2, .inl x3] (σ, M, n) ((eR rvI σ M n) o) :=
  c_ofX (by decide) kMd_versionAt htr rfl rfl fun X _ _ C htab => wMd_versionAt hG C htab x1 x2 x3
def pMd_isVersion : List BR := [(0, .iload_n 1, 1, 0, 1), (1, .invokestatic 225, 3, 0, 4), (4, .ifCond .eq (25), 3, 0, 29), (7, .iload_n 2, 1, 0, 8), (8, .invokestatic 228, 3, 0, 11), (11, .ifCond .eq (18), 3, 0, 29), (14, .aload_n 0, 1, 0, 15), (15, .iload_n 1, 1, 0, 16), (16, .iload_n 2, 1, 0, 17), (17, .iload_n 3, 1, 0, 18), (18, .invokevirtual 231, 3, 0, 21), (21, .iconst (-1), 1, -1, 22), (22, .if_icmp .eq (7), 3, 0, 29), (25, .iconst 1, 1, 1, 26), (26, .goto (4), 3, 0, 30), (29, .iconst 0, 1, 0, 30), (30, .ireturn, 1, 0, 31)]
theorem kMd_isVersion : bOK cX12_isVersion 4 pMd_isVersion = true := by decide +kernel
def fMd_isVersion (x1 : Int32) (x2 : Int32) (x3 : Int32) (σ : Sg) : Option (Int32) :=
  bdR (fMd_isRegion x1) fun v1 =>
  if v1 = 0 then
    rZ 0 (some 0)
  else
    bdR (fMd_isKey x2) fun v2 =>
    if v2 = 0 then
      rZ 0 (some 0)
    else
      bdR (fMd_versionAt x1 x2 x3 σ) fun v3 =>
      if v3 = (-1) then
        rZ 0 (some 0)
      else
        rZ 1 (some 1)
theorem wMd_isVersion {X : MC} {G : GE} {n0 : Nat} (hG : gH G = true) (C : CX X G RX12 cX12_isVersion pMd_isVersion 4 (some .boolean) n0) (htab : ∀ z ∈ X.2.2.2.2.2.2.2.2.exceptionTable.toList, False) {σ : Sg} {M : Mm} {n : Nat} (x1 : Int32) (x2 : Int32) (x3 : Int32) : JS X G 4 300 0 n0 (EM X G n0 4 300 (eR rvI σ M n)) (fMd_isVersion x1 x2 x3 σ) (σ, M, n) 0 [(0, .inr (.inl (some (gM G)))), (1, .inl x1), (2, .inl x2), (3, .inl x3)] [] := by
  unfold fMd_isVersion
  refine s_blk C 0 1 [0, 1, 2, 3] (pc' := 1) (lv' := [(0, .inr (.inl (some (gM G)))), (1, .inl x1), (2, .inl x2), (3, .inl x3)]) (st' := [.inl x1]) rfl ?_
  refine s_RI (CE_EM _ _ _ _ _ _) (st := []) (fun o ho => j_callS (As := [.inl x1]) (st := []) C 1 rfl mf_Md_isRegion ml_X12_225 rfl (by decide) (by decide) (Nat.le_refl _) rfl (cMd_isRegion (CX_tr C) hG σ M n x1 o ho)) (fun v1 => ?_)
  refine s_ieq C 2 rfl (fun _ => ?_) (fun _ => ?_)
  · refine s_blk C 15 1 [] (pc' := 30) (lv' := []) (st' := [.inl 0]) rfl ?_
    exact s_zret C 16 rfl rfl
  refine s_blk C 3 1 [0, 1, 2, 3] (pc' := 8) (lv' := [(0, .inr (.inl (some (gM G)))), (1, .inl x1), (2, .inl x2), (3, .inl x3)]) (st' := [.inl x2]) rfl ?_
  refine s_RI (CE_EM _ _ _ _ _ _) (st := []) (fun o ho => j_callS (As := [.inl x2]) (st := []) C 4 rfl mf_Md_isKey ml_X12_228 rfl (by decide) (by decide) (Nat.le_refl _) rfl (cMd_isKey (CX_tr C) hG σ M n x2 o ho)) (fun v2 => ?_)
  refine s_ieq C 5 rfl (fun _ => ?_) (fun _ => ?_)
  · refine s_blk C 15 1 [] (pc' := 30) (lv' := []) (st' := [.inl 0]) rfl ?_
    exact s_zret C 16 rfl rfl
  refine s_blk C 6 4 [] (pc' := 18) (lv' := []) (st' := [.inl x3, .inl x2, .inl x1, .inr (.inl (some (gM G)))]) rfl ?_
  refine s_RI (CE_EM _ _ _ _ _ _) (st := []) (fun o ho => j_callV (As := [.inl x1, .inl x2, .inl x3]) (st := []) (b := gM G) C 10 rfl mf_Md_versionAt ml_X12_231 rfl (recv_M hG C) (by decide) (by decide) (Nat.le_refl _) rfl (cMd_versionAt (CX_tr C) hG σ M n x1 x2 x3 o ho)) (fun v3 => ?_)
  refine s_blk C 11 1 [] (pc' := 22) (lv' := []) (st' := [.inl (-1), .inl v3]) rfl ?_
  refine s_iceq C 12 rfl (fun _ => ?_) (fun _ => ?_)
  · refine s_blk C 15 1 [] (pc' := 30) (lv' := []) (st' := [.inl 0]) rfl ?_
    exact s_zret C 16 rfl rfl
  refine s_blk C 13 2 [] (pc' := 30) (lv' := []) (st' := [.inl 1]) rfl ?_
  exact s_zret C 16 rfl rfl
theorem cMd_isVersion {l : Launch} {G : GE} (htr : l.stackTraces = false) (hG : gH G = true) (σ : Sg) (M : Mm) (n : Nat) (x1 : Int32) (x2 : Int32) (x3 : Int32) : ∀ o, fMd_isVersion x1 x2 x3 σ = some o → MetX l G yX12_isVersion cX12_isVersion 4 (some .boolean) 4 300 [.inr (.inl (some (gM G))), .inl x1, .inl x2, .inl x3] (σ, M, n) ((eR rvI σ M n) o) :=
  c_ofX (by decide) kMd_isVersion htr rfl rfl fun X _ _ C htab => wMd_isVersion hG C htab x1 x2 x3
def pMd_holds : List BR := [(0, .aload_n 0, 1, 0, 1), (1, .iload_n 1, 1, 0, 2), (2, .putfield 128, 3, 0, 5), (5, .iload_n 1, 1, 0, 6), (6, .ifCond .ne (7), 3, 0, 13), (9, .iconst 1, 1, 1, 10), (10, .goto (4), 3, 0, 14), (13, .iconst 0, 1, 0, 14), (14, .ireturn, 1, 0, 15)]
theorem kMd_holds : bOK cX12_holds 2 pMd_holds = true := by decide +kernel
def fMd_holds (x1 : Int32) (σ : Sg) : Option (Int32 × Sg) :=
  mpF 0 x1 σ fun σ1 =>
  if x1 = 0 then
    rZ 1 (some (1, σ1))
  else
    rZ 0 (some (0, σ1))
theorem wMd_holds {X : MC} {G : GE} {n0 : Nat} (hG : gH G = true) (C : CX X G RX12 cX12_holds pMd_holds 2 (some .boolean) n0) (htab : ∀ z ∈ X.2.2.2.2.2.2.2.2.exceptionTable.toList, False) {M : Mm} {n : Nat} (x1 : Int32) (σ : Sg) : JS X G 2 300 0 n0 (EM X G n0 2 300 (eS rvI M n)) (fMd_holds x1 σ) (σ, M, n) 0 [(0, .inr (.inl (some (gM G)))), (1, .inl x1)] [] := by
  unfold fMd_holds
  refine s_blk C 0 2 [1] (pc' := 2) (lv' := [(1, .inl x1)]) (st' := [.inl x1, .inr (.inl (some (gM G)))]) rfl ?_
  refine s_mpF hG C 2 rfl fl_X12_128 fp_X12_13_0 rfl (fun σ1 _ => ?_)
  refine s_blk C 3 1 [] (pc' := 6) (lv' := []) (st' := [.inl x1]) rfl ?_
  refine s_ine C 4 rfl (fun _ => ?_) (fun _ => ?_)
  · refine s_blk C 5 2 [] (pc' := 14) (lv' := []) (st' := [.inl 1]) rfl ?_
    exact s_zret C 8 rfl rfl
  refine s_blk C 7 1 [] (pc' := 14) (lv' := []) (st' := [.inl 0]) rfl ?_
  exact s_zret C 8 rfl rfl
theorem cMd_holds {l : Launch} {G : GE} (htr : l.stackTraces = false) (hG : gH G = true) (σ : Sg) (M : Mm) (n : Nat) (x1 : Int32) : ∀ o, fMd_holds x1 σ = some o → MetX l G yX12_holds cX12_holds 2 (some .boolean) 2 300 [.inr (.inl (some (gM G))), .inl x1] (σ, M, n) ((eS rvI M n) o) :=
  c_ofX (by decide) kMd_holds htr rfl rfl fun X _ _ C htab => wMd_holds hG C htab x1 _
def pMd_isMark : List BR := [(0, .aload_n 0, 1, 0, 1), (1, .getfield 22, 3, 0, 4), (4, .aload_n 0, 1, 0, 5), (5, .getfield 71, 3, 0, 8), (8, .iload_n 1, 1, 0, 9), (9, .iaload, 1, 0, 10), (10, .iaload, 1, 0, 11), (11, .ifCond .ne (7), 3, 0, 18), (14, .iconst 1, 1, 1, 15), (15, .goto (4), 3, 0, 19), (18, .iconst 0, 1, 0, 19), (19, .ireturn, 1, 0, 20)]
theorem kMd_isMark : bOK cX12_isMark 2 pMd_isMark = true := by decide +kernel
def fMd_isMark (x1 : Int32) (σ : Sg) : Option (Int32) :=
  mgA 27 x1 σ fun v1 =>
  mgA 9 v1 σ fun v2 =>
  if v2 = 0 then
    rZ 1 (some 1)
  else
    rZ 0 (some 0)
theorem wMd_isMark {X : MC} {G : GE} {n0 : Nat} (hG : gH G = true) (C : CX X G RX12 cX12_isMark pMd_isMark 2 (some .boolean) n0) (htab : ∀ z ∈ X.2.2.2.2.2.2.2.2.exceptionTable.toList, False) {σ : Sg} {M : Mm} {n : Nat} (x1 : Int32) : JS X G 2 300 0 n0 (EM X G n0 2 300 (eR rvI σ M n)) (fMd_isMark x1 σ) (σ, M, n) 0 [(0, .inr (.inl (some (gM G)))), (1, .inl x1)] [] := by
  unfold fMd_isMark
  refine s_blk C 0 1 [0, 1] (pc' := 1) (lv' := [(0, .inr (.inl (some (gM G)))), (1, .inl x1)]) (st' := [.inr (.inl (some (gM G)))]) rfl ?_
  refine s_mR hG C 1 rfl 9 fl_X12_22 rfl ?_
  refine s_blk C 2 1 [1] (pc' := 5) (lv' := [(1, .inl x1)]) (st' := [.inr (.inl (some (gM G))), .inr (.inl (some (gA G 9)))]) rfl ?_
  refine s_mR hG C 3 rfl 27 fl_X12_71 rfl ?_
  refine s_blk C 4 1 [] (pc' := 9) (lv' := []) (st' := [.inl x1, .inr (.inl (some (gA G 27))), .inr (.inl (some (gA G 9)))]) rfl ?_
  refine s_mldI hG C 5 rfl rfl rfl (fun v1 => ?_)
  refine s_mldI hG C 6 rfl rfl rfl (fun v2 => ?_)
  refine s_ine C 7 rfl (fun _ => ?_) (fun _ => ?_)
  · refine s_blk C 8 2 [] (pc' := 19) (lv' := []) (st' := [.inl 1]) rfl ?_
    exact s_zret C 11 rfl rfl
  refine s_blk C 10 1 [] (pc' := 19) (lv' := []) (st' := [.inl 0]) rfl ?_
  exact s_zret C 11 rfl rfl
theorem cMd_isMark {l : Launch} {G : GE} (htr : l.stackTraces = false) (hG : gH G = true) (σ : Sg) (M : Mm) (n : Nat) (x1 : Int32) : ∀ o, fMd_isMark x1 σ = some o → MetX l G yX12_isMark cX12_isMark 2 (some .boolean) 2 300 [.inr (.inl (some (gM G))), .inl x1] (σ, M, n) ((eR rvI σ M n) o) :=
  c_ofX (by decide) kMd_isMark htr rfl rfl fun X _ _ C htab => wMd_isMark hG C htab x1
def pMd_about_0 : List BR := [(0, .aload_n 0, 1, 0, 1), (1, .iload_n 1, 1, 0, 2), (2, .iload_n 2, 1, 0, 3), (3, .iload_n 3, 1, 0, 4), (4, .invokevirtual 262, 3, 0, 7), (7, .istore 5, 2, 0, 9), (9, .aload_n 0, 1, 0, 10), (10, .iload 5, 2, 0, 12), (12, .ifCond .ne (7), 3, 0, 19), (15, .iconst 1, 1, 1, 16), (16, .goto (18), 3, 0, 34), (19, .iload 4, 2, 0, 21), (21, .iconst 0, 1, 0, 22), (22, .iconst 5, 1, 5, 23), (23, .invokestatic 132, 3, 0, 26), (26, .ifCond .eq (7), 3, 0, 33), (29, .iconst 0, 1, 0, 30), (30, .goto (4), 3, 0, 34), (33, .iconst 2, 1, 2, 34), (34, .invokevirtual 150, 3, 0, 37), (37, .ifCond .ne (5), 3, 0, 42), (40, .iconst 0, 1, 0, 41), (41, .ireturn, 1, 0, 42), (42, .aload_n 0, 1, 0, 43), (43, .iload_n 1, 1, 0, 44), (44, .iload_n 2, 1, 0, 45), (45, .iload_n 3, 1, 0, 46), (46, .invokevirtual 231, 3, 0, 49), (49, .istore 6, 2, 0, 51), (51, .iload 4, 2, 0, 53), (53, .ifCond .ne (12), 3, 0, 65), (56, .aload_n 0, 1, 0, 57), (57, .getfield 22, 3, 0, 60), (60, .iload_n 3, 1, 0, 61), (61, .iaload, 1, 0, 62), (62, .goto (81), 3, 0, 143), (65, .iload 4, 2, 0, 67), (67, .iconst 1, 1, 1, 68), (68, .if_icmp .ne (13), 3, 0, 81), (71, .aload_n 0, 1, 0, 72)]
theorem kMd_about_0 : bOK cX12_about 7 pMd_about_0 = true := by decide +kernel
def pMd_about_1 : List BR := [(72, .getfield 89, 3, 0, 75), (75, .iload 6, 2, 0, 77), (77, .iaload, 1, 0, 78), (78, .goto (65), 3, 0, 143), (81, .iload 4, 2, 0, 83), (83, .iconst 2, 1, 2, 84), (84, .if_icmp .ne (13), 3, 0, 97), (87, .aload_n 0, 1, 0, 88), (88, .getfield 80, 3, 0, 91), (91, .iload 6, 2, 0, 93), (93, .iaload, 1, 0, 94), (94, .goto (49), 3, 0, 143), (97, .iload 4, 2, 0, 99), (99, .iconst 3, 1, 3, 100), (100, .if_icmp .ne (13), 3, 0, 113), (103, .aload_n 0, 1, 0, 104), (104, .getfield 77, 3, 0, 107), (107, .iload 6, 2, 0, 109), (109, .iaload, 1, 0, 110), (110, .goto (33), 3, 0, 143), (113, .iload 4, 2, 0, 115), (115, .iconst 4, 1, 4, 116), (116, .if_icmp .ne (13), 3, 0, 129), (119, .aload_n 0, 1, 0, 120), (120, .getfield 83, 3, 0, 123), (123, .iload 6, 2, 0, 125), (125, .iaload, 1, 0, 126), (126, .goto (17), 3, 0, 143), (129, .aload_n 0, 1, 0, 130), (130, .iload 6, 2, 0, 132), (132, .invokevirtual 250, 3, 0, 135), (135, .ifCond .eq (7), 3, 0, 142), (138, .iconst 1, 1, 1, 139), (139, .goto (4), 3, 0, 143), (142, .iconst 0, 1, 0, 143), (143, .ireturn, 1, 0, 144)]
theorem kMd_about_1 : bOK cX12_about 7 pMd_about_1 = true := by decide +kernel
def pMd_about : List BR := (pMd_about_0 ++ pMd_about_1)
theorem kMd_about : bOK cX12_about 7 pMd_about = true := (bOK_app kMd_about_0 kMd_about_1)
def fMd_about_j34 (x1 : Int32) (x2 : Int32) (x3 : Int32) (x4 : Int32) (s0 : Int32) (σ : Sg) : Option (Int32 × Sg) :=
  bdW (fMd_holds s0 σ) fun v1 σ2 =>
  if v1 = 0 then
    some (0, σ2)
  else
    bdR (fMd_versionAt x1 x2 x3 σ2) fun v3 =>
    if x4 = 0 then
      mgA 9 x3 σ2 fun v4 =>
      some (v4, σ2)
    else
      if x4 = 1 then
        mgA 33 v3 σ2 fun v5 =>
        some (v5, σ2)
      else
        if x4 = 2 then
          mgA 30 v3 σ2 fun v6 =>
          some (v6, σ2)
        else
          if x4 = 3 then
            mgA 29 v3 σ2 fun v7 =>
            some (v7, σ2)
          else
            if x4 = 4 then
              mgA 31 v3 σ2 fun v8 =>
              some (v8, σ2)
            else
              bdR (fMd_isMark v3 σ2) fun v9 =>
              if v9 = 0 then
                some (0, σ2)
              else
                some (1, σ2)
theorem wMd_about_j34 {X : MC} {G : GE} {n0 : Nat} (hG : gH G = true) (C : CX X G RX12 cX12_about pMd_about 7 (some .int) n0) (htab : ∀ z ∈ X.2.2.2.2.2.2.2.2.exceptionTable.toList, False) {M : Mm} {n : Nat} (x1 : Int32) (x2 : Int32) (x3 : Int32) (x4 : Int32) (s0 : Int32) (σ : Sg) : JS X G 7 300 0 n0 (EM X G n0 5 300 (eS rvI M n)) (fMd_about_j34 x1 x2 x3 x4 s0 σ) (σ, M, n) 34 [(0, .inr (.inl (some (gM G)))), (1, .inl x1), (2, .inl x2), (3, .inl x3), (4, .inl x4)] [.inl s0, .inr (.inl (some (gM G)))] := by
  unfold fMd_about_j34
  refine s_SI (CE_EM _ _ _ _ _ _) (st := []) (fun o ho => j_callV (As := [.inl s0]) (st := []) (b := gM G) C 19 rfl mf_Md_holds ml_X12_150 rfl (recv_M hG C) (by decide) (by decide) (Nat.le_refl _) rfl (cMd_holds (CX_tr C) hG σ M n s0 o ho)) (fun v1 σ2 => ?_)
  refine s_ine C 20 rfl (fun _ => ?_) (fun _ => ?_)
  · refine s_blk C 21 1 [] (pc' := 41) (lv' := []) (st' := [.inl 0]) rfl ?_
    exact s_iret C 22 rfl rfl
  refine s_blk C 23 4 [0, 3, 4] (pc' := 46) (lv' := [(0, .inr (.inl (some (gM G)))), (3, .inl x3), (4, .inl x4)]) (st' := [.inl x3, .inl x2, .inl x1, .inr (.inl (some (gM G)))]) rfl ?_
  refine s_RI (CE_EM _ _ _ _ _ _) (st := []) (fun o ho => j_callV (As := [.inl x1, .inl x2, .inl x3]) (st := []) (b := gM G) C 27 rfl mf_Md_versionAt ml_X12_231 rfl (recv_M hG C) (by decide) (by decide) (Nat.le_refl _) rfl (cMd_versionAt (CX_tr C) hG σ2 M n x1 x2 x3 o ho)) (fun v3 => ?_)
  refine s_blk C 28 2 [0, 3, 4, 6] (pc' := 53) (lv' := [(0, .inr (.inl (some (gM G)))), (3, .inl x3), (4, .inl x4), (6, .inl v3)]) (st' := [.inl x4]) rfl ?_
  refine s_ine C 30 rfl (fun _ => ?_) (fun _ => ?_)
  · refine s_blk C 31 1 [3] (pc' := 57) (lv' := [(3, .inl x3)]) (st' := [.inr (.inl (some (gM G)))]) rfl ?_
    refine s_mR hG C 32 rfl 9 fl_X12_22 rfl ?_
    refine s_blk C 33 1 [] (pc' := 61) (lv' := []) (st' := [.inl x3, .inr (.inl (some (gA G 9)))]) rfl ?_
    refine s_mldI hG C 34 rfl rfl rfl (fun v4 => ?_)
    refine s_blk C 35 1 [] (pc' := 143) (lv' := []) (st' := [.inl v4]) rfl ?_
    exact s_iret C 75 rfl rfl
  refine s_blk C 36 2 [0, 4, 6] (pc' := 68) (lv' := [(0, .inr (.inl (some (gM G)))), (4, .inl x4), (6, .inl v3)]) (st' := [.inl 1, .inl x4]) rfl ?_
  refine s_icne C 38 rfl (fun _ => ?_) (fun _ => ?_)
  · refine s_blk C 39 1 [6] (pc' := 72) (lv' := [(6, .inl v3)]) (st' := [.inr (.inl (some (gM G)))]) rfl ?_
    refine s_mR hG C 40 rfl 33 fl_X12_89 rfl ?_
    refine s_blk C 41 1 [] (pc' := 77) (lv' := []) (st' := [.inl v3, .inr (.inl (some (gA G 33)))]) rfl ?_
    refine s_mldI hG C 42 rfl rfl rfl (fun v5 => ?_)
    refine s_blk C 43 1 [] (pc' := 143) (lv' := []) (st' := [.inl v5]) rfl ?_
    exact s_iret C 75 rfl rfl
  refine s_blk C 44 2 [0, 4, 6] (pc' := 84) (lv' := [(0, .inr (.inl (some (gM G)))), (4, .inl x4), (6, .inl v3)]) (st' := [.inl 2, .inl x4]) rfl ?_
  refine s_icne C 46 rfl (fun _ => ?_) (fun _ => ?_)
  · refine s_blk C 47 1 [6] (pc' := 88) (lv' := [(6, .inl v3)]) (st' := [.inr (.inl (some (gM G)))]) rfl ?_
    refine s_mR hG C 48 rfl 30 fl_X12_80 rfl ?_
    refine s_blk C 49 1 [] (pc' := 93) (lv' := []) (st' := [.inl v3, .inr (.inl (some (gA G 30)))]) rfl ?_
    refine s_mldI hG C 50 rfl rfl rfl (fun v6 => ?_)
    refine s_blk C 51 1 [] (pc' := 143) (lv' := []) (st' := [.inl v6]) rfl ?_
    exact s_iret C 75 rfl rfl
  refine s_blk C 52 2 [0, 4, 6] (pc' := 100) (lv' := [(0, .inr (.inl (some (gM G)))), (4, .inl x4), (6, .inl v3)]) (st' := [.inl 3, .inl x4]) rfl ?_
  refine s_icne C 54 rfl (fun _ => ?_) (fun _ => ?_)
  · refine s_blk C 55 1 [6] (pc' := 104) (lv' := [(6, .inl v3)]) (st' := [.inr (.inl (some (gM G)))]) rfl ?_
    refine s_mR hG C 56 rfl 29 fl_X12_77 rfl ?_
    refine s_blk C 57 1 [] (pc' := 109) (lv' := []) (st' := [.inl v3, .inr (.inl (some (gA G 29)))]) rfl ?_
    refine s_mldI hG C 58 rfl rfl rfl (fun v7 => ?_)
    refine s_blk C 59 1 [] (pc' := 143) (lv' := []) (st' := [.inl v7]) rfl ?_
    exact s_iret C 75 rfl rfl
  refine s_blk C 60 2 [0, 6] (pc' := 116) (lv' := [(0, .inr (.inl (some (gM G)))), (6, .inl v3)]) (st' := [.inl 4, .inl x4]) rfl ?_
  refine s_icne C 62 rfl (fun _ => ?_) (fun _ => ?_)
  · refine s_blk C 63 1 [6] (pc' := 120) (lv' := [(6, .inl v3)]) (st' := [.inr (.inl (some (gM G)))]) rfl ?_
    refine s_mR hG C 64 rfl 31 fl_X12_83 rfl ?_
    refine s_blk C 65 1 [] (pc' := 125) (lv' := []) (st' := [.inl v3, .inr (.inl (some (gA G 31)))]) rfl ?_
    refine s_mldI hG C 66 rfl rfl rfl (fun v8 => ?_)
    refine s_blk C 67 1 [] (pc' := 143) (lv' := []) (st' := [.inl v8]) rfl ?_
    exact s_iret C 75 rfl rfl
  refine s_blk C 68 2 [] (pc' := 132) (lv' := []) (st' := [.inl v3, .inr (.inl (some (gM G)))]) rfl ?_
  refine s_RI (CE_EM _ _ _ _ _ _) (st := []) (fun o ho => j_callV (As := [.inl v3]) (st := []) (b := gM G) C 70 rfl mf_Md_isMark ml_X12_250 rfl (recv_M hG C) (by decide) (by decide) (Nat.le_refl _) rfl (cMd_isMark (CX_tr C) hG σ2 M n v3 o ho)) (fun v9 => ?_)
  refine s_ieq C 71 rfl (fun _ => ?_) (fun _ => ?_)
  · refine s_blk C 74 1 [] (pc' := 143) (lv' := []) (st' := [.inl 0]) rfl ?_
    exact s_iret C 75 rfl rfl
  refine s_blk C 72 2 [] (pc' := 143) (lv' := []) (st' := [.inl 1]) rfl ?_
  exact s_iret C 75 rfl rfl
def fMd_about (x1 : Int32) (x2 : Int32) (x3 : Int32) (x4 : Int32) (σ : Sg) : Option (Int32 × Sg) :=
  bdR (fMd_isVersion x1 x2 x3 σ) fun v1 =>
  if v1 = 0 then
    fMd_about_j34 x1 x2 x3 x4 1 σ
  else
    bdR (fMd_isIn x4 0 5) fun v2 =>
    if v2 = 0 then
      fMd_about_j34 x1 x2 x3 x4 2 σ
    else
      fMd_about_j34 x1 x2 x3 x4 0 σ
theorem wMd_about {X : MC} {G : GE} {n0 : Nat} (hG : gH G = true) (C : CX X G RX12 cX12_about pMd_about 7 (some .int) n0) (htab : ∀ z ∈ X.2.2.2.2.2.2.2.2.exceptionTable.toList, False) {M : Mm} {n : Nat} (x1 : Int32) (x2 : Int32) (x3 : Int32) (x4 : Int32) (σ : Sg) : JS X G 7 300 0 n0 (EM X G n0 5 300 (eS rvI M n)) (fMd_about x1 x2 x3 x4 σ) (σ, M, n) 0 [(0, .inr (.inl (some (gM G)))), (1, .inl x1), (2, .inl x2), (3, .inl x3), (4, .inl x4)] [] := by
  unfold fMd_about
  refine s_blk C 0 4 [0, 1, 2, 3, 4] (pc' := 4) (lv' := [(0, .inr (.inl (some (gM G)))), (1, .inl x1), (2, .inl x2), (3, .inl x3), (4, .inl x4)]) (st' := [.inl x3, .inl x2, .inl x1, .inr (.inl (some (gM G)))]) rfl ?_
  refine s_RI (CE_EM _ _ _ _ _ _) (st := []) (fun o ho => j_callV (As := [.inl x1, .inl x2, .inl x3]) (st := []) (b := gM G) C 4 rfl mf_Md_isVersion ml_X12_262 rfl (recv_M hG C) (by decide) (by decide) (Nat.le_refl _) rfl (cMd_isVersion (CX_tr C) hG σ M n x1 x2 x3 o ho)) (fun v1 => ?_)
  refine s_blk C 5 3 [0, 1, 2, 3, 4] (pc' := 12) (lv' := [(0, .inr (.inl (some (gM G)))), (1, .inl x1), (2, .inl x2), (3, .inl x3), (4, .inl x4)]) (st' := [.inl v1, .inr (.inl (some (gM G)))]) rfl ?_
  refine s_ine C 8 rfl (fun _ => ?_) (fun _ => ?_)
  · refine s_blk C 9 2 [0, 1, 2, 3, 4] (pc' := 34) (lv' := [(0, .inr (.inl (some (gM G)))), (1, .inl x1), (2, .inl x2), (3, .inl x3), (4, .inl x4)]) (st' := [.inl 1, .inr (.inl (some (gM G)))]) rfl ?_
    exact wMd_about_j34 hG C htab _ _ _ _ _ _
  refine s_blk C 11 3 [0, 1, 2, 3, 4] (pc' := 23) (lv' := [(0, .inr (.inl (some (gM G)))), (1, .inl x1), (2, .inl x2), (3, .inl x3), (4, .inl x4)]) (st' := [.inl 5, .inl 0, .inl x4, .inr (.inl (some (gM G)))]) rfl ?_
  refine s_RI (CE_EM _ _ _ _ _ _) (st := [.inr (.inl (some (gM G)))]) (fun o ho => j_callS (As := [.inl x4, .inl 0, .inl 5]) (st := [.inr (.inl (some (gM G)))]) C 14 rfl mf_Md_isIn ml_X12_132 rfl (by decide) (by decide) (Nat.le_refl _) rfl (cMd_isIn (CX_tr C) hG σ M n x4 0 5 o ho)) (fun v2 => ?_)
  refine s_ieq C 15 rfl (fun _ => ?_) (fun _ => ?_)
  · refine s_blk C 18 1 [0, 1, 2, 3, 4] (pc' := 34) (lv' := [(0, .inr (.inl (some (gM G)))), (1, .inl x1), (2, .inl x2), (3, .inl x3), (4, .inl x4)]) (st' := [.inl 2, .inr (.inl (some (gM G)))]) rfl ?_
    exact wMd_about_j34 hG C htab _ _ _ _ _ _
  refine s_blk C 16 2 [0, 1, 2, 3, 4] (pc' := 34) (lv' := [(0, .inr (.inl (some (gM G)))), (1, .inl x1), (2, .inl x2), (3, .inl x3), (4, .inl x4)]) (st' := [.inl 0, .inr (.inl (some (gM G)))]) rfl ?_
  exact wMd_about_j34 hG C htab _ _ _ _ _ _
theorem cMd_about {l : Launch} {G : GE} (htr : l.stackTraces = false) (hG : gH G = true) (σ : Sg) (M : Mm) (n : Nat) (x1 : Int32) (x2 : Int32) (x3 : Int32) (x4 : Int32) : ∀ o, fMd_about x1 x2 x3 x4 σ = some o → MetX l G yX12_about cX12_about 7 (some .int) 5 300 [.inr (.inl (some (gM G))), .inl x1, .inl x2, .inl x3, .inl x4] (σ, M, n) ((eS rvI M n) o) :=
  c_ofX (by decide) kMd_about htr rfl rfl fun X _ _ C htab => wMd_about hG C htab x1 x2 x3 x4 _

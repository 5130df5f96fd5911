def pMd_times_0 : List BR := [(0, .iconst 0, 1, 0, 1), (1, .istore_n 2, 1, 0, 2), (2, .iconst 0, 1, 0, 3), (3, .istore_n 3, 1, 0, 4), (4, .iload_n 3, 1, 0, 5), (5, .iconst 4, 1, 4, 6), (6, .if_icmp .ge (28), 3, 0, 34), (9, .iload_n 2, 1, 0, 10), (10, .iload_n 1, 1, 0, 11), (11, .iload_n 3, 1, 0, 12), (12, .ishr, 1, 0, 13), (13, .iconst 1, 1, 1, 14), (14, .iand, 1, 0, 15), (15, .iconst 1, 1, 1, 16), (16, .if_icmp .ne (9), 3, 0, 25), (19, .iload_n 0, 1, 0, 20), (20, .iload_n 3, 1, 0, 21), (21, .ishl, 1, 0, 22), (22, .goto (4), 3, 0, 26), (25, .iconst 0, 1, 0, 26), (26, .ixor, 1, 0, 27), (27, .istore_n 2, 1, 0, 28), (28, .iinc 3 (1), 3, 1, 31), (31, .goto (-27), 3, 0, 4), (34, .bipush 7, 2, 7, 36), (36, .istore_n 3, 1, 0, 37), (37, .iload_n 3, 1, 0, 38), (38, .iconst 3, 1, 3, 39), (39, .if_icmp .le (31), 3, 0, 70), (42, .iload_n 2, 1, 0, 43), (43, .iload_n 2, 1, 0, 44), (44, .iload_n 3, 1, 0, 45), (45, .ishr, 1, 0, 46), (46, .iconst 1, 1, 1, 47), (47, .iand, 1, 0, 48), (48, .iconst 1, 1, 1, 49), (49, .if_icmp .ne (12), 3, 0, 61), (52, .bipush 19, 2, 19, 54), (54, .iload_n 3, 1, 0, 55), (55, .iconst 4, 1, 4, 56)]
theorem kMd_times_0 : bOK cX12_times 4 pMd_times_0 = true := by decide +kernel
def pMd_times_1 : List BR := [(56, .isub, 1, 0, 57), (57, .ishl, 1, 0, 58), (58, .goto (4), 3, 0, 62), (61, .iconst 0, 1, 0, 62), (62, .ixor, 1, 0, 63), (63, .istore_n 2, 1, 0, 64), (64, .iinc 3 (-1), 3, -1, 67), (67, .goto (-30), 3, 0, 37), (70, .iload_n 2, 1, 0, 71), (71, .ireturn, 1, 0, 72)]
theorem kMd_times_1 : bOK cX12_times 4 pMd_times_1 = true := by decide +kernel
def pMd_times : List BR := (pMd_times_0 ++ pMd_times_1)
theorem kMd_times : bOK cX12_times 4 pMd_times = true := (bOK_app kMd_times_0 kMd_times_1)
def fMd_times_j62 (k37 : Int32 → Int32 → Option (Int32)) (x3 : Int32) (s0 : Int32) (s1 : Int32) : Option (Int32) :=
  k37 (s1 ^^^ s0) (x3 + (-1))
theorem wMd_times_j62 {X : MC} {G : GE} {n0 : Nat} (hG : gH G = true) (C : CX X G RX12 cX12_times pMd_times 4 (some .int) n0) (htab : ∀ z ∈ X.2.2.2.2.2.2.2.2.exceptionTable.toList, False) {σ : Sg} {M : Mm} {n : Nat} (k37 : Int32 → Int32 → Option (Int32)) (H37 : ∀ (x2 : Int32) (x3 : Int32), JS X G 4 300 0 n0 (EM X G n0 2 300 (eR rvI σ M n)) (k37 x2 x3) (σ, M, n) 37 [(2, .inl x2), (3, .inl x3)] []) (x3 : Int32) (s0 : Int32) (s1 : Int32) : JS X G 4 300 0 n0 (EM X G n0 2 300 (eR rvI σ M n)) (fMd_times_j62 k37 x3 s0 s1) (σ, M, n) 62 [(3, .inl x3)] [.inl s0, .inl s1] := by
  unfold fMd_times_j62
  refine s_blk C 44 4 [2, 3] (pc' := 37) (lv' := [(2, .inl (s1 ^^^ s0)), (3, .inl (x3 + (-1)))]) (st' := []) rfl ?_
  exact H37 _ _
def fMd_times_b37 (k37 : Int32 → Int32 → Option (Int32)) (x2 : Int32) (x3 : Int32) : Option (Int32) :=
  if x3 ≤ 3 then
    some x2
  else
    if ((x2 >>> (x3 &&& 31)) &&& 1) = 1 then
      fMd_times_j62 k37 x3 (19 <<< ((x3 - 4) &&& 31)) x2
    else
      fMd_times_j62 k37 x3 0 x2
theorem wMd_times_b37 {X : MC} {G : GE} {n0 : Nat} (hG : gH G = true) (C : CX X G RX12 cX12_times pMd_times 4 (some .int) n0) (htab : ∀ z ∈ X.2.2.2.2.2.2.2.2.exceptionTable.toList, False) {σ : Sg} {M : Mm} {n : Nat} (k37 : Int32 → Int32 → Option (Int32)) (H37 : ∀ (x2 : Int32) (x3 : Int32), JS X G 4 300 0 n0 (EM X G n0 2 300 (eR rvI σ M n)) (k37 x2 x3) (σ, M, n) 37 [(2, .inl x2), (3, .inl x3)] []) (x2 : Int32) (x3 : Int32) : JS X G 4 300 0 n0 (EM X G n0 2 300 (eR rvI σ M n)) (fMd_times_b37 k37 x2 x3) (σ, M, n) 37 [(2, .inl x2), (3, .inl x3)] [] := by
  unfold fMd_times_b37
  refine s_blk C 26 2 [2, 3] (pc' := 39) (lv' := [(2, .inl x2), (3, .inl x3)]) (st' := [.inl 3, .inl x3]) rfl ?_
  refine s_icle C 28 rfl (fun _ => ?_) (fun _ => ?_)
  · refine s_blk C 48 1 [] (pc' := 71) (lv' := []) (st' := [.inl x2]) rfl ?_
    exact s_iret C 49 rfl rfl
  refine s_blk C 29 7 [3] (pc' := 49) (lv' := [(3, .inl x3)]) (st' := [.inl 1, .inl ((x2 >>> (x3 &&& 31)) &&& 1), .inl x2]) rfl ?_
  refine s_icne C 36 rfl (fun _ => ?_) (fun _ => ?_)
  · refine s_blk C 37 6 [3] (pc' := 62) (lv' := [(3, .inl x3)]) (st' := [.inl (19 <<< ((x3 - 4) &&& 31)), .inl x2]) rfl ?_
    exact wMd_times_j62 hG C htab k37 H37 _ _ _
  refine s_blk C 43 1 [3] (pc' := 62) (lv' := [(3, .inl x3)]) (st' := [.inl 0, .inl x2]) rfl ?_
  exact wMd_times_j62 hG C htab k37 H37 _ _ _
def fMd_times_l37 (fu : Nat) : Int32 → Int32 → Option (Int32) := Nat.rec (fun x2 x3 => none) (fun _ k => fMd_times_b37 k) fu
theorem wMd_times_l37 {X : MC} {G : GE} {n0 : Nat} (hG : gH G = true) (C : CX X G RX12 cX12_times pMd_times 4 (some .int) n0) (htab : ∀ z ∈ X.2.2.2.2.2.2.2.2.exceptionTable.toList, False) {σ : Sg} {M : Mm} {n : Nat} : ∀ (fu : Nat) (x2 : Int32) (x3 : Int32), JS X G 4 300 0 n0 (EM X G n0 2 300 (eR rvI σ M n)) (fMd_times_l37 fu x2 x3) (σ, M, n) 37 [(2, .inl x2), (3, .inl x3)] [] := by
  intro fu
  induction fu with
  | zero => intro x2 x3; exact s_none
  | succ fu ih => intro x2 x3; exact wMd_times_b37 hG C htab (fMd_times_l37 fu) ih _ _
def fMd_times_j26 (k4 : Int32 → Int32 → Int32 → Int32 → Option (Int32)) (x0 : Int32) (x1 : Int32) (x3 : Int32) (s0 : Int32) (s1 : Int32) : Option (Int32) :=
  k4 x0 x1 (s1 ^^^ s0) (x3 + 1)
theorem wMd_times_j26 {X : MC} {G : GE} {n0 : Nat} (hG : gH G = true) (C : CX X G RX12 cX12_times pMd_times 4 (some .int) n0) (htab : ∀ z ∈ X.2.2.2.2.2.2.2.2.exceptionTable.toList, False) {σ : Sg} {M : Mm} {n : Nat} (k4 : Int32 → Int32 → Int32 → Int32 → Option (Int32)) (H4 : ∀ (x0 : Int32) (x1 : Int32) (x2 : Int32) (x3 : Int32), JS X G 4 300 0 n0 (EM X G n0 2 300 (eR rvI σ M n)) (k4 x0 x1 x2 x3) (σ, M, n) 4 [(0, .inl x0), (1, .inl x1), (2, .inl x2), (3, .inl x3)] []) (x0 : Int32) (x1 : Int32) (x3 : Int32) (s0 : Int32) (s1 : Int32) : JS X G 4 300 0 n0 (EM X G n0 2 300 (eR rvI σ M n)) (fMd_times_j26 k4 x0 x1 x3 s0 s1) (σ, M, n) 26 [(0, .inl x0), (1, .inl x1), (3, .inl x3)] [.inl s0, .inl s1] := by
  unfold fMd_times_j26
  refine s_blk C 20 4 [0, 1, 2, 3] (pc' := 4) (lv' := [(0, .inl x0), (1, .inl x1), (2, .inl (s1 ^^^ s0)), (3, .inl (x3 + 1))]) (st' := []) rfl ?_
  exact H4 _ _ _ _
def fMd_times_b4 (k4 : Int32 → Int32 → Int32 → Int32 → Option (Int32)) (x0 : Int32) (x1 : Int32) (x2 : Int32) (x3 : Int32) : Option (Int32) :=
  if 4 ≤ x3 then
    fMd_times_l37 FU x2 7
  else
    if ((x1 >>> (x3 &&& 31)) &&& 1) = 1 then
      fMd_times_j26 k4 x0 x1 x3 (x0 <<< (x3 &&& 31)) x2
    else
      fMd_times_j26 k4 x0 x1 x3 0 x2
theorem wMd_times_b4 {X : MC} {G : GE} {n0 : Nat} (hG : gH G = true) (C : CX X G RX12 cX12_times pMd_times 4 (some .int) n0) (htab : ∀ z ∈ X.2.2.2.2.2.2.2.2.exceptionTable.toList, False) {σ : Sg} {M : Mm} {n : Nat} (k4 : Int32 → Int32 → Int32 → Int32 → Option (Int32)) (H4 : ∀ (x0 : Int32) (x1 : Int32) (x2 : Int32) (x3 : Int32), JS X G 4 300 0 n0 (EM X G n0 2 300 (eR rvI σ M n)) (k4 x0 x1 x2 x3) (σ, M, n) 4 [(0, .inl x0), (1, .inl x1), (2, .inl x2), (3, .inl x3)] []) (x0 : Int32) (x1 : Int32) (x2 : Int32) (x3 : Int32) : JS X G 4 300 0 n0 (EM X G n0 2 300 (eR rvI σ M n)) (fMd_times_b4 k4 x0 x1 x2 x3) (σ, M, n) 4 [(0, .inl x0), (1, .inl x1), (2, .inl x2), (3, .inl x3)] [] := by
  unfold fMd_times_b4
  refine s_blk C 4 2 [0, 1, 2, 3] (pc' := 6) (lv' := [(0, .inl x0), (1, .inl x1), (2, .inl x2), (3, .inl x3)]) (st' := [.inl 4, .inl x3]) rfl ?_
  refine s_icge C 6 rfl (fun _ => ?_) (fun _ => ?_)
  · refine s_blk C 24 2 [2, 3] (pc' := 37) (lv' := [(2, .inl x2), (3, .inl 7)]) (st' := []) rfl ?_
    exact wMd_times_l37 hG C htab FU _ _
  refine s_blk C 7 7 [0, 1, 3] (pc' := 16) (lv' := [(0, .inl x0), (1, .inl x1), (3, .inl x3)]) (st' := [.inl 1, .inl ((x1 >>> (x3 &&& 31)) &&& 1), .inl x2]) rfl ?_
  refine s_icne C 14 rfl (fun _ => ?_) (fun _ => ?_)
  · refine s_blk C 15 4 [0, 1, 3] (pc' := 26) (lv' := [(0, .inl x0), (1, .inl x1), (3, .inl x3)]) (st' := [.inl (x0 <<< (x3 &&& 31)), .inl x2]) rfl ?_
    exact wMd_times_j26 hG C htab k4 H4 _ _ _ _ _
  refine s_blk C 19 1 [0, 1, 3] (pc' := 26) (lv' := [(0, .inl x0), (1, .inl x1), (3, .inl x3)]) (st' := [.inl 0, .inl x2]) rfl ?_
  exact wMd_times_j26 hG C htab k4 H4 _ _ _ _ _
def fMd_times_l4 (fu : Nat) : Int32 → Int32 → Int32 → Int32 → Option (Int32) := Nat.rec (fun x0 x1 x2 x3 => none) (fun _ k => fMd_times_b4 k) fu
theorem wMd_times_l4 {X : MC} {G : GE} {n0 : Nat} (hG : gH G = true) (C : CX X G RX12 cX12_times pMd_times 4 (some .int) n0) (htab : ∀ z ∈ X.2.2.2.2.2.2.2.2.exceptionTable.toList, False) {σ : Sg} {M : Mm} {n : Nat} : ∀ (fu : Nat) (x0 : Int32) (x1 : Int32) (x2 : Int32) (x3 : Int32), JS X G 4 300 0 n0 (EM X G n0 2 300 (eR rvI σ M n)) (fMd_times_l4 fu x0 x1 x2 x3) (σ, M, n) 4 [(0, .inl x0), (1, .inl x1), (2, .inl x2), (3, .inl x3)] [] := by
  intro fu
  induction fu with
  | zero => intro x0 x1 x2 x3; exact s_none
  | succ fu ih => intro x0 x1 x2 x3; exact wMd_times_b4 hG C htab (fMd_times_l4 fu) ih _ _ _ _
def fMd_times (x0 : Int32) (x1 : Int32) : Option (Int32) :=
  fMd_times_l4 FU x0 x1 0 0
theorem wMd_times {X : MC} {G : GE} {n0 : Nat} (hG : gH G = true) (C : CX X G RX12 cX12_times pMd_times 4 (some .int) n0) (htab : ∀ z ∈ X.2.2.2.2.2.2.2.2.exceptionTable.toList, False) {σ : Sg} {M : Mm} {n : Nat} (x0 : Int32) (x1 : Int32) : JS X G 4 300 0 n0 (EM X G n0 2 300 (eR rvI σ M n)) (fMd_times x0 x1) (σ, M, n) 0 [(0, .inl x0), (1, .inl x1)] [] := by
  unfold fMd_times
  refine s_blk C 0 4 [0, 1, 2, 3] (pc' := 4) (lv' := [(0, .inl x0), (1, .inl x1), (2, .inl 0), (3, .inl 0)]) (st' := []) rfl ?_
  exact wMd_times_l4 hG C htab FU _ _ _ _
theorem cMd_times {l : Launch} {G : GE} (htr : l.stackTraces = false) (hG : gH G = true) (σ : Sg) (M : Mm) (n : Nat) (x0 : Int32) (x1 : Int32) : ∀ o, fMd_times x0 x1 = some o → MetX l G yX12_times cX12_times 4 (some .int) 2 300 [.inl x0, .inl x1] (σ, M, n) ((eR rvI σ M n) o) :=
  c_ofX (by decide) kMd_times htr rfl rfl fun X _ _ C htab => wMd_times hG C htab x0 x1
def pMd_inverse : List BR := [(0, .iconst 0, 1, 0, 1), (1, .istore_n 1, 1, 0, 2), (2, .iconst 1, 1, 1, 3), (3, .istore_n 2, 1, 0, 4), (4, .iload_n 2, 1, 0, 5), (5, .bipush 16, 2, 16, 7), (7, .if_icmp .ge (24), 3, 0, 31), (10, .iload_n 0, 1, 0, 11), (11, .iload_n 2, 1, 0, 12), (12, .invokestatic 144, 3, 0, 15), (15, .iconst 1, 1, 1, 16), (16, .if_icmp .ne (7), 3, 0, 23), (19, .iload_n 2, 1, 0, 20), (20, .goto (4), 3, 0, 24), (23, .iload_n 1, 1, 0, 24), (24, .istore_n 1, 1, 0, 25), (25, .iinc 2 (1), 3, 1, 28), (28, .goto (-24), 3, 0, 4), (31, .iload_n 1, 1, 0, 32), (32, .ireturn, 1, 0, 33)]
theorem kMd_inverse : bOK cX12_inverse 3 pMd_inverse = true := by decide +kernel
def fMd_inverse_j24 (k4 : Int32 → Int32 → Int32 → Option (Int32)) (x0 : Int32) (x2 : Int32) (s0 : Int32) : Option (Int32) :=
  k4 x0 s0 (x2 + 1)
theorem wMd_inverse_j24 {X : MC} {G : GE} {n0 : Nat} (hG : gH G = true) (C : CX X G RX12 cX12_inverse pMd_inverse 3 (some .int) n0) (htab : ∀ z ∈ X.2.2.2.2.2.2.2.2.exceptionTable.toList, False) {σ : Sg} {M : Mm} {n : Nat} (k4 : Int32 → Int32 → Int32 → Option (Int32)) (H4 : ∀ (x0 : Int32) (x1 : Int32) (x2 : Int32), JS X G 3 300 0 n0 (EM X G n0 3 300 (eR rvI σ M n)) (k4 x0 x1 x2) (σ, M, n) 4 [(0, .inl x0), (1, .inl x1), (2, .inl x2)] []) (x0 : Int32) (x2 : Int32) (s0 : Int32) : JS X G 3 300 0 n0 (EM X G n0 3 300 (eR rvI σ M n)) (fMd_inverse_j24 k4 x0 x2 s0) (σ, M, n) 24 [(0, .inl x0), (2, .inl x2)] [.inl s0] := by
  unfold fMd_inverse_j24
  refine s_blk C 15 3 [0, 1, 2] (pc' := 4) (lv' := [(0, .inl x0), (1, .inl s0), (2, .inl (x2 + 1))]) (st' := []) rfl ?_
  exact H4 _ _ _
def fMd_inverse_b4 (k4 : Int32 → Int32 → Int32 → Option (Int32)) (x0 : Int32) (x1 : Int32) (x2 : Int32) : Option (Int32) :=
  if 16 ≤ x2 then
    some x1
  else
    bdR (fMd_times x0 x2) fun v1 =>
    if v1 = 1 then
      fMd_inverse_j24 k4 x0 x2 x2
    else
      fMd_inverse_j24 k4 x0 x2 x1
theorem wMd_inverse_b4 {X : MC} {G : GE} {n0 : Nat} (hG : gH G = true) (C : CX X G RX12 cX12_inverse pMd_inverse 3 (some .int) n0) (htab : ∀ z ∈ X.2.2.2.2.2.2.2.2.exceptionTable.toList, False) {σ : Sg} {M : Mm} {n : Nat} (k4 : Int32 → Int32 → Int32 → Option (Int32)) (H4 : ∀ (x0 : Int32) (x1 : Int32) (x2 : Int32), JS X G 3 300 0 n0 (EM X G n0 3 300 (eR rvI σ M n)) (k4 x0 x1 x2) (σ, M, n) 4 [(0, .inl x0), (1, .inl x1), (2, .inl x2)] []) (x0 : Int32) (x1 : Int32) (x2 : Int32) : JS X G 3 300 0 n0 (EM X G n0 3 300 (eR rvI σ M n)) (fMd_inverse_b4 k4 x0 x1 x2) (σ, M, n) 4 [(0, .inl x0), (1, .inl x1), (2, .inl x2)] [] := by
  unfold fMd_inverse_b4
  refine s_blk C 4 2 [0, 1, 2] (pc' := 7) (lv' := [(0, .inl x0), (1, .inl x1), (2, .inl x2)]) (st' := [.inl 16, .inl x2]) rfl ?_
  refine s_icge C 6 rfl (fun _ => ?_) (fun _ => ?_)
  · refine s_blk C 18 1 [] (pc' := 32) (lv' := []) (st' := [.inl x1]) rfl ?_
    exact s_iret C 19 rfl rfl
  refine s_blk C 7 2 [0, 1, 2] (pc' := 12) (lv' := [(0, .inl x0), (1, .inl x1), (2, .inl x2)]) (st' := [.inl x2, .inl x0]) rfl ?_
  refine s_RI (CE_EM _ _ _ _ _ _) (st := []) (fun o ho => j_callS (As := [.inl x0, .inl x2]) (st := []) C 9 rfl mf_Md_times ml_X12_144 rfl (by decide) (by decide) (Nat.le_refl _) rfl (cMd_times (CX_tr C) hG σ M n x0 x2 o ho)) (fun v1 => ?_)
  refine s_blk C 10 1 [0, 1, 2] (pc' := 16) (lv' := [(0, .inl x0), (1, .inl x1), (2, .inl x2)]) (st' := [.inl 1, .inl v1]) rfl ?_
  refine s_icne C 11 rfl (fun _ => ?_) (fun _ => ?_)
  · refine s_blk C 12 2 [0, 2] (pc' := 24) (lv' := [(0, .inl x0), (2, .inl x2)]) (st' := [.inl x2]) rfl ?_
    exact wMd_inverse_j24 hG C htab k4 H4 _ _ _
  refine s_blk C 14 1 [0, 2] (pc' := 24) (lv' := [(0, .inl x0), (2, .inl x2)]) (st' := [.inl x1]) rfl ?_
  exact wMd_inverse_j24 hG C htab k4 H4 _ _ _
def fMd_inverse_l4 (fu : Nat) : Int32 → Int32 → Int32 → Option (Int32) := Nat.rec (fun x0 x1 x2 => none) (fun _ k => fMd_inverse_b4 k) fu
theorem wMd_inverse_l4 {X : MC} {G : GE} {n0 : Nat} (hG : gH G = true) (C : CX X G RX12 cX12_inverse pMd_inverse 3 (some .int) n0) (htab : ∀ z ∈ X.2.2.2.2.2.2.2.2.exceptionTable.toList, False) {σ : Sg} {M : Mm} {n : Nat} : ∀ (fu : Nat) (x0 : Int32) (x1 : Int32) (x2 : Int32), JS X G 3 300 0 n0 (EM X G n0 3 300 (eR rvI σ M n)) (fMd_inverse_l4 fu x0 x1 x2) (σ, M, n) 4 [(0, .inl x0), (1, .inl x1), (2, .inl x2)] [] := by
  intro fu
  induction fu with
  | zero => intro x0 x1 x2; exact s_none
  | succ fu ih => intro x0 x1 x2; exact wMd_inverse_b4 hG C htab (fMd_inverse_l4 fu) ih _ _ _
def fMd_inverse (x0 : Int32) : Option (Int32) :=
  fMd_inverse_l4 FU x0 0 1
theorem wMd_inverse {X : MC} {G : GE} {n0 : Nat} (hG : gH G = true) (C : CX X G RX12 cX12_inverse pMd_inverse 3 (some .int) n0) (htab : ∀ z ∈ X.2.2.2.2.2.2.2.2.exceptionTable.toList, False) {σ : Sg} {M : Mm} {n : Nat} (x0 : Int32) : JS X G 3 300 0 n0 (EM X G n0 3 300 (eR rvI σ M n)) (fMd_inverse x0) (σ, M, n) 0 [(0, .inl x0)] [] := by
  unfold fMd_inverse
  refine s_blk C 0 4 [0, 1, 2] (pc' := 4) (lv' := [(0, .inl x0), (1, .inl 0), (2, .inl 1)]) (st' := []) rfl ?_
  exact wMd_inverse_l4 hG C htab FU _ _ _
theorem cMd_inverse {l : Launch} {G : GE} (htr : l.stackTraces = false) (hG : gH G = true) (σ : Sg) (M : Mm) (n : Nat) (x0 : Int32) : ∀ o, fMd_inverse x0 = some o → MetX l G yX12_inverse cX12_inverse 3 (some .int) 3 300 [.inl x0] (σ, M, n) ((eR rvI σ M n) o) :=
  c_ofX (by decide) kMd_inverse htr rfl rfl fun X _ _ C htab => wMd_inverse hG C htab x0
def pMd_turns_0 : List BR := [(0, .iload_n 1, 1, 0, 1), (1, .istore_n 2, 1, 0, 2), (2, .aload_n 0, 1, 0, 3), (3, .getfield 125, 3, 0, 6), (6, .iconst 4, 1, 4, 7), (7, .iload_n 2, 1, 0, 8), (8, .imul, 1, 0, 9), (9, .iload_n 1, 1, 0, 10), (10, .iadd, 1, 0, 11), (11, .iaload, 1, 0, 12), (12, .ifCond .ne (9), 3, 0, 21), (15, .iinc 2 (1), 3, 1, 18), (18, .goto (-16), 3, 0, 2), (21, .iconst 0, 1, 0, 22), (22, .istore_n 3, 1, 0, 23), (23, .iload_n 3, 1, 0, 24), (24, .iconst 4, 1, 4, 25), (25, .if_icmp .ge (53), 3, 0, 78), (28, .aload_n 0, 1, 0, 29), (29, .getfield 125, 3, 0, 32), (32, .iconst 4, 1, 4, 33), (33, .iload_n 2, 1, 0, 34), (34, .imul, 1, 0, 35), (35, .iload_n 3, 1, 0, 36), (36, .iadd, 1, 0, 37), (37, .iaload, 1, 0, 38), (38, .istore 4, 2, 0, 40), (40, .aload_n 0, 1, 0, 41), (41, .getfield 125, 3, 0, 44), (44, .iconst 4, 1, 4, 45), (45, .iload_n 2, 1, 0, 46), (46, .imul, 1, 0, 47), (47, .iload_n 3, 1, 0, 48), (48, .iadd, 1, 0, 49), (49, .aload_n 0, 1, 0, 50), (50, .getfield 125, 3, 0, 53), (53, .iconst 4, 1, 4, 54), (54, .iload_n 1, 1, 0, 55), (55, .imul, 1, 0, 56), (56, .iload_n 3, 1, 0, 57)]
theorem kMd_turns_0 : bOK cX12_turns 7 pMd_turns_0 = true := by decide +kernel
def pMd_turns_1 : List BR := [(57, .iadd, 1, 0, 58), (58, .iaload, 1, 0, 59), (59, .iastore, 1, 0, 60), (60, .aload_n 0, 1, 0, 61), (61, .getfield 125, 3, 0, 64), (64, .iconst 4, 1, 4, 65), (65, .iload_n 1, 1, 0, 66), (66, .imul, 1, 0, 67), (67, .iload_n 3, 1, 0, 68), (68, .iadd, 1, 0, 69), (69, .iload 4, 2, 0, 71), (71, .iastore, 1, 0, 72), (72, .iinc 3 (1), 3, 1, 75), (75, .goto (-52), 3, 0, 23), (78, .aload_n 0, 1, 0, 79), (79, .getfield 125, 3, 0, 82), (82, .iconst 4, 1, 4, 83), (83, .iload_n 1, 1, 0, 84), (84, .imul, 1, 0, 85), (85, .iload_n 1, 1, 0, 86), (86, .iadd, 1, 0, 87), (87, .iaload, 1, 0, 88), (88, .invokestatic 203, 3, 0, 91), (91, .istore_n 3, 1, 0, 92), (92, .iconst 0, 1, 0, 93), (93, .istore 4, 2, 0, 95), (95, .iload 4, 2, 0, 97), (97, .iconst 4, 1, 4, 98), (98, .if_icmp .ge (35), 3, 0, 133), (101, .aload_n 0, 1, 0, 102), (102, .getfield 125, 3, 0, 105), (105, .iconst 4, 1, 4, 106), (106, .iload_n 1, 1, 0, 107), (107, .imul, 1, 0, 108), (108, .iload 4, 2, 0, 110), (110, .iadd, 1, 0, 111), (111, .iload_n 3, 1, 0, 112), (112, .aload_n 0, 1, 0, 113), (113, .getfield 125, 3, 0, 116), (116, .iconst 4, 1, 4, 117)]
theorem kMd_turns_1 : bOK cX12_turns 7 pMd_turns_1 = true := by decide +kernel
def pMd_turns_2 : List BR := [(117, .iload_n 1, 1, 0, 118), (118, .imul, 1, 0, 119), (119, .iload 4, 2, 0, 121), (121, .iadd, 1, 0, 122), (122, .iaload, 1, 0, 123), (123, .invokestatic 144, 3, 0, 126), (126, .iastore, 1, 0, 127), (127, .iinc 4 (1), 3, 1, 130), (130, .goto (-35), 3, 0, 95), (133, .iconst 0, 1, 0, 134), (134, .istore 4, 2, 0, 136), (136, .iload 4, 2, 0, 138), (138, .iconst 3, 1, 3, 139), (139, .if_icmp .ge (74), 3, 0, 213), (142, .aload_n 0, 1, 0, 143), (143, .getfield 125, 3, 0, 146), (146, .iconst 4, 1, 4, 147), (147, .iload 4, 2, 0, 149), (149, .imul, 1, 0, 150), (150, .iload_n 1, 1, 0, 151), (151, .iadd, 1, 0, 152), (152, .iaload, 1, 0, 153), (153, .istore 5, 2, 0, 155), (155, .iconst 0, 1, 0, 156), (156, .istore 6, 2, 0, 158), (158, .iload 6, 2, 0, 160), (160, .iconst 4, 1, 4, 161), (161, .if_icmp .ge (46), 3, 0, 207), (164, .iload 4, 2, 0, 166), (166, .iload_n 1, 1, 0, 167), (167, .if_icmp .eq (40), 3, 0, 207), (170, .aload_n 0, 1, 0, 171), (171, .getfield 125, 3, 0, 174), (174, .iconst 4, 1, 4, 175), (175, .iload 4, 2, 0, 177), (177, .imul, 1, 0, 178), (178, .iload 6, 2, 0, 180), (180, .iadd, 1, 0, 181), (181, .dup2, 1, 0, 182), (182, .iaload, 1, 0, 183)]
theorem kMd_turns_2 : bOK cX12_turns 7 pMd_turns_2 = true := by decide +kernel
def pMd_turns_3 : List BR := [(183, .iload 5, 2, 0, 185), (185, .aload_n 0, 1, 0, 186), (186, .getfield 125, 3, 0, 189), (189, .iconst 4, 1, 4, 190), (190, .iload_n 1, 1, 0, 191), (191, .imul, 1, 0, 192), (192, .iload 6, 2, 0, 194), (194, .iadd, 1, 0, 195), (195, .iaload, 1, 0, 196), (196, .invokestatic 144, 3, 0, 199), (199, .ixor, 1, 0, 200), (200, .iastore, 1, 0, 201), (201, .iinc 6 (1), 3, 1, 204), (204, .goto (-46), 3, 0, 158), (207, .iinc 4 (1), 3, 1, 210), (210, .goto (-74), 3, 0, 136), (213, .return_, 1, 0, 214)]
theorem kMd_turns_3 : bOK cX12_turns 7 pMd_turns_3 = true := by decide +kernel
def pMd_turns : List BR := (pMd_turns_0 ++ (pMd_turns_1 ++ (pMd_turns_2 ++ pMd_turns_3)))
theorem kMd_turns : bOK cX12_turns 7 pMd_turns = true := (bOK_app kMd_turns_0 (bOK_app kMd_turns_1 (bOK_app kMd_turns_2 kMd_turns_3)))
def fMd_turns_j207 (k136 : Int32 → Int32 → Sg → Option (Unit × Sg)) (x1 : Int32) (x4 : Int32) (σ : Sg) : Option (Unit × Sg) :=
  k136 x1 (x4 + 1) σ
theorem wMd_turns_j207 {X : MC} {G : GE} {n0 : Nat} (hG : gH G = true) (C : CX X G RX12 cX12_turns pMd_turns 7 none n0) (htab : ∀ z ∈ X.2.2.2.2.2.2.2.2.exceptionTable.toList, False) {M : Mm} {n : Nat} (k136 : Int32 → Int32 → Sg → Option (Unit × Sg)) (H136 : ∀ (x1 : Int32) (x4 : Int32) (σ : Sg), JS X G 7 300 0 n0 (EM X G n0 4 300 (eS rvU M n)) (k136 x1 x4 σ) (σ, M, n) 136 [(0, .inr (.inl (some (gM G)))), (1, .inl x1), (4, .inl x4)] []) (x1 : Int32) (x4 : Int32) (σ : Sg) : JS X G 7 300 0 n0 (EM X G n0 4 300 (eS rvU M n)) (fMd_turns_j207 k136 x1 x4 σ) (σ, M, n) 207 [(0, .inr (.inl (some (gM G)))), (1, .inl x1), (4, .inl x4)] [] := by
  unfold fMd_turns_j207
  refine s_blk C 134 2 [0, 1, 4] (pc' := 136) (lv' := [(0, .inr (.inl (some (gM G)))), (1, .inl x1), (4, .inl (x4 + 1))]) (st' := []) rfl ?_
  exact H136 _ _ _
def fMd_turns_b158 (k136 : Int32 → Int32 → Sg → Option (Unit × Sg)) (k158 : Int32 → Int32 → Int32 → Int32 → Sg → Option (Unit × Sg)) (x1 : Int32) (x4 : Int32) (x5 : Int32) (x6 : Int32) (σ : Sg) : Option (Unit × Sg) :=
  if 4 ≤ x6 then
    fMd_turns_j207 k136 x1 x4 σ
  else
    if x4 = x1 then
      fMd_turns_j207 k136 x1 x4 σ
    else
      mgA 46 ((4 * x4) + x6) σ fun v1 =>
      mgA 46 ((4 * x1) + x6) σ fun v2 =>
      bdR (fMd_times x5 v2) fun v3 =>
      mpA 46 ((4 * x4) + x6) (v1 ^^^ v3) σ fun σ4 =>
      k158 x1 x4 x5 (x6 + 1) σ4
theorem wMd_turns_b158 {X : MC} {G : GE} {n0 : Nat} (hG : gH G = true) (C : CX X G RX12 cX12_turns pMd_turns 7 none n0) (htab : ∀ z ∈ X.2.2.2.2.2.2.2.2.exceptionTable.toList, False) {M : Mm} {n : Nat} (k136 : Int32 → Int32 → Sg → Option (Unit × Sg)) (H136 : ∀ (x1 : Int32) (x4 : Int32) (σ : Sg), JS X G 7 300 0 n0 (EM X G n0 4 300 (eS rvU M n)) (k136 x1 x4 σ) (σ, M, n) 136 [(0, .inr (.inl (some (gM G)))), (1, .inl x1), (4, .inl x4)] []) (k158 : Int32 → Int32 → Int32 → Int32 → Sg → Option (Unit × Sg)) (H158 : ∀ (x1 : Int32) (x4 : Int32) (x5 : Int32) (x6 : Int32) (σ : Sg), JS X G 7 300 0 n0 (EM X G n0 4 300 (eS rvU M n)) (k158 x1 x4 x5 x6 σ) (σ, M, n) 158 [(0, .inr (.inl (some (gM G)))), (1, .inl x1), (4, .inl x4), (5, .inl x5), (6, .inl x6)] []) (x1 : Int32) (x4 : Int32) (x5 : Int32) (x6 : Int32) (σ : Sg) : JS X G 7 300 0 n0 (EM X G n0 4 300 (eS rvU M n)) (fMd_turns_b158 k136 k158 x1 x4 x5 x6 σ) (σ, M, n) 158 [(0, .inr (.inl (some (gM G)))), (1, .inl x1), (4, .inl x4), (5, .inl x5), (6, .inl x6)] [] := by
  unfold fMd_turns_b158
  refine s_blk C 105 2 [0, 1, 4, 5, 6] (pc' := 161) (lv' := [(0, .inr (.inl (some (gM G)))), (1, .inl x1), (4, .inl x4), (5, .inl x5), (6, .inl x6)]) (st' := [.inl 4, .inl x6]) rfl ?_
  refine s_icge C 107 rfl (fun _ => ?_) (fun _ => ?_)
  · refine s_blk C 0 0 [0, 1, 4] (pc' := 207) (lv' := [(0, .inr (.inl (some (gM G)))), (1, .inl x1), (4, .inl x4)]) (st' := []) rfl ?_
    exact wMd_turns_j207 hG C htab k136 H136 _ _ _
  refine s_blk C 108 2 [0, 1, 4, 5, 6] (pc' := 167) (lv' := [(0, .inr (.inl (some (gM G)))), (1, .inl x1), (4, .inl x4), (5, .inl x5), (6, .inl x6)]) (st' := [.inl x1, .inl x4]) rfl ?_
  refine s_iceq C 110 rfl (fun _ => ?_) (fun _ => ?_)
  · refine s_blk C 0 0 [0, 1, 4] (pc' := 207) (lv' := [(0, .inr (.inl (some (gM G)))), (1, .inl x1), (4, .inl x4)]) (st' := []) rfl ?_
    exact wMd_turns_j207 hG C htab k136 H136 _ _ _
  refine s_blk C 111 1 [0, 1, 4, 5, 6] (pc' := 171) (lv' := [(0, .inr (.inl (some (gM G)))), (1, .inl x1), (4, .inl x4), (5, .inl x5), (6, .inl x6)]) (st' := [.inr (.inl (some (gM G)))]) rfl ?_
  refine s_mR hG C 112 rfl 46 fl_X12_125 rfl ?_
  refine s_blk C 113 6 [0, 1, 4, 5, 6] (pc' := 182) (lv' := [(0, .inr (.inl (some (gM G)))), (1, .inl x1), (4, .inl x4), (5, .inl x5), (6, .inl x6)]) (st' := [.inl ((4 * x4) + x6), .inr (.inl (some (gA G 46))), .inl ((4 * x4) + x6), .inr (.inl (some (gA G 46)))]) rfl ?_
  refine s_mldI hG C 119 rfl rfl rfl (fun v1 => ?_)
  refine s_blk C 120 2 [0, 1, 4, 5, 6] (pc' := 186) (lv' := [(0, .inr (.inl (some (gM G)))), (1, .inl x1), (4, .inl x4), (5, .inl x5), (6, .inl x6)]) (st' := [.inr (.inl (some (gM G))), .inl x5, .inl v1, .inl ((4 * x4) + x6), .inr (.inl (some (gA G 46)))]) rfl ?_
  refine s_mR hG C 122 rfl 46 fl_X12_125 rfl ?_
  refine s_blk C 123 5 [0, 1, 4, 5, 6] (pc' := 195) (lv' := [(0, .inr (.inl (some (gM G)))), (1, .inl x1), (4, .inl x4), (5, .inl x5), (6, .inl x6)]) (st' := [.inl ((4 * x1) + x6), .inr (.inl (some (gA G 46))), .inl x5, .inl v1, .inl ((4 * x4) + x6), .inr (.inl (some (gA G 46)))]) rfl ?_
  refine s_mldI hG C 128 rfl rfl rfl (fun v2 => ?_)
  refine s_RI (CE_EM _ _ _ _ _ _) (st := [.inl v1, .inl ((4 * x4) + x6), .inr (.inl (some (gA G 46)))]) (fun o ho => j_callS (As := [.inl x5, .inl v2]) (st := [.inl v1, .inl ((4 * x4) + x6), .inr (.inl (some (gA G 46)))]) C 129 rfl mf_Md_times ml_X12_144 rfl (by decide) (by decide) (Nat.le_refl _) rfl (cMd_times (CX_tr C) hG σ M n x5 v2 o ho)) (fun v3 => ?_)
  refine s_blk C 130 1 [0, 1, 4, 5, 6] (pc' := 200) (lv' := [(0, .inr (.inl (some (gM G)))), (1, .inl x1), (4, .inl x4), (5, .inl x5), (6, .inl x6)]) (st' := [.inl (v1 ^^^ v3), .inl ((4 * x4) + x6), .inr (.inl (some (gA G 46)))]) rfl ?_
  refine s_mstI hG C 131 rfl rfl rfl (fun σ4 _ => ?_)
  refine s_blk C 132 2 [0, 1, 4, 5, 6] (pc' := 158) (lv' := [(0, .inr (.inl (some (gM G)))), (1, .inl x1), (4, .inl x4), (5, .inl x5), (6, .inl (x6 + 1))]) (st' := []) rfl ?_
  exact H158 _ _ _ _ _
def fMd_turns_l158 (k136 : Int32 → Int32 → Sg → Option (Unit × Sg)) (fu : Nat) : Int32 → Int32 → Int32 → Int32 → Sg → Option (Unit × Sg) := Nat.rec (fun x1 x4 x5 x6 σ => none) (fun _ k => fMd_turns_b158 k136 k) fu
theorem wMd_turns_l158 {X : MC} {G : GE} {n0 : Nat} (hG : gH G = true) (C : CX X G RX12 cX12_turns pMd_turns 7 none n0) (htab : ∀ z ∈ X.2.2.2.2.2.2.2.2.exceptionTable.toList, False) {M : Mm} {n : Nat} (k136 : Int32 → Int32 → Sg → Option (Unit × Sg)) (H136 : ∀ (x1 : Int32) (x4 : Int32) (σ : Sg), JS X G 7 300 0 n0 (EM X G n0 4 300 (eS rvU M n)) (k136 x1 x4 σ) (σ, M, n) 136 [(0, .inr (.inl (some (gM G)))), (1, .inl x1), (4, .inl x4)] []) : ∀ (fu : Nat) (x1 : Int32) (x4 : Int32) (x5 : Int32) (x6 : Int32) (σ : Sg), JS X G 7 300 0 n0 (EM X G n0 4 300 (eS rvU M n)) (fMd_turns_l158 k136 fu x1 x4 x5 x6 σ) (σ, M, n) 158 [(0, .inr (.inl (some (gM G)))), (1, .inl x1), (4, .inl x4), (5, .inl x5), (6, .inl x6)] [] := by
  intro fu
  induction fu with
  | zero => intro x1 x4 x5 x6 σ; exact s_none
  | succ fu ih => intro x1 x4 x5 x6 σ; exact wMd_turns_b158 hG C htab k136 H136 (fMd_turns_l158 k136 fu) ih _ _ _ _ _
def fMd_turns_b136 (k136 : Int32 → Int32 → Sg → Option (Unit × Sg)) (x1 : Int32) (x4 : Int32) (σ : Sg) : Option (Unit × Sg) :=
  if 3 ≤ x4 then
    some ((), σ)
  else
    mgA 46 ((4 * x4) + x1) σ fun v1 =>
    fMd_turns_l158 k136 FU x1 x4 v1 0 σ
theorem wMd_turns_b136 {X : MC} {G : GE} {n0 : Nat} (hG : gH G = true) (C : CX X G RX12 cX12_turns pMd_turns 7 none n0) (htab : ∀ z ∈ X.2.2.2.2.2.2.2.2.exceptionTable.toList, False) {M : Mm} {n : Nat} (k136 : Int32 → Int32 → Sg → Option (Unit × Sg)) (H136 : ∀ (x1 : Int32) (x4 : Int32) (σ : Sg), JS X G 7 300 0 n0 (EM X G n0 4 300 (eS rvU M n)) (k136 x1 x4 σ) (σ, M, n) 136 [(0, .inr (.inl (some (gM G)))), (1, .inl x1), (4, .inl x4)] []) (x1 : Int32) (x4 : Int32) (σ : Sg) : JS X G 7 300 0 n0 (EM X G n0 4 300 (eS rvU M n)) (fMd_turns_b136 k136 x1 x4 σ) (σ, M, n) 136 [(0, .inr (.inl (some (gM G)))), (1, .inl x1), (4, .inl x4)] [] := by
  unfold fMd_turns_b136
  refine s_blk C 91 2 [0, 1, 4] (pc' := 139) (lv' := [(0, .inr (.inl (some (gM G)))), (1, .inl x1), (4, .inl x4)]) (st' := [.inl 3, .inl x4]) rfl ?_
  refine s_icge C 93 rfl (fun _ => ?_) (fun _ => ?_)
  · exact s_vret C 136 rfl rfl
  refine s_blk C 94 1 [0, 1, 4] (pc' := 143) (lv' := [(0, .inr (.inl (some (gM G)))), (1, .inl x1), (4, .inl x4)]) (st' := [.inr (.inl (some (gM G)))]) rfl ?_
  refine s_mR hG C 95 rfl 46 fl_X12_125 rfl ?_
  refine s_blk C 96 5 [0, 1, 4] (pc' := 152) (lv' := [(0, .inr (.inl (some (gM G)))), (1, .inl x1), (4, .inl x4)]) (st' := [.inl ((4 * x4) + x1), .inr (.inl (some (gA G 46)))]) rfl ?_
  refine s_mldI hG C 101 rfl rfl rfl (fun v1 => ?_)
  refine s_blk C 102 3 [0, 1, 4, 5, 6] (pc' := 158) (lv' := [(0, .inr (.inl (some (gM G)))), (1, .inl x1), (4, .inl x4), (5, .inl v1), (6, .inl 0)]) (st' := []) rfl ?_
  exact wMd_turns_l158 hG C htab k136 H136 FU _ _ _ _ _
def fMd_turns_l136 (fu : Nat) : Int32 → Int32 → Sg → Option (Unit × Sg) := Nat.rec (fun x1 x4 σ => none) (fun _ k => fMd_turns_b136 k) fu
theorem wMd_turns_l136 {X : MC} {G : GE} {n0 : Nat} (hG : gH G = true) (C : CX X G RX12 cX12_turns pMd_turns 7 none n0) (htab : ∀ z ∈ X.2.2.2.2.2.2.2.2.exceptionTable.toList, False) {M : Mm} {n : Nat} : ∀ (fu : Nat) (x1 : Int32) (x4 : Int32) (σ : Sg), JS X G 7 300 0 n0 (EM X G n0 4 300 (eS rvU M n)) (fMd_turns_l136 fu x1 x4 σ) (σ, M, n) 136 [(0, .inr (.inl (some (gM G)))), (1, .inl x1), (4, .inl x4)] [] := by
  intro fu
  induction fu with
  | zero => intro x1 x4 σ; exact s_none
  | succ fu ih => intro x1 x4 σ; exact wMd_turns_b136 hG C htab (fMd_turns_l136 fu) ih _ _ _
def fMd_turns_b95 (k95 : Int32 → Int32 → Int32 → Sg → Option (Unit × Sg)) (x1 : Int32) (x3 : Int32) (x4 : Int32) (σ : Sg) : Option (Unit × Sg) :=
  if 4 ≤ x4 then
    fMd_turns_l136 FU x1 0 σ
  else
    mgA 46 ((4 * x1) + x4) σ fun v1 =>
    bdR (fMd_times x3 v1) fun v2 =>
    mpA 46 ((4 * x1) + x4) v2 σ fun σ3 =>
    k95 x1 x3 (x4 + 1) σ3
theorem wMd_turns_b95 {X : MC} {G : GE} {n0 : Nat} (hG : gH G = true) (C : CX X G RX12 cX12_turns pMd_turns 7 none n0) (htab : ∀ z ∈ X.2.2.2.2.2.2.2.2.exceptionTable.toList, False) {M : Mm} {n : Nat} (k95 : Int32 → Int32 → Int32 → Sg → Option (Unit × Sg)) (H95 : ∀ (x1 : Int32) (x3 : Int32) (x4 : Int32) (σ : Sg), JS X G 7 300 0 n0 (EM X G n0 4 300 (eS rvU M n)) (k95 x1 x3 x4 σ) (σ, M, n) 95 [(0, .inr (.inl (some (gM G)))), (1, .inl x1), (3, .inl x3), (4, .inl x4)] []) (x1 : Int32) (x3 : Int32) (x4 : Int32) (σ : Sg) : JS X G 7 300 0 n0 (EM X G n0 4 300 (eS rvU M n)) (fMd_turns_b95 k95 x1 x3 x4 σ) (σ, M, n) 95 [(0, .inr (.inl (some (gM G)))), (1, .inl x1), (3, .inl x3), (4, .inl x4)] [] := by
  unfold fMd_turns_b95
  refine s_blk C 66 2 [0, 1, 3, 4] (pc' := 98) (lv' := [(0, .inr (.inl (some (gM G)))), (1, .inl x1), (3, .inl x3), (4, .inl x4)]) (st' := [.inl 4, .inl x4]) rfl ?_
  refine s_icge C 68 rfl (fun _ => ?_) (fun _ => ?_)
  · refine s_blk C 89 2 [0, 1, 4] (pc' := 136) (lv' := [(0, .inr (.inl (some (gM G)))), (1, .inl x1), (4, .inl 0)]) (st' := []) rfl ?_
    exact wMd_turns_l136 hG C htab FU _ _ _
  refine s_blk C 69 1 [0, 1, 3, 4] (pc' := 102) (lv' := [(0, .inr (.inl (some (gM G)))), (1, .inl x1), (3, .inl x3), (4, .inl x4)]) (st' := [.inr (.inl (some (gM G)))]) rfl ?_
  refine s_mR hG C 70 rfl 46 fl_X12_125 rfl ?_
  refine s_blk C 71 7 [0, 1, 3, 4] (pc' := 113) (lv' := [(0, .inr (.inl (some (gM G)))), (1, .inl x1), (3, .inl x3), (4, .inl x4)]) (st' := [.inr (.inl (some (gM G))), .inl x3, .inl ((4 * x1) + x4), .inr (.inl (some (gA G 46)))]) rfl ?_
  refine s_mR hG C 78 rfl 46 fl_X12_125 rfl ?_
  refine s_blk C 79 5 [0, 1, 3, 4] (pc' := 122) (lv' := [(0, .inr (.inl (some (gM G)))), (1, .inl x1), (3, .inl x3), (4, .inl x4)]) (st' := [.inl ((4 * x1) + x4), .inr (.inl (some (gA G 46))), .inl x3, .inl ((4 * x1) + x4), .inr (.inl (some (gA G 46)))]) rfl ?_
  refine s_mldI hG C 84 rfl rfl rfl (fun v1 => ?_)
  refine s_RI (CE_EM _ _ _ _ _ _) (st := [.inl ((4 * x1) + x4), .inr (.inl (some (gA G 46)))]) (fun o ho => j_callS (As := [.inl x3, .inl v1]) (st := [.inl ((4 * x1) + x4), .inr (.inl (some (gA G 46)))]) C 85 rfl mf_Md_times ml_X12_144 rfl (by decide) (by decide) (Nat.le_refl _) rfl (cMd_times (CX_tr C) hG σ M n x3 v1 o ho)) (fun v2 => ?_)
  refine s_mstI hG C 86 rfl rfl rfl (fun σ3 _ => ?_)
  refine s_blk C 87 2 [0, 1, 3, 4] (pc' := 95) (lv' := [(0, .inr (.inl (some (gM G)))), (1, .inl x1), (3, .inl x3), (4, .inl (x4 + 1))]) (st' := []) rfl ?_
  exact H95 _ _ _ _
def fMd_turns_l95 (fu : Nat) : Int32 → Int32 → Int32 → Sg → Option (Unit × Sg) := Nat.rec (fun x1 x3 x4 σ => none) (fun _ k => fMd_turns_b95 k) fu
theorem wMd_turns_l95 {X : MC} {G : GE} {n0 : Nat} (hG : gH G = true) (C : CX X G RX12 cX12_turns pMd_turns 7 none n0) (htab : ∀ z ∈ X.2.2.2.2.2.2.2.2.exceptionTable.toList, False) {M : Mm} {n : Nat} : ∀ (fu : Nat) (x1 : Int32) (x3 : Int32) (x4 : Int32) (σ : Sg), JS X G 7 300 0 n0 (EM X G n0 4 300 (eS rvU M n)) (fMd_turns_l95 fu x1 x3 x4 σ) (σ, M, n) 95 [(0, .inr (.inl (some (gM G)))), (1, .inl x1), (3, .inl x3), (4, .inl x4)] [] := by
  intro fu
  induction fu with
  | zero => intro x1 x3 x4 σ; exact s_none
  | succ fu ih => intro x1 x3 x4 σ; exact wMd_turns_b95 hG C htab (fMd_turns_l95 fu) ih _ _ _ _
def fMd_turns_b23 (k23 : Int32 → Int32 → Int32 → Sg → Option (Unit × Sg)) (x1 : Int32) (x2 : Int32) (x3 : Int32) (σ : Sg) : Option (Unit × Sg) :=
  if 4 ≤ x3 then
    mgA 46 ((4 * x1) + x1) σ fun v1 =>
    bdR (fMd_inverse v1) fun v2 =>
    fMd_turns_l95 FU x1 v2 0 σ
  else
    mgA 46 ((4 * x2) + x3) σ fun v3 =>
    mgA 46 ((4 * x1) + x3) σ fun v4 =>
    mpA 46 ((4 * x2) + x3) v4 σ fun σ5 =>
    mpA 46 ((4 * x1) + x3) v3 σ5 fun σ6 =>
    k23 x1 x2 (x3 + 1) σ6
theorem wMd_turns_b23 {X : MC} {G : GE} {n0 : Nat} (hG : gH G = true) (C : CX X G RX12 cX12_turns pMd_turns 7 none n0) (htab : ∀ z ∈ X.2.2.2.2.2.2.2.2.exceptionTable.toList, False) {M : Mm} {n : Nat} (k23 : Int32 → Int32 → Int32 → Sg → Option (Unit × Sg)) (H23 : ∀ (x1 : Int32) (x2 : Int32) (x3 : Int32) (σ : Sg), JS X G 7 300 0 n0 (EM X G n0 4 300 (eS rvU M n)) (k23 x1 x2 x3 σ) (σ, M, n) 23 [(0, .inr (.inl (some (gM G)))), (1, .inl x1), (2, .inl x2), (3, .inl x3)] []) (x1 : Int32) (x2 : Int32) (x3 : Int32) (σ : Sg) : JS X G 7 300 0 n0 (EM X G n0 4 300 (eS rvU M n)) (fMd_turns_b23 k23 x1 x2 x3 σ) (σ, M, n) 23 [(0, .inr (.inl (some (gM G)))), (1, .inl x1), (2, .inl x2), (3, .inl x3)] [] := by
  unfold fMd_turns_b23
  refine s_blk C 15 2 [0, 1, 2, 3] (pc' := 25) (lv' := [(0, .inr (.inl (some (gM G)))), (1, .inl x1), (2, .inl x2), (3, .inl x3)]) (st' := [.inl 4, .inl x3]) rfl ?_
  refine s_icge C 17 rfl (fun _ => ?_) (fun _ => ?_)
  · refine s_blk C 54 1 [0, 1] (pc' := 79) (lv' := [(0, .inr (.inl (some (gM G)))), (1, .inl x1)]) (st' := [.inr (.inl (some (gM G)))]) rfl ?_
    refine s_mR hG C 55 rfl 46 fl_X12_125 rfl ?_
    refine s_blk C 56 5 [0, 1] (pc' := 87) (lv' := [(0, .inr (.inl (some (gM G)))), (1, .inl x1)]) (st' := [.inl ((4 * x1) + x1), .inr (.inl (some (gA G 46)))]) rfl ?_
    refine s_mldI hG C 61 rfl rfl rfl (fun v1 => ?_)
    refine s_RI (CE_EM _ _ _ _ _ _) (st := []) (fun o ho => j_callS (As := [.inl v1]) (st := []) C 62 rfl mf_Md_inverse ml_X12_203 rfl (by decide) (by decide) (Nat.le_refl _) rfl (cMd_inverse (CX_tr C) hG σ M n v1 o ho)) (fun v2 => ?_)
    refine s_blk C 63 3 [0, 1, 3, 4] (pc' := 95) (lv' := [(0, .inr (.inl (some (gM G)))), (1, .inl x1), (3, .inl v2), (4, .inl 0)]) (st' := []) rfl ?_
    exact wMd_turns_l95 hG C htab FU _ _ _ _
  refine s_blk C 18 1 [0, 1, 2, 3] (pc' := 29) (lv' := [(0, .inr (.inl (some (gM G)))), (1, .inl x1), (2, .inl x2), (3, .inl x3)]) (st' := [.inr (.inl (some (gM G)))]) rfl ?_
  refine s_mR hG C 19 rfl 46 fl_X12_125 rfl ?_
  refine s_blk C 20 5 [0, 1, 2, 3] (pc' := 37) (lv' := [(0, .inr (.inl (some (gM G)))), (1, .inl x1), (2, .inl x2), (3, .inl x3)]) (st' := [.inl ((4 * x2) + x3), .inr (.inl (some (gA G 46)))]) rfl ?_
  refine s_mldI hG C 25 rfl rfl rfl (fun v3 => ?_)
  refine s_blk C 26 2 [0, 1, 2, 3, 4] (pc' := 41) (lv' := [(0, .inr (.inl (some (gM G)))), (1, .inl x1), (2, .inl x2), (3, .inl x3), (4, .inl v3)]) (st' := [.inr (.inl (some (gM G)))]) rfl ?_
  refine s_mR hG C 28 rfl 46 fl_X12_125 rfl ?_
  refine s_blk C 29 6 [0, 1, 2, 3, 4] (pc' := 50) (lv' := [(0, .inr (.inl (some (gM G)))), (1, .inl x1), (2, .inl x2), (3, .inl x3), (4, .inl v3)]) (st' := [.inr (.inl (some (gM G))), .inl ((4 * x2) + x3), .inr (.inl (some (gA G 46)))]) rfl ?_
  refine s_mR hG C 35 rfl 46 fl_X12_125 rfl ?_
  refine s_blk C 36 5 [0, 1, 2, 3, 4] (pc' := 58) (lv' := [(0, .inr (.inl (some (gM G)))), (1, .inl x1), (2, .inl x2), (3, .inl x3), (4, .inl v3)]) (st' := [.inl ((4 * x1) + x3), .inr (.inl (some (gA G 46))), .inl ((4 * x2) + x3), .inr (.inl (some (gA G 46)))]) rfl ?_
  refine s_mldI hG C 41 rfl rfl rfl (fun v4 => ?_)
  refine s_mstI hG C 42 rfl rfl rfl (fun σ5 _ => ?_)
  refine s_blk C 43 1 [0, 1, 2, 3, 4] (pc' := 61) (lv' := [(0, .inr (.inl (some (gM G)))), (1, .inl x1), (2, .inl x2), (3, .inl x3), (4, .inl v3)]) (st' := [.inr (.inl (some (gM G)))]) rfl ?_
  refine s_mR hG C 44 rfl 46 fl_X12_125 rfl ?_
  refine s_blk C 45 6 [0, 1, 2, 3] (pc' := 71) (lv' := [(0, .inr (.inl (some (gM G)))), (1, .inl x1), (2, .inl x2), (3, .inl x3)]) (st' := [.inl v3, .inl ((4 * x1) + x3), .inr (.inl (some (gA G 46)))]) rfl ?_
  refine s_mstI hG C 51 rfl rfl rfl (fun σ6 _ => ?_)
  refine s_blk C 52 2 [0, 1, 2, 3] (pc' := 23) (lv' := [(0, .inr (.inl (some (gM G)))), (1, .inl x1), (2, .inl x2), (3, .inl (x3 + 1))]) (st' := []) rfl ?_
  exact H23 _ _ _ _
def fMd_turns_l23 (fu : Nat) : Int32 → Int32 → Int32 → Sg → Option (Unit × Sg) := Nat.rec (fun x1 x2 x3 σ => none) (fun _ k => fMd_turns_b23 k) fu
theorem wMd_turns_l23 {X : MC} {G : GE} {n0 : Nat} (hG : gH G = true) (C : CX X G RX12 cX12_turns pMd_turns 7 none n0) (htab : ∀ z ∈ X.2.2.2.2.2.2.2.2.exceptionTable.toList, False) {M : Mm} {n : Nat} : ∀ (fu : Nat) (x1 : Int32) (x2 : Int32) (x3 : Int32) (σ : Sg), JS X G 7 300 0 n0 (EM X G n0 4 300 (eS rvU M n)) (fMd_turns_l23 fu x1 x2 x3 σ) (σ, M, n) 23 [(0, .inr (.inl (some (gM G)))), (1, .inl x1), (2, .inl x2), (3, .inl x3)] [] := by
  intro fu
  induction fu with
  | zero => intro x1 x2 x3 σ; exact s_none
  | succ fu ih => intro x1 x2 x3 σ; exact wMd_turns_b23 hG C htab (fMd_turns_l23 fu) ih _ _ _ _
def fMd_turns_b2 (k2 : Int32 → Int32 → Sg → Option (Unit × Sg)) (x1 : Int32) (x2 : Int32) (σ : Sg) : Option (Unit × Sg) :=
  mgA 46 ((4 * x2) + x1) σ fun v1 =>
  if v1 = 0 then
    k2 x1 (x2 + 1) σ
  else
    fMd_turns_l23 FU x1 x2 0 σ
theorem wMd_turns_b2 {X : MC} {G : GE} {n0 : Nat} (hG : gH G = true) (C : CX X G RX12 cX12_turns pMd_turns 7 none n0) (htab : ∀ z ∈ X.2.2.2.2.2.2.2.2.exceptionTable.toList, False) {M : Mm} {n : Nat} (k2 : Int32 → Int32 → Sg → Option (Unit × Sg)) (H2 : ∀ (x1 : Int32) (x2 : Int32) (σ : Sg), JS X G 7 300 0 n0 (EM X G n0 4 300 (eS rvU M n)) (k2 x1 x2 σ) (σ, M, n) 2 [(0, .inr (.inl (some (gM G)))), (1, .inl x1), (2, .inl x2)] []) (x1 : Int32) (x2 : Int32) (σ : Sg) : JS X G 7 300 0 n0 (EM X G n0 4 300 (eS rvU M n)) (fMd_turns_b2 k2 x1 x2 σ) (σ, M, n) 2 [(0, .inr (.inl (some (gM G)))), (1, .inl x1), (2, .inl x2)] [] := by
  unfold fMd_turns_b2
  refine s_blk C 2 1 [0, 1, 2] (pc' := 3) (lv' := [(0, .inr (.inl (some (gM G)))), (1, .inl x1), (2, .inl x2)]) (st' := [.inr (.inl (some (gM G)))]) rfl ?_
  refine s_mR hG C 3 rfl 46 fl_X12_125 rfl ?_
  refine s_blk C 4 5 [0, 1, 2] (pc' := 11) (lv' := [(0, .inr (.inl (some (gM G)))), (1, .inl x1), (2, .inl x2)]) (st' := [.inl ((4 * x2) + x1), .inr (.inl (some (gA G 46)))]) rfl ?_
  refine s_mldI hG C 9 rfl rfl rfl (fun v1 => ?_)
  refine s_ine C 10 rfl (fun _ => ?_) (fun _ => ?_)
  · refine s_blk C 11 2 [0, 1, 2] (pc' := 2) (lv' := [(0, .inr (.inl (some (gM G)))), (1, .inl x1), (2, .inl (x2 + 1))]) (st' := []) rfl ?_
    exact H2 _ _ _
  refine s_blk C 13 2 [0, 1, 2, 3] (pc' := 23) (lv' := [(0, .inr (.inl (some (gM G)))), (1, .inl x1), (2, .inl x2), (3, .inl 0)]) (st' := []) rfl ?_
  exact wMd_turns_l23 hG C htab FU _ _ _ _
def fMd_turns_l2 (fu : Nat) : Int32 → Int32 → Sg → Option (Unit × Sg) := Nat.rec (fun x1 x2 σ => none) (fun _ k => fMd_turns_b2 k) fu
theorem wMd_turns_l2 {X : MC} {G : GE} {n0 : Nat} (hG : gH G = true) (C : CX X G RX12 cX12_turns pMd_turns 7 none n0) (htab : ∀ z ∈ X.2.2.2.2.2.2.2.2.exceptionTable.toList, False) {M : Mm} {n : Nat} : ∀ (fu : Nat) (x1 : Int32) (x2 : Int32) (σ : Sg), JS X G 7 300 0 n0 (EM X G n0 4 300 (eS rvU M n)) (fMd_turns_l2 fu x1 x2 σ) (σ, M, n) 2 [(0, .inr (.inl (some (gM G)))), (1, .inl x1), (2, .inl x2)] [] := by
  intro fu
  induction fu with
  | zero => intro x1 x2 σ; exact s_none
  | succ fu ih => intro x1 x2 σ; exact wMd_turns_b2 hG C htab (fMd_turns_l2 fu) ih _ _ _
def fMd_turns (x1 : Int32) (σ : Sg) : Option (Unit × Sg) :=
  fMd_turns_l2 FU x1 x1 σ
theorem wMd_turns {X : MC} {G : GE} {n0 : Nat} (hG : gH G = true) (C : CX X G RX12 cX12_turns pMd_turns 7 none n0) (htab : ∀ z ∈ X.2.2.2.2.2.2.2.2.exceptionTable.toList, False) {M : Mm} {n : Nat} (x1 : Int32) (σ : Sg) : JS X G 7 300 0 n0 (EM X G n0 4 300 (eS rvU M n)) (fMd_turns x1 σ) (σ, M, n) 0 [(0, .inr (.inl (some (gM G)))), (1, .inl x1)] [] := by
  unfold fMd_turns
  refine s_blk C 0 2 [0, 1, 2] (pc' := 2) (lv' := [(0, .inr (.inl (some (gM G)))), (1, .inl x1), (2, .inl x1)]) (st' := []) rfl ?_
  exact wMd_turns_l2 hG C htab FU _ _ _
theorem cMd_turns {l : Launch} {G : GE} (htr : l.stackTraces = false) (hG : gH G = true) (σ : Sg) (M : Mm) (n : Nat) (x1 : Int32) : ∀ o, fMd_turns x1 σ = some o → MetX l G yX12_turns cX12_turns 7 none 4 300 [.inr (.inl (some (gM G))), .inl x1] (σ, M, n) ((eS rvU M n) o) :=
  c_ofX (by decide) kMd_turns htr rfl rfl fun X _ _ C htab => wMd_turns hG C htab x1 _

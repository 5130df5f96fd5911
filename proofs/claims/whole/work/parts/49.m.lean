def pMd_ordered_0 : List BR := [(0, .iconst 0, 1, 0, 1), (1, .istore_n 2, 1, 0, 2), (2, .iload_n 2, 1, 0, 3), (3, .bipush 6, 2, 6, 5), (5, .if_icmp .ge (77), 3, 0, 82), (8, .iconst 0, 1, 0, 9), (9, .istore_n 3, 1, 0, 10), (10, .iconst 0, 1, 0, 11), (11, .istore 4, 2, 0, 13), (13, .iload 4, 2, 0, 15), (15, .bipush 6, 2, 6, 17), (17, .if_icmp .ge (52), 3, 0, 69), (20, .iload_n 0, 1, 0, 21), (21, .iload_n 2, 1, 0, 22), (22, .invokestatic 176, 3, 0, 25), (25, .istore 5, 2, 0, 27), (27, .iload_n 0, 1, 0, 28), (28, .iload 4, 2, 0, 30), (30, .invokestatic 176, 3, 0, 33), (33, .istore 6, 2, 0, 35), (35, .iload_n 3, 1, 0, 36), (36, .iload 6, 2, 0, 38), (38, .iload 5, 2, 0, 40), (40, .if_icmp .gt (16), 3, 0, 56), (43, .iload 6, 2, 0, 45), (45, .iload 5, 2, 0, 47), (47, .if_icmp .ne (13), 3, 0, 60), (50, .iload 4, 2, 0, 52), (52, .iload_n 2, 1, 0, 53), (53, .if_icmp .ge (7), 3, 0, 60), (56, .iconst 1, 1, 1, 57), (57, .goto (4), 3, 0, 61), (60, .iconst 0, 1, 0, 61), (61, .iadd, 1, 0, 62), (62, .istore_n 3, 1, 0, 63), (63, .iinc 4 (1), 3, 1, 66), (66, .goto (-53), 3, 0, 13), (69, .iload_n 3, 1, 0, 70), (70, .iload_n 1, 1, 0, 71), (71, .if_icmp .ne (5), 3, 0, 76)]
theorem kMd_ordered_0 : bOK cX12_ordered 7 pMd_ordered_0 = true := by decide +kernel
def pMd_ordered_1 : List BR := [(74, .iload_n 2, 1, 0, 75), (75, .ireturn, 1, 0, 76), (76, .iinc 2 (1), 3, 1, 79), (79, .goto (-77), 3, 0, 2), (82, .iconst (-1), 1, -1, 83), (83, .ireturn, 1, 0, 84)]
theorem kMd_ordered_1 : bOK cX12_ordered 7 pMd_ordered_1 = true := by decide +kernel
def pMd_ordered : List BR := (pMd_ordered_0 ++ pMd_ordered_1)
theorem kMd_ordered : bOK cX12_ordered 7 pMd_ordered = true := (bOK_app kMd_ordered_0 kMd_ordered_1)
def fMd_ordered_j61 (k2 : Int32 → Int32 → Int32 → Option (Int32)) (k13 : Int32 → Int32 → Int32 → Int32 → Int32 → Option (Int32)) (x0 : Int32) (x1 : Int32) (x2 : Int32) (x4 : Int32) (s0 : Int32) (s1 : Int32) : Option (Int32) :=
  k13 x0 x1 x2 (s1 + s0) (x4 + 1)
theorem wMd_ordered_j61 {X : MC} {G : GE} {n0 : Nat} (hG : gH G = true) (C : CX X G RX12 cX12_ordered pMd_ordered 7 (some .int) n0) (htab : ∀ z ∈ X.2.2.2.2.2.2.2.2.exceptionTable.toList, False) {σ : Sg} {M : Mm} {n : Nat} (k2 : Int32 → Int32 → Int32 → Option (Int32)) (H2 : ∀ (x0 : Int32) (x1 : Int32) (x2 : Int32), JS X G 7 300 0 n0 (EM X G n0 3 300 (eR rvI σ M n)) (k2 x0 x1 x2) (σ, M, n) 2 [(0, .inl x0), (1, .inl x1), (2, .inl x2)] []) (k13 : Int32 → Int32 → Int32 → Int32 → Int32 → Option (Int32)) (H13 : ∀ (x0 : Int32) (x1 : Int32) (x2 : Int32) (x3 : Int32) (x4 : Int32), JS X G 7 300 0 n0 (EM X G n0 3 300 (eR rvI σ M n)) (k13 x0 x1 x2 x3 x4) (σ, M, n) 13 [(0, .inl x0), (1, .inl x1), (2, .inl x2), (3, .inl x3), (4, .inl x4)] []) (x0 : Int32) (x1 : Int32) (x2 : Int32) (x4 : Int32) (s0 : Int32) (s1 : Int32) : JS X G 7 300 0 n0 (EM X G n0 3 300 (eR rvI σ M n)) (fMd_ordered_j61 k2 k13 x0 x1 x2 x4 s0 s1) (σ, M, n) 61 [(0, .inl x0), (1, .inl x1), (2, .inl x2), (4, .inl x4)] [.inl s0, .inl s1] := by
  unfold fMd_ordered_j61
  refine s_blk C 33 4 [0, 1, 2, 3, 4] (pc' := 13) (lv' := [(0, .inl x0), (1, .inl x1), (2, .inl x2), (3, .inl (s1 + s0)), (4, .inl (x4 + 1))]) (st' := []) rfl ?_
  exact H13 _ _ _ _ _
def fMd_ordered_j56 (k2 : Int32 → Int32 → Int32 → Option (Int32)) (k13 : Int32 → Int32 → Int32 → Int32 → Int32 → Option (Int32)) (x0 : Int32) (x1 : Int32) (x2 : Int32) (x4 : Int32) (s0 : Int32) : Option (Int32) :=
  fMd_ordered_j61 k2 k13 x0 x1 x2 x4 1 s0
theorem wMd_ordered_j56 {X : MC} {G : GE} {n0 : Nat} (hG : gH G = true) (C : CX X G RX12 cX12_ordered pMd_ordered 7 (some .int) n0) (htab : ∀ z ∈ X.2.2.2.2.2.2.2.2.exceptionTable.toList, False) {σ : Sg} {M : Mm} {n : Nat} (k2 : Int32 → Int32 → Int32 → Option (Int32)) (H2 : ∀ (x0 : Int32) (x1 : Int32) (x2 : Int32), JS X G 7 300 0 n0 (EM X G n0 3 300 (eR rvI σ M n)) (k2 x0 x1 x2) (σ, M, n) 2 [(0, .inl x0), (1, .inl x1), (2, .inl x2)] []) (k13 : Int32 → Int32 → Int32 → Int32 → Int32 → Option (Int32)) (H13 : ∀ (x0 : Int32) (x1 : Int32) (x2 : Int32) (x3 : Int32) (x4 : Int32), JS X G 7 300 0 n0 (EM X G n0 3 300 (eR rvI σ M n)) (k13 x0 x1 x2 x3 x4) (σ, M, n) 13 [(0, .inl x0), (1, .inl x1), (2, .inl x2), (3, .inl x3), (4, .inl x4)] []) (x0 : Int32) (x1 : Int32) (x2 : Int32) (x4 : Int32) (s0 : Int32) : JS X G 7 300 0 n0 (EM X G n0 3 300 (eR rvI σ M n)) (fMd_ordered_j56 k2 k13 x0 x1 x2 x4 s0) (σ, M, n) 56 [(0, .inl x0), (1, .inl x1), (2, .inl x2), (4, .inl x4)] [.inl s0] := by
  unfold fMd_ordered_j56
  refine s_blk C 30 2 [0, 1, 2, 4] (pc' := 61) (lv' := [(0, .inl x0), (1, .inl x1), (2, .inl x2), (4, .inl x4)]) (st' := [.inl 1, .inl s0]) rfl ?_
  exact wMd_ordered_j61 hG C htab k2 H2 k13 H13 _ _ _ _ _ _
def fMd_ordered_j60 (k2 : Int32 → Int32 → Int32 → Option (Int32)) (k13 : Int32 → Int32 → Int32 → Int32 → Int32 → Option (Int32)) (x0 : Int32) (x1 : Int32) (x2 : Int32) (x4 : Int32) (s0 : Int32) : Option (Int32) :=
  fMd_ordered_j61 k2 k13 x0 x1 x2 x4 0 s0
theorem wMd_ordered_j60 {X : MC} {G : GE} {n0 : Nat} (hG : gH G = true) (C : CX X G RX12 cX12_ordered pMd_ordered 7 (some .int) n0) (htab : ∀ z ∈ X.2.2.2.2.2.2.2.2.exceptionTable.toList, False) {σ : Sg} {M : Mm} {n : Nat} (k2 : Int32 → Int32 → Int32 → Option (Int32)) (H2 : ∀ (x0 : Int32) (x1 : Int32) (x2 : Int32), JS X G 7 300 0 n0 (EM X G n0 3 300 (eR rvI σ M n)) (k2 x0 x1 x2) (σ, M, n) 2 [(0, .inl x0), (1, .inl x1), (2, .inl x2)] []) (k13 : Int32 → Int32 → Int32 → Int32 → Int32 → Option (Int32)) (H13 : ∀ (x0 : Int32) (x1 : Int32) (x2 : Int32) (x3 : Int32) (x4 : Int32), JS X G 7 300 0 n0 (EM X G n0 3 300 (eR rvI σ M n)) (k13 x0 x1 x2 x3 x4) (σ, M, n) 13 [(0, .inl x0), (1, .inl x1), (2, .inl x2), (3, .inl x3), (4, .inl x4)] []) (x0 : Int32) (x1 : Int32) (x2 : Int32) (x4 : Int32) (s0 : Int32) : JS X G 7 300 0 n0 (EM X G n0 3 300 (eR rvI σ M n)) (fMd_ordered_j60 k2 k13 x0 x1 x2 x4 s0) (σ, M, n) 60 [(0, .inl x0), (1, .inl x1), (2, .inl x2), (4, .inl x4)] [.inl s0] := by
  unfold fMd_ordered_j60
  refine s_blk C 32 1 [0, 1, 2, 4] (pc' := 61) (lv' := [(0, .inl x0), (1, .inl x1), (2, .inl x2), (4, .inl x4)]) (st' := [.inl 0, .inl s0]) rfl ?_
  exact wMd_ordered_j61 hG C htab k2 H2 k13 H13 _ _ _ _ _ _
def fMd_ordered_b13 (k2 : Int32 → Int32 → Int32 → Option (Int32)) (k13 : Int32 → Int32 → Int32 → Int32 → Int32 → Option (Int32)) (x0 : Int32) (x1 : Int32) (x2 : Int32) (x3 : Int32) (x4 : Int32) : Option (Int32) :=
  if 6 ≤ x4 then
    if x3 = x1 then
      some x2
    else
      k2 x0 x1 (x2 + 1)
  else
    bdR (fMd_weigh x0 x2) fun v1 =>
    bdR (fMd_weigh x0 x4) fun v2 =>
    if v1 < v2 then
      fMd_ordered_j56 k2 k13 x0 x1 x2 x4 x3
    else
      if v2 = v1 then
        if x2 ≤ x4 then
          fMd_ordered_j60 k2 k13 x0 x1 x2 x4 x3
        else
          fMd_ordered_j56 k2 k13 x0 x1 x2 x4 x3
      else
        fMd_ordered_j60 k2 k13 x0 x1 x2 x4 x3
theorem wMd_ordered_b13 {X : MC} {G : GE} {n0 : Nat} (hG : gH G = true) (C : CX X G RX12 cX12_ordered pMd_ordered 7 (some .int) n0) (htab : ∀ z ∈ X.2.2.2.2.2.2.2.2.exceptionTable.toList, False) {σ : Sg} {M : Mm} {n : Nat} (k2 : Int32 → Int32 → Int32 → Option (Int32)) (H2 : ∀ (x0 : Int32) (x1 : Int32) (x2 : Int32), JS X G 7 300 0 n0 (EM X G n0 3 300 (eR rvI σ M n)) (k2 x0 x1 x2) (σ, M, n) 2 [(0, .inl x0), (1, .inl x1), (2, .inl x2)] []) (k13 : Int32 → Int32 → Int32 → Int32 → Int32 → Option (Int32)) (H13 : ∀ (x0 : Int32) (x1 : Int32) (x2 : Int32) (x3 : Int32) (x4 : Int32), JS X G 7 300 0 n0 (EM X G n0 3 300 (eR rvI σ M n)) (k13 x0 x1 x2 x3 x4) (σ, M, n) 13 [(0, .inl x0), (1, .inl x1), (2, .inl x2), (3, .inl x3), (4, .inl x4)] []) (x0 : Int32) (x1 : Int32) (x2 : Int32) (x3 : Int32) (x4 : Int32) : JS X G 7 300 0 n0 (EM X G n0 3 300 (eR rvI σ M n)) (fMd_ordered_b13 k2 k13 x0 x1 x2 x3 x4) (σ, M, n) 13 [(0, .inl x0), (1, .inl x1), (2, .inl x2), (3, .inl x3), (4, .inl x4)] [] := by
  unfold fMd_ordered_b13
  refine s_blk C 9 2 [0, 1, 2, 3, 4] (pc' := 17) (lv' := [(0, .inl x0), (1, .inl x1), (2, .inl x2), (3, .inl x3), (4, .inl x4)]) (st' := [.inl 6, .inl x4]) rfl ?_
  refine s_icge C 11 rfl (fun _ => ?_) (fun _ => ?_)
  · refine s_blk C 37 2 [0, 1, 2] (pc' := 71) (lv' := [(0, .inl x0), (1, .inl x1), (2, .inl x2)]) (st' := [.inl x1, .inl x3]) rfl ?_
    refine s_icne C 39 rfl (fun _ => ?_) (fun _ => ?_)
    · refine s_blk C 40 1 [] (pc' := 75) (lv' := []) (st' := [.inl x2]) rfl ?_
      exact s_iret C 41 rfl rfl
    refine s_blk C 42 2 [0, 1, 2] (pc' := 2) (lv' := [(0, .inl x0), (1, .inl x1), (2, .inl (x2 + 1))]) (st' := []) rfl ?_
    exact H2 _ _ _
  refine s_blk C 12 2 [0, 1, 2, 3, 4] (pc' := 22) (lv' := [(0, .inl x0), (1, .inl x1), (2, .inl x2), (3, .inl x3), (4, .inl x4)]) (st' := [.inl x2, .inl x0]) rfl ?_
  refine s_RI (CE_EM _ _ _ _ _ _) (st := []) (fun o ho => j_callS (As := [.inl x0, .inl x2]) (st := []) C 14 rfl mf_Md_weigh ml_X12_176 rfl (by decide) (by decide) (Nat.le_refl _) rfl (cMd_weigh (CX_tr C) hG σ M n x0 x2 o ho)) (fun v1 => ?_)
  refine s_blk C 15 3 [0, 1, 2, 3, 4, 5] (pc' := 30) (lv' := [(0, .inl x0), (1, .inl x1), (2, .inl x2), (3, .inl x3), (4, .inl x4), (5, .inl v1)]) (st' := [.inl x4, .inl x0]) rfl ?_
  refine s_RI (CE_EM _ _ _ _ _ _) (st := []) (fun o ho => j_callS (As := [.inl x0, .inl x4]) (st := []) C 18 rfl mf_Md_weigh ml_X12_176 rfl (by decide) (by decide) (Nat.le_refl _) rfl (cMd_weigh (CX_tr C) hG σ M n x0 x4 o ho)) (fun v2 => ?_)
  refine s_blk C 19 4 [0, 1, 2, 4, 5, 6] (pc' := 40) (lv' := [(0, .inl x0), (1, .inl x1), (2, .inl x2), (4, .inl x4), (5, .inl v1), (6, .inl v2)]) (st' := [.inl v1, .inl v2, .inl x3]) rfl ?_
  refine s_icgt C 23 rfl (fun _ => ?_) (fun _ => ?_)
  · refine s_blk C 0 0 [0, 1, 2, 4] (pc' := 56) (lv' := [(0, .inl x0), (1, .inl x1), (2, .inl x2), (4, .inl x4)]) (st' := [.inl x3]) rfl ?_
    exact wMd_ordered_j56 hG C htab k2 H2 k13 H13 _ _ _ _ _
  refine s_blk C 24 2 [0, 1, 2, 4] (pc' := 47) (lv' := [(0, .inl x0), (1, .inl x1), (2, .inl x2), (4, .inl x4)]) (st' := [.inl v1, .inl v2, .inl x3]) rfl ?_
  refine s_icne C 26 rfl (fun _ => ?_) (fun _ => ?_)
  · refine s_blk C 27 2 [0, 1, 2, 4] (pc' := 53) (lv' := [(0, .inl x0), (1, .inl x1), (2, .inl x2), (4, .inl x4)]) (st' := [.inl x2, .inl x4, .inl x3]) rfl ?_
    refine s_icge C 29 rfl (fun _ => ?_) (fun _ => ?_)
    · exact wMd_ordered_j60 hG C htab k2 H2 k13 H13 _ _ _ _ _
    exact wMd_ordered_j56 hG C htab k2 H2 k13 H13 _ _ _ _ _
  exact wMd_ordered_j60 hG C htab k2 H2 k13 H13 _ _ _ _ _
def fMd_ordered_l13 (k2 : Int32 → Int32 → Int32 → Option (Int32)) (fu : Nat) : Int32 → Int32 → Int32 → Int32 → Int32 → Option (Int32) := Nat.rec (fun x0 x1 x2 x3 x4 => none) (fun _ k => fMd_ordered_b13 k2 k) fu
theorem wMd_ordered_l13 {X : MC} {G : GE} {n0 : Nat} (hG : gH G = true) (C : CX X G RX12 cX12_ordered pMd_ordered 7 (some .int) n0) (htab : ∀ z ∈ X.2.2.2.2.2.2.2.2.exceptionTable.toList, False) {σ : Sg} {M : Mm} {n : Nat} (k2 : Int32 → Int32 → Int32 → Option (Int32)) (H2 : ∀ (x0 : Int32) (x1 : Int32) (x2 : Int32), JS X G 7 300 0 n0 (EM X G n0 3 300 (eR rvI σ M n)) (k2 x0 x1 x2) (σ, M, n) 2 [(0, .inl x0), (1, .inl x1), (2, .inl x2)] []) : ∀ (fu : Nat) (x0 : Int32) (x1 : Int32) (x2 : Int32) (x3 : Int32) (x4 : Int32), JS X G 7 300 0 n0 (EM X G n0 3 300 (eR rvI σ M n)) (fMd_ordered_l13 k2 fu x0 x1 x2 x3 x4) (σ, M, n) 13 [(0, .inl x0), (1, .inl x1), (2, .inl x2), (3, .inl x3), (4, .inl x4)] [] := by
  intro fu
  induction fu with
  | zero => intro x0 x1 x2 x3 x4; exact s_none
  | succ fu ih => intro x0 x1 x2 x3 x4; exact wMd_ordered_b13 hG C htab k2 H2 (fMd_ordered_l13 k2 fu) ih _ _ _ _ _
def fMd_ordered_b2 (k2 : Int32 → Int32 → Int32 → Option (Int32)) (x0 : Int32) (x1 : Int32) (x2 : Int32) : Option (Int32) :=
  if 6 ≤ x2 then
    some (-1)
  else
    fMd_ordered_l13 k2 FU x0 x1 x2 0 0
theorem wMd_ordered_b2 {X : MC} {G : GE} {n0 : Nat} (hG : gH G = true) (C : CX X G RX12 cX12_ordered pMd_ordered 7 (some .int) n0) (htab : ∀ z ∈ X.2.2.2.2.2.2.2.2.exceptionTable.toList, False) {σ : Sg} {M : Mm} {n : Nat} (k2 : Int32 → Int32 → Int32 → Option (Int32)) (H2 : ∀ (x0 : Int32) (x1 : Int32) (x2 : Int32), JS X G 7 300 0 n0 (EM X G n0 3 300 (eR rvI σ M n)) (k2 x0 x1 x2) (σ, M, n) 2 [(0, .inl x0), (1, .inl x1), (2, .inl x2)] []) (x0 : Int32) (x1 : Int32) (x2 : Int32) : JS X G 7 300 0 n0 (EM X G n0 3 300 (eR rvI σ M n)) (fMd_ordered_b2 k2 x0 x1 x2) (σ, M, n) 2 [(0, .inl x0), (1, .inl x1), (2, .inl x2)] [] := by
  unfold fMd_ordered_b2
  refine s_blk C 2 2 [0, 1, 2] (pc' := 5) (lv' := [(0, .inl x0), (1, .inl x1), (2, .inl x2)]) (st' := [.inl 6, .inl x2]) rfl ?_
  refine s_icge C 4 rfl (fun _ => ?_) (fun _ => ?_)
  · refine s_blk C 44 1 [] (pc' := 83) (lv' := []) (st' := [.inl (-1)]) rfl ?_
    exact s_iret C 45 rfl rfl
  refine s_blk C 5 4 [0, 1, 2, 3, 4] (pc' := 13) (lv' := [(0, .inl x0), (1, .inl x1), (2, .inl x2), (3, .inl 0), (4, .inl 0)]) (st' := []) rfl ?_
  exact wMd_ordered_l13 hG C htab k2 H2 FU _ _ _ _ _
def fMd_ordered_l2 (fu : Nat) : Int32 → Int32 → Int32 → Option (Int32) := Nat.rec (fun x0 x1 x2 => none) (fun _ k => fMd_ordered_b2 k) fu
theorem wMd_ordered_l2 {X : MC} {G : GE} {n0 : Nat} (hG : gH G = true) (C : CX X G RX12 cX12_ordered pMd_ordered 7 (some .int) n0) (htab : ∀ z ∈ X.2.2.2.2.2.2.2.2.exceptionTable.toList, False) {σ : Sg} {M : Mm} {n : Nat} : ∀ (fu : Nat) (x0 : Int32) (x1 : Int32) (x2 : Int32), JS X G 7 300 0 n0 (EM X G n0 3 300 (eR rvI σ M n)) (fMd_ordered_l2 fu x0 x1 x2) (σ, M, n) 2 [(0, .inl x0), (1, .inl x1), (2, .inl x2)] [] := by
  intro fu
  induction fu with
  | zero => intro x0 x1 x2; exact s_none
  | succ fu ih => intro x0 x1 x2; exact wMd_ordered_b2 hG C htab (fMd_ordered_l2 fu) ih _ _ _
def fMd_ordered (x0 : Int32) (x1 : Int32) : Option (Int32) :=
  fMd_ordered_l2 FU x0 x1 0
theorem wMd_ordered {X : MC} {G : GE} {n0 : Nat} (hG : gH G = true) (C : CX X G RX12 cX12_ordered pMd_ordered 7 (some .int) n0) (htab : ∀ z ∈ X.2.2.2.2.2.2.2.2.exceptionTable.toList, False) {σ : Sg} {M : Mm} {n : Nat} (x0 : Int32) (x1 : Int32) : JS X G 7 300 0 n0 (EM X G n0 3 300 (eR rvI σ M n)) (fMd_ordered x0 x1) (σ, M, n) 0 [(0, .inl x0), (1, .inl x1)] [] := by
  unfold fMd_ordered
  refine s_blk C 0 2 [0, 1, 2] (pc' := 2) (lv' := [(0, .inl x0), (1, .inl x1), (2, .inl 0)]) (st' := []) rfl ?_
  exact wMd_ordered_l2 hG C htab FU _ _ _
theorem cMd_ordered {l : Launch} {G : GE} (htr : l.stackTraces = false) (hG : gH G = true) (σ : Sg) (M : Mm) (n : Nat) (x0 : Int32) (x1 : Int32) : ∀ o, fMd_ordered x0 x1 = some o → MetX l G yX12_ordered cX12_ordered 7 (some .int) 3 300 [.inl x0, .inl x1] (σ, M, n) ((eR rvI σ M n) o) :=
  c_ofX (by decide) kMd_ordered htr rfl rfl fun X _ _ C htab => wMd_ordered hG C htab x0 x1
def pMd_dataAt : List BR := [(0, .iconst 2, 1, 2, 1), (1, .iload_n 2, 1, 0, 2), (2, .imul, 1, 0, 3), (3, .iload_n 3, 1, 0, 4), (4, .iadd, 1, 0, 5), (5, .istore 4, 2, 0, 7), (7, .iload 4, 2, 0, 9), (9, .aload_n 0, 1, 0, 10), (10, .getfield 53, 3, 0, 13), (13, .iload_n 1, 1, 0, 14), (14, .iaload, 1, 0, 15), (15, .if_icmp .ge (18), 3, 0, 33), (18, .aload_n 0, 1, 0, 19), (19, .getfield 56, 3, 0, 22), (22, .bipush 6, 2, 6, 24), (24, .iload_n 1, 1, 0, 25), (25, .imul, 1, 0, 26), (26, .iload 4, 2, 0, 28), (28, .iadd, 1, 0, 29), (29, .iaload, 1, 0, 30), (30, .goto (4), 3, 0, 34), (33, .iconst 0, 1, 0, 34), (34, .ireturn, 1, 0, 35)]
theorem kMd_dataAt : bOK cX12_dataAt 5 pMd_dataAt = true := by decide +kernel
def fMd_dataAt (x1 : Int32) (x2 : Int32) (x3 : Int32) (σ : Sg) : Option (Int32) :=
  mgA 21 x1 σ fun v1 =>
  if v1 ≤ ((2 * x2) + x3) then
    some 0
  else
    mgA 22 ((6 * x1) + ((2 * x2) + x3)) σ fun v2 =>
    some v2
theorem wMd_dataAt {X : MC} {G : GE} {n0 : Nat} (hG : gH G = true) (C : CX X G RX12 cX12_dataAt pMd_dataAt 5 (some .int) n0) (htab : ∀ z ∈ X.2.2.2.2.2.2.2.2.exceptionTable.toList, False) {σ : Sg} {M : Mm} {n : Nat} (x1 : Int32) (x2 : Int32) (x3 : Int32) : JS X G 5 300 0 n0 (EM X G n0 2 300 (eR rvI σ M n)) (fMd_dataAt x1 x2 x3 σ) (σ, M, n) 0 [(0, .inr (.inl (some (gM G)))), (1, .inl x1), (2, .inl x2), (3, .inl x3)] [] := by
  unfold fMd_dataAt
  refine s_blk C 0 8 [0, 1, 4] (pc' := 10) (lv' := [(0, .inr (.inl (some (gM G)))), (1, .inl x1), (4, .inl ((2 * x2) + x3))]) (st' := [.inr (.inl (some (gM G))), .inl ((2 * x2) + x3)]) rfl ?_
  refine s_mR hG C 8 rfl 21 fl_X12_53 rfl ?_
  refine s_blk C 9 1 [0, 1, 4] (pc' := 14) (lv' := [(0, .inr (.inl (some (gM G)))), (1, .inl x1), (4, .inl ((2 * x2) + x3))]) (st' := [.inl x1, .inr (.inl (some (gA G 21))), .inl ((2 * x2) + x3)]) rfl ?_
  refine s_mldI hG C 10 rfl rfl rfl (fun v1 => ?_)
  refine s_icge C 11 rfl (fun _ => ?_) (fun _ => ?_)
  · refine s_blk C 21 1 [] (pc' := 34) (lv' := []) (st' := [.inl 0]) rfl ?_
    exact s_iret C 22 rfl rfl
  refine s_blk C 12 1 [1, 4] (pc' := 19) (lv' := [(1, .inl x1), (4, .inl ((2 * x2) + x3))]) (st' := [.inr (.inl (some (gM G)))]) rfl ?_
  refine s_mR hG C 13 rfl 22 fl_X12_56 rfl ?_
  refine s_blk C 14 5 [] (pc' := 29) (lv' := []) (st' := [.inl ((6 * x1) + ((2 * x2) + x3)), .inr (.inl (some (gA G 22)))]) rfl ?_
  refine s_mldI hG C 19 rfl rfl rfl (fun v2 => ?_)
  refine s_blk C 20 1 [] (pc' := 34) (lv' := []) (st' := [.inl v2]) rfl ?_
  exact s_iret C 22 rfl rfl
theorem cMd_dataAt {l : Launch} {G : GE} (htr : l.stackTraces = false) (hG : gH G = true) (σ : Sg) (M : Mm) (n : Nat) (x1 : Int32) (x2 : Int32) (x3 : Int32) : ∀ o, fMd_dataAt x1 x2 x3 σ = some o → MetX l G yX12_dataAt cX12_dataAt 5 (some .int) 2 300 [.inr (.inl (some (gM G))), .inl x1, .inl x2, .inl x3] (σ, M, n) ((eR rvI σ M n) o) :=
  c_ofX (by decide) kMd_dataAt htr rfl rfl fun X _ _ C htab => wMd_dataAt hG C htab x1 x2 x3
def pMd_made : List BR := [(0, .iconst 0, 1, 0, 1), (1, .istore 4, 2, 0, 3), (3, .iconst 0, 1, 0, 4), (4, .istore 5, 2, 0, 6), (6, .iload 5, 2, 0, 8), (8, .iconst 3, 1, 3, 9), (9, .if_icmp .ge (31), 3, 0, 40), (12, .iload 4, 2, 0, 14), (14, .iload_n 2, 1, 0, 15), (15, .iload 5, 2, 0, 17), (17, .invokestatic 179, 3, 0, 20), (20, .aload_n 0, 1, 0, 21), (21, .iload_n 1, 1, 0, 22), (22, .iload 5, 2, 0, 24), (24, .iload_n 3, 1, 0, 25), (25, .invokevirtual 182, 3, 0, 28), (28, .invokestatic 144, 3, 0, 31), (31, .ixor, 1, 0, 32), (32, .istore 4, 2, 0, 34), (34, .iinc 5 (1), 3, 1, 37), (37, .goto (-31), 3, 0, 6), (40, .iload 4, 2, 0, 42), (42, .ireturn, 1, 0, 43)]
theorem kMd_made : bOK cX12_made 6 pMd_made = true := by decide +kernel
def fMd_made_b6 (k6 : Int32 → Int32 → Int32 → Int32 → Int32 → Sg → Option (Int32)) (x1 : Int32) (x2 : Int32) (x3 : Int32) (x4 : Int32) (x5 : Int32) (σ : Sg) : Option (Int32) :=
  if 3 ≤ x5 then
    some x4
  else
    bdR (fMd_weight x2 x5) fun v1 =>
    bdR (fMd_dataAt x1 x5 x3 σ) fun v2 =>
    bdR (fMd_times v1 v2) fun v3 =>
    k6 x1 x2 x3 (x4 ^^^ v3) (x5 + 1) σ
theorem wMd_made_b6 {X : MC} {G : GE} {n0 : Nat} (hG : gH G = true) (C : CX X G RX12 cX12_made pMd_made 6 (some .int) n0) (htab : ∀ z ∈ X.2.2.2.2.2.2.2.2.exceptionTable.toList, False) {σ : Sg} {M : Mm} {n : Nat} (k6 : Int32 → Int32 → Int32 → Int32 → Int32 → Sg → Option (Int32)) (H6 : ∀ (x1 : Int32) (x2 : Int32) (x3 : Int32) (x4 : Int32) (x5 : Int32), JS X G 6 300 0 n0 (EM X G n0 3 300 (eR rvI σ M n)) (k6 x1 x2 x3 x4 x5 σ) (σ, M, n) 6 [(0, .inr (.inl (some (gM G)))), (1, .inl x1), (2, .inl x2), (3, .inl x3), (4, .inl x4), (5, .inl x5)] []) (x1 : Int32) (x2 : Int32) (x3 : Int32) (x4 : Int32) (x5 : Int32) : JS X G 6 300 0 n0 (EM X G n0 3 300 (eR rvI σ M n)) (fMd_made_b6 k6 x1 x2 x3 x4 x5 σ) (σ, M, n) 6 [(0, .inr (.inl (some (gM G)))), (1, .inl x1), (2, .inl x2), (3, .inl x3), (4, .inl x4), (5, .inl x5)] [] := by
  unfold fMd_made_b6
  refine s_blk C 4 2 [0, 1, 2, 3, 4, 5] (pc' := 9) (lv' := [(0, .inr (.inl (some (gM G)))), (1, .inl x1), (2, .inl x2), (3, .inl x3), (4, .inl x4), (5, .inl x5)]) (st' := [.inl 3, .inl x5]) rfl ?_
  refine s_icge C 6 rfl (fun _ => ?_) (fun _ => ?_)
  · refine s_blk C 21 1 [] (pc' := 42) (lv' := []) (st' := [.inl x4]) rfl ?_
    exact s_iret C 22 rfl rfl
  refine s_blk C 7 3 [0, 1, 2, 3, 5] (pc' := 17) (lv' := [(0, .inr (.inl (some (gM G)))), (1, .inl x1), (2, .inl x2), (3, .inl x3), (5, .inl x5)]) (st' := [.inl x5, .inl x2, .inl x4]) rfl ?_
  refine s_RI (CE_EM _ _ _ _ _ _) (st := [.inl x4]) (fun o ho => j_callS (As := [.inl x2, .inl x5]) (st := [.inl x4]) C 10 rfl mf_Md_weight ml_X12_179 rfl (by decide) (by decide) (Nat.le_refl _) rfl (cMd_weight (CX_tr C) hG σ M n x2 x5 o ho)) (fun v1 => ?_)
  refine s_blk C 11 4 [0, 1, 2, 3, 5] (pc' := 25) (lv' := [(0, .inr (.inl (some (gM G)))), (1, .inl x1), (2, .inl x2), (3, .inl x3), (5, .inl x5)]) (st' := [.inl x3, .inl x5, .inl x1, .inr (.inl (some (gM G))), .inl v1, .inl x4]) rfl ?_
  refine s_RI (CE_EM _ _ _ _ _ _) (st := [.inl v1, .inl x4]) (fun o ho => j_callV (As := [.inl x1, .inl x5, .inl x3]) (st := [.inl v1, .inl x4]) (b := gM G) C 15 rfl mf_Md_dataAt ml_X12_182 rfl (recv_M hG C) (by decide) (by decide) (Nat.le_refl _) rfl (cMd_dataAt (CX_tr C) hG σ M n x1 x5 x3 o ho)) (fun v2 => ?_)
  refine s_RI (CE_EM _ _ _ _ _ _) (st := [.inl x4]) (fun o ho => j_callS (As := [.inl v1, .inl v2]) (st := [.inl x4]) C 16 rfl mf_Md_times ml_X12_144 rfl (by decide) (by decide) (Nat.le_refl _) rfl (cMd_times (CX_tr C) hG σ M n v1 v2 o ho)) (fun v3 => ?_)
  refine s_blk C 17 4 [0, 1, 2, 3, 4, 5] (pc' := 6) (lv' := [(0, .inr (.inl (some (gM G)))), (1, .inl x1), (2, .inl x2), (3, .inl x3), (4, .inl (x4 ^^^ v3)), (5, .inl (x5 + 1))]) (st' := []) rfl ?_
  exact H6 _ _ _ _ _
def fMd_made_l6 (fu : Nat) : Int32 → Int32 → Int32 → Int32 → Int32 → Sg → Option (Int32) := Nat.rec (fun x1 x2 x3 x4 x5 σ => none) (fun _ k => fMd_made_b6 k) fu
theorem wMd_made_l6 {X : MC} {G : GE} {n0 : Nat} (hG : gH G = true) (C : CX X G RX12 cX12_made pMd_made 6 (some .int) n0) (htab : ∀ z ∈ X.2.2.2.2.2.2.2.2.exceptionTable.toList, False) {σ : Sg} {M : Mm} {n : Nat} : ∀ (fu : Nat) (x1 : Int32) (x2 : Int32) (x3 : Int32) (x4 : Int32) (x5 : Int32), JS X G 6 300 0 n0 (EM X G n0 3 300 (eR rvI σ M n)) (fMd_made_l6 fu x1 x2 x3 x4 x5 σ) (σ, M, n) 6 [(0, .inr (.inl (some (gM G)))), (1, .inl x1), (2, .inl x2), (3, .inl x3), (4, .inl x4), (5, .inl x5)] [] := by
  intro fu
  induction fu with
  | zero => intro x1 x2 x3 x4 x5; exact s_none
  | succ fu ih => intro x1 x2 x3 x4 x5; exact wMd_made_b6 hG C htab (fMd_made_l6 fu) ih _ _ _ _ _
def fMd_made (x1 : Int32) (x2 : Int32) (x3 : Int32) (σ : Sg) : Option (Int32) :=
  fMd_made_l6 FU x1 x2 x3 0 0 σ
theorem wMd_made {X : MC} {G : GE} {n0 : Nat} (hG : gH G = true) (C : CX X G RX12 cX12_made pMd_made 6 (some .int) n0) (htab : ∀ z ∈ X.2.2.2.2.2.2.2.2.exceptionTable.toList, False) {σ : Sg} {M : Mm} {n : Nat} (x1 : Int32) (x2 : Int32) (x3 : Int32) : JS X G 6 300 0 n0 (EM X G n0 3 300 (eR rvI σ M n)) (fMd_made x1 x2 x3 σ) (σ, M, n) 0 [(0, .inr (.inl (some (gM G)))), (1, .inl x1), (2, .inl x2), (3, .inl x3)] [] := by
  unfold fMd_made
  refine s_blk C 0 4 [0, 1, 2, 3, 4, 5] (pc' := 6) (lv' := [(0, .inr (.inl (some (gM G)))), (1, .inl x1), (2, .inl x2), (3, .inl x3), (4, .inl 0), (5, .inl 0)]) (st' := []) rfl ?_
  exact wMd_made_l6 hG C htab FU _ _ _ _ _
theorem cMd_made {l : Launch} {G : GE} (htr : l.stackTraces = false) (hG : gH G = true) (σ : Sg) (M : Mm) (n : Nat) (x1 : Int32) (x2 : Int32) (x3 : Int32) : ∀ o, fMd_made x1 x2 x3 σ = some o → MetX l G yX12_made cX12_made 6 (some .int) 3 300 [.inr (.inl (some (gM G))), .inl x1, .inl x2, .inl x3] (σ, M, n) ((eR rvI σ M n) o) :=
  c_ofX (by decide) kMd_made htr rfl rfl fun X _ _ C htab => wMd_made hG C htab x1 x2 x3
def pMd_lays_0 : List BR := [(0, .aload_n 0, 1, 0, 1), (1, .getfield 59, 3, 0, 4), (4, .iconst 5, 1, 5, 5), (5, .iload_n 1, 1, 0, 6), (6, .imul, 1, 0, 7), (7, .iload_n 2, 1, 0, 8), (8, .iadd, 1, 0, 9), (9, .iload_n 3, 1, 0, 10), (10, .iastore, 1, 0, 11), (11, .aload_n 0, 1, 0, 12), (12, .getfield 65, 3, 0, 15), (15, .iconst 5, 1, 5, 16), (16, .iload_n 1, 1, 0, 17), (17, .imul, 1, 0, 18), (18, .iload_n 2, 1, 0, 19), (19, .iadd, 1, 0, 20), (20, .iconst 0, 1, 0, 21), (21, .bastore, 1, 0, 22), (22, .iconst 0, 1, 0, 23), (23, .istore 4, 2, 0, 25), (25, .iload 4, 2, 0, 27), (27, .iconst 2, 1, 2, 28), (28, .if_icmp .ge (32), 3, 0, 60), (31, .aload_n 0, 1, 0, 32), (32, .getfield 62, 3, 0, 35), (35, .iconst 2, 1, 2, 36), (36, .iconst 5, 1, 5, 37), (37, .iload_n 1, 1, 0, 38), (38, .imul, 1, 0, 39), (39, .iload_n 2, 1, 0, 40), (40, .iadd, 1, 0, 41), (41, .imul, 1, 0, 42), (42, .iload 4, 2, 0, 44), (44, .iadd, 1, 0, 45), (45, .aload_n 0, 1, 0, 46), (46, .iload_n 1, 1, 0, 47), (47, .iload_n 2, 1, 0, 48), (48, .iload 4, 2, 0, 50), (50, .invokevirtual 186, 3, 0, 53), (53, .iastore, 1, 0, 54)]
theorem kMd_lays_0 : bOK cX12_lays 5 pMd_lays_0 = true := by decide +kernel
def pMd_lays_1 : List BR := [(54, .iinc 4 (1), 3, 1, 57), (57, .goto (-32), 3, 0, 25), (60, .return_, 1, 0, 61)]
theorem kMd_lays_1 : bOK cX12_lays 5 pMd_lays_1 = true := by decide +kernel
def pMd_lays : List BR := (pMd_lays_0 ++ pMd_lays_1)
theorem kMd_lays : bOK cX12_lays 5 pMd_lays = true := (bOK_app kMd_lays_0 kMd_lays_1)
def fMd_lays_b25 (k25 : Int32 → Int32 → Int32 → Sg → Option (Unit × Sg)) (x1 : Int32) (x2 : Int32) (x4 : Int32) (σ : Sg) : Option (Unit × Sg) :=
  if 2 ≤ x4 then
    some ((), σ)
  else
    bdR (fMd_made x1 x2 x4 σ) fun v1 =>
    mpA 24 ((2 * ((5 * x1) + x2)) + x4) v1 σ fun σ2 =>
    k25 x1 x2 (x4 + 1) σ2
theorem wMd_lays_b25 {X : MC} {G : GE} {n0 : Nat} (hG : gH G = true) (C : CX X G RX12 cX12_lays pMd_lays 5 none n0) (htab : ∀ z ∈ X.2.2.2.2.2.2.2.2.exceptionTable.toList, False) {M : Mm} {n : Nat} (k25 : Int32 → Int32 → Int32 → Sg → Option (Unit × Sg)) (H25 : ∀ (x1 : Int32) (x2 : Int32) (x4 : Int32) (σ : Sg), JS X G 5 300 0 n0 (EM X G n0 4 300 (eS rvU M n)) (k25 x1 x2 x4 σ) (σ, M, n) 25 [(0, .inr (.inl (some (gM G)))), (1, .inl x1), (2, .inl x2), (4, .inl x4)] []) (x1 : Int32) (x2 : Int32) (x4 : Int32) (σ : Sg) : JS X G 5 300 0 n0 (EM X G n0 4 300 (eS rvU M n)) (fMd_lays_b25 k25 x1 x2 x4 σ) (σ, M, n) 25 [(0, .inr (.inl (some (gM G)))), (1, .inl x1), (2, .inl x2), (4, .inl x4)] [] := by
  unfold fMd_lays_b25
  refine s_blk C 20 2 [0, 1, 2, 4] (pc' := 28) (lv' := [(0, .inr (.inl (some (gM G)))), (1, .inl x1), (2, .inl x2), (4, .inl x4)]) (st' := [.inl 2, .inl x4]) rfl ?_
  refine s_icge C 22 rfl (fun _ => ?_) (fun _ => ?_)
  · exact s_vret C 42 rfl rfl
  refine s_blk C 23 1 [0, 1, 2, 4] (pc' := 32) (lv' := [(0, .inr (.inl (some (gM G)))), (1, .inl x1), (2, .inl x2), (4, .inl x4)]) (st' := [.inr (.inl (some (gM G)))]) rfl ?_
  refine s_mR hG C 24 rfl 24 fl_X12_62 rfl ?_
  refine s_blk C 25 13 [0, 1, 2, 4] (pc' := 50) (lv' := [(0, .inr (.inl (some (gM G)))), (1, .inl x1), (2, .inl x2), (4, .inl x4)]) (st' := [.inl x4, .inl x2, .inl x1, .inr (.inl (some (gM G))), .inl ((2 * ((5 * x1) + x2)) + x4), .inr (.inl (some (gA G 24)))]) rfl ?_
  refine s_RI (CE_EM _ _ _ _ _ _) (st := [.inl ((2 * ((5 * x1) + x2)) + x4), .inr (.inl (some (gA G 24)))]) (fun o ho => j_callV (As := [.inl x1, .inl x2, .inl x4]) (st := [.inl ((2 * ((5 * x1) + x2)) + x4), .inr (.inl (some (gA G 24)))]) (b := gM G) C 38 rfl mf_Md_made ml_X12_186 rfl (recv_M hG C) (by decide) (by decide) (Nat.le_refl _) rfl (cMd_made (CX_tr C) hG σ M n x1 x2 x4 o ho)) (fun v1 => ?_)
  refine s_mstI hG C 39 rfl rfl rfl (fun σ2 _ => ?_)
  refine s_blk C 40 2 [0, 1, 2, 4] (pc' := 25) (lv' := [(0, .inr (.inl (some (gM G)))), (1, .inl x1), (2, .inl x2), (4, .inl (x4 + 1))]) (st' := []) rfl ?_
  exact H25 _ _ _ _
def fMd_lays_l25 (fu : Nat) : Int32 → Int32 → Int32 → Sg → Option (Unit × Sg) := Nat.rec (fun x1 x2 x4 σ => none) (fun _ k => fMd_lays_b25 k) fu
theorem wMd_lays_l25 {X : MC} {G : GE} {n0 : Nat} (hG : gH G = true) (C : CX X G RX12 cX12_lays pMd_lays 5 none n0) (htab : ∀ z ∈ X.2.2.2.2.2.2.2.2.exceptionTable.toList, False) {M : Mm} {n : Nat} : ∀ (fu : Nat) (x1 : Int32) (x2 : Int32) (x4 : Int32) (σ : Sg), JS X G 5 300 0 n0 (EM X G n0 4 300 (eS rvU M n)) (fMd_lays_l25 fu x1 x2 x4 σ) (σ, M, n) 25 [(0, .inr (.inl (some (gM G)))), (1, .inl x1), (2, .inl x2), (4, .inl x4)] [] := by
  intro fu
  induction fu with
  | zero => intro x1 x2 x4 σ; exact s_none
  | succ fu ih => intro x1 x2 x4 σ; exact wMd_lays_b25 hG C htab (fMd_lays_l25 fu) ih _ _ _ _
def fMd_lays (x1 : Int32) (x2 : Int32) (x3 : Int32) (σ : Sg) : Option (Unit × Sg) :=
  mpA 23 ((5 * x1) + x2) x3 σ fun σ1 =>
  mpZ 25 ((5 * x1) + x2) 0 σ1 fun σ2 =>
  fMd_lays_l25 FU x1 x2 0 σ2
theorem wMd_lays {X : MC} {G : GE} {n0 : Nat} (hG : gH G = true) (C : CX X G RX12 cX12_lays pMd_lays 5 none n0) (htab : ∀ z ∈ X.2.2.2.2.2.2.2.2.exceptionTable.toList, False) {M : Mm} {n : Nat} (x1 : Int32) (x2 : Int32) (x3 : Int32) (σ : Sg) : JS X G 5 300 0 n0 (EM X G n0 4 300 (eS rvU M n)) (fMd_lays x1 x2 x3 σ) (σ, M, n) 0 [(0, .inr (.inl (some (gM G)))), (1, .inl x1), (2, .inl x2), (3, .inl x3)] [] := by
  unfold fMd_lays
  refine s_blk C 0 1 [0, 1, 2, 3] (pc' := 1) (lv' := [(0, .inr (.inl (some (gM G)))), (1, .inl x1), (2, .inl x2), (3, .inl x3)]) (st' := [.inr (.inl (some (gM G)))]) rfl ?_
  refine s_mR hG C 1 rfl 23 fl_X12_59 rfl ?_
  refine s_blk C 2 6 [0, 1, 2] (pc' := 10) (lv' := [(0, .inr (.inl (some (gM G)))), (1, .inl x1), (2, .inl x2)]) (st' := [.inl x3, .inl ((5 * x1) + x2), .inr (.inl (some (gA G 23)))]) rfl ?_
  refine s_mstI hG C 8 rfl rfl rfl (fun σ1 _ => ?_)
  refine s_blk C 9 1 [0, 1, 2] (pc' := 12) (lv' := [(0, .inr (.inl (some (gM G)))), (1, .inl x1), (2, .inl x2)]) (st' := [.inr (.inl (some (gM G)))]) rfl ?_
  refine s_mR hG C 10 rfl 25 fl_X12_65 rfl ?_
  refine s_blk C 11 6 [0, 1, 2] (pc' := 21) (lv' := [(0, .inr (.inl (some (gM G)))), (1, .inl x1), (2, .inl x2)]) (st' := [.inl 0, .inl ((5 * x1) + x2), .inr (.inl (some (gA G 25)))]) rfl ?_
  refine s_mstZ hG C 17 rfl rfl rfl (fun σ2 _ => ?_)
  refine s_blk C 18 2 [0, 1, 2, 4] (pc' := 25) (lv' := [(0, .inr (.inl (some (gM G)))), (1, .inl x1), (2, .inl x2), (4, .inl 0)]) (st' := []) rfl ?_
  exact wMd_lays_l25 hG C htab FU _ _ _ _
theorem cMd_lays {l : Launch} {G : GE} (htr : l.stackTraces = false) (hG : gH G = true) (σ : Sg) (M : Mm) (n : Nat) (x1 : Int32) (x2 : Int32) (x3 : Int32) : ∀ o, fMd_lays x1 x2 x3 σ = some o → MetX l G yX12_lays cX12_lays 5 none 4 300 [.inr (.inl (some (gM G))), .inl x1, .inl x2, .inl x3] (σ, M, n) ((eS rvU M n) o) :=
  c_ofX (by decide) kMd_lays htr rfl rfl fun X _ _ C htab => wMd_lays hG C htab x1 x2 x3 _
def pMd_comes_0 : List BR := [(0, .bipush 90, 2, 90, 2), (2, .iload_n 1, 1, 0, 3), (3, .imul, 1, 0, 4), (4, .iload_n 2, 1, 0, 5), (5, .iadd, 1, 0, 6), (6, .istore_n 3, 1, 0, 7), (7, .iconst 0, 1, 0, 8), (8, .istore 4, 2, 0, 10), (10, .iload 4, 2, 0, 12), (12, .iconst 5, 1, 5, 13), (13, .if_icmp .ge (33), 3, 0, 46), (16, .aload_n 0, 1, 0, 17), (17, .getfield 59, 3, 0, 20), (20, .iconst 5, 1, 5, 21), (21, .iload_n 3, 1, 0, 22), (22, .imul, 1, 0, 23), (23, .iload 4, 2, 0, 25), (25, .iadd, 1, 0, 26), (26, .iconst (-1), 1, -1, 27), (27, .iastore, 1, 0, 28), (28, .aload_n 0, 1, 0, 29), (29, .getfield 65, 3, 0, 32), (32, .iconst 5, 1, 5, 33), (33, .iload_n 3, 1, 0, 34), (34, .imul, 1, 0, 35), (35, .iload 4, 2, 0, 37), (37, .iadd, 1, 0, 38), (38, .iconst 0, 1, 0, 39), (39, .bastore, 1, 0, 40), (40, .iinc 4 (1), 3, 1, 43), (43, .goto (-33), 3, 0, 10), (46, .iconst 0, 1, 0, 47), (47, .istore 4, 2, 0, 49), (49, .iconst 0, 1, 0, 50), (50, .istore 5, 2, 0, 52), (52, .iload 5, 2, 0, 54), (54, .bipush 6, 2, 6, 56), (56, .if_icmp .ge (50), 3, 0, 106), (59, .iload 4, 2, 0, 61), (61, .iconst 5, 1, 5, 62)]
theorem kMd_comes_0 : bOK cX12_comes 7 pMd_comes_0 = true := by decide +kernel
def pMd_comes_1 : List BR := [(62, .if_icmp .ge (44), 3, 0, 106), (65, .iload_n 2, 1, 0, 66), (66, .iload 5, 2, 0, 68), (68, .invokestatic 189, 3, 0, 71), (71, .istore 6, 2, 0, 73), (73, .aload_n 0, 1, 0, 74), (74, .getfield 40, 3, 0, 77), (77, .bipush 6, 2, 6, 79), (79, .iload_n 1, 1, 0, 80), (80, .imul, 1, 0, 81), (81, .iload 6, 2, 0, 83), (83, .iadd, 1, 0, 84), (84, .baload, 1, 0, 85), (85, .ifCond .ne (15), 3, 0, 100), (88, .aload_n 0, 1, 0, 89), (89, .iload_n 3, 1, 0, 90), (90, .iload 4, 2, 0, 92), (92, .iload 6, 2, 0, 94), (94, .invokevirtual 192, 3, 0, 97), (97, .iinc 4 (1), 3, 1, 100), (100, .iinc 5 (1), 3, 1, 103), (103, .goto (-51), 3, 0, 52), (106, .return_, 1, 0, 107)]
theorem kMd_comes_1 : bOK cX12_comes 7 pMd_comes_1 = true := by decide +kernel
def pMd_comes : List BR := (pMd_comes_0 ++ pMd_comes_1)
theorem kMd_comes : bOK cX12_comes 7 pMd_comes = true := (bOK_app kMd_comes_0 kMd_comes_1)
def fMd_comes_j100 (k52 : Int32 → Int32 → Int32 → Int32 → Int32 → Sg → Option (Unit × Sg)) (x1 : Int32) (x2 : Int32) (x3 : Int32) (x4 : Int32) (x5 : Int32) (σ : Sg) : Option (Unit × Sg) :=
  k52 x1 x2 x3 x4 (x5 + 1) σ
theorem wMd_comes_j100 {X : MC} {G : GE} {n0 : Nat} (hG : gH G = true) (C : CX X G RX12 cX12_comes pMd_comes 7 none n0) (htab : ∀ z ∈ X.2.2.2.2.2.2.2.2.exceptionTable.toList, False) {M : Mm} {n : Nat} (k52 : Int32 → Int32 → Int32 → Int32 → Int32 → Sg → Option (Unit × Sg)) (H52 : ∀ (x1 : Int32) (x2 : Int32) (x3 : Int32) (x4 : Int32) (x5 : Int32) (σ : Sg), JS X G 7 300 0 n0 (EM X G n0 5 300 (eS rvU M n)) (k52 x1 x2 x3 x4 x5 σ) (σ, M, n) 52 [(0, .inr (.inl (some (gM G)))), (1, .inl x1), (2, .inl x2), (3, .inl x3), (4, .inl x4), (5, .inl x5)] []) (x1 : Int32) (x2 : Int32) (x3 : Int32) (x4 : Int32) (x5 : Int32) (σ : Sg) : JS X G 7 300 0 n0 (EM X G n0 5 300 (eS rvU M n)) (fMd_comes_j100 k52 x1 x2 x3 x4 x5 σ) (σ, M, n) 100 [(0, .inr (.inl (some (gM G)))), (1, .inl x1), (2, .inl x2), (3, .inl x3), (4, .inl x4), (5, .inl x5)] [] := by
  unfold fMd_comes_j100
  refine s_blk C 60 2 [0, 1, 2, 3, 4, 5] (pc' := 52) (lv' := [(0, .inr (.inl (some (gM G)))), (1, .inl x1), (2, .inl x2), (3, .inl x3), (4, .inl x4), (5, .inl (x5 + 1))]) (st' := []) rfl ?_
  exact H52 _ _ _ _ _ _
def fMd_comes_b52 (k52 : Int32 → Int32 → Int32 → Int32 → Int32 → Sg → Option (Unit × Sg)) (x1 : Int32) (x2 : Int32) (x3 : Int32) (x4 : Int32) (x5 : Int32) (σ : Sg) : Option (Unit × Sg) :=
  if 6 ≤ x5 then
    some ((), σ)
  else
    if 5 ≤ x4 then
      some ((), σ)
    else
      bdR (fMd_ordered x2 x5) fun v1 =>
      mgA 17 ((6 * x1) + v1) σ fun v2 =>
      if v2 = 0 then
        bdW (fMd_lays x3 x4 v1 σ) fun v3 σ4 =>
        fMd_comes_j100 k52 x1 x2 x3 (x4 + 1) x5 σ4
      else
        fMd_comes_j100 k52 x1 x2 x3 x4 x5 σ
theorem wMd_comes_b52 {X : MC} {G : GE} {n0 : Nat} (hG : gH G = true) (C : CX X G RX12 cX12_comes pMd_comes 7 none n0) (htab : ∀ z ∈ X.2.2.2.2.2.2.2.2.exceptionTable.toList, False) {M : Mm} {n : Nat} (k52 : Int32 → Int32 → Int32 → Int32 → Int32 → Sg → Option (Unit × Sg)) (H52 : ∀ (x1 : Int32) (x2 : Int32) (x3 : Int32) (x4 : Int32) (x5 : Int32) (σ : Sg), JS X G 7 300 0 n0 (EM X G n0 5 300 (eS rvU M n)) (k52 x1 x2 x3 x4 x5 σ) (σ, M, n) 52 [(0, .inr (.inl (some (gM G)))), (1, .inl x1), (2, .inl x2), (3, .inl x3), (4, .inl x4), (5, .inl x5)] []) (x1 : Int32) (x2 : Int32) (x3 : Int32) (x4 : Int32) (x5 : Int32) (σ : Sg) : JS X G 7 300 0 n0 (EM X G n0 5 300 (eS rvU M n)) (fMd_comes_b52 k52 x1 x2 x3 x4 x5 σ) (σ, M, n) 52 [(0, .inr (.inl (some (gM G)))), (1, .inl x1), (2, .inl x2), (3, .inl x3), (4, .inl x4), (5, .inl x5)] [] := by
  unfold fMd_comes_b52
  refine s_blk C 35 2 [0, 1, 2, 3, 4, 5] (pc' := 56) (lv' := [(0, .inr (.inl (some (gM G)))), (1, .inl x1), (2, .inl x2), (3, .inl x3), (4, .inl x4), (5, .inl x5)]) (st' := [.inl 6, .inl x5]) rfl ?_
  refine s_icge C 37 rfl (fun _ => ?_) (fun _ => ?_)
  · exact s_vret C 62 rfl rfl
  refine s_blk C 38 2 [0, 1, 2, 3, 4, 5] (pc' := 62) (lv' := [(0, .inr (.inl (some (gM G)))), (1, .inl x1), (2, .inl x2), (3, .inl x3), (4, .inl x4), (5, .inl x5)]) (st' := [.inl 5, .inl x4]) rfl ?_
  refine s_icge C 40 rfl (fun _ => ?_) (fun _ => ?_)
  · exact s_vret C 62 rfl rfl
  refine s_blk C 41 2 [0, 1, 2, 3, 4, 5] (pc' := 68) (lv' := [(0, .inr (.inl (some (gM G)))), (1, .inl x1), (2, .inl x2), (3, .inl x3), (4, .inl x4), (5, .inl x5)]) (st' := [.inl x5, .inl x2]) rfl ?_
  refine s_RI (CE_EM _ _ _ _ _ _) (st := []) (fun o ho => j_callS (As := [.inl x2, .inl x5]) (st := []) C 43 rfl mf_Md_ordered ml_X12_189 rfl (by decide) (by decide) (Nat.le_refl _) rfl (cMd_ordered (CX_tr C) hG σ M n x2 x5 o ho)) (fun v1 => ?_)
  refine s_blk C 44 2 [0, 1, 2, 3, 4, 5, 6] (pc' := 74) (lv' := [(0, .inr (.inl (some (gM G)))), (1, .inl x1), (2, .inl x2), (3, .inl x3), (4, .inl x4), (5, .inl x5), (6, .inl v1)]) (st' := [.inr (.inl (some (gM G)))]) rfl ?_
  refine s_mR hG C 46 rfl 17 fl_X12_40 rfl ?_
  refine s_blk C 47 5 [0, 1, 2, 3, 4, 5, 6] (pc' := 84) (lv' := [(0, .inr (.inl (some (gM G)))), (1, .inl x1), (2, .inl x2), (3, .inl x3), (4, .inl x4), (5, .inl x5), (6, .inl v1)]) (st' := [.inl ((6 * x1) + v1), .inr (.inl (some (gA G 17)))]) rfl ?_
  refine s_mldZ hG C 52 rfl rfl rfl (fun v2 => ?_)
  refine s_ine C 53 rfl (fun _ => ?_) (fun _ => ?_)
  · refine s_blk C 54 4 [0, 1, 2, 3, 4, 5] (pc' := 94) (lv' := [(0, .inr (.inl (some (gM G)))), (1, .inl x1), (2, .inl x2), (3, .inl x3), (4, .inl x4), (5, .inl x5)]) (st' := [.inl v1, .inl x4, .inl x3, .inr (.inl (some (gM G)))]) rfl ?_
    refine s_SU (CE_EM _ _ _ _ _ _) (st := []) (fun o ho => j_callV (As := [.inl x3, .inl x4, .inl v1]) (st := []) (b := gM G) C 58 rfl mf_Md_lays ml_X12_192 rfl (recv_M hG C) (by decide) (by decide) (Nat.le_refl _) rfl (cMd_lays (CX_tr C) hG σ M n x3 x4 v1 o ho)) (fun v3 σ4 => ?_)
    refine s_blk C 59 1 [0, 1, 2, 3, 4, 5] (pc' := 100) (lv' := [(0, .inr (.inl (some (gM G)))), (1, .inl x1), (2, .inl x2), (3, .inl x3), (4, .inl (x4 + 1)), (5, .inl x5)]) (st' := []) rfl ?_
    exact wMd_comes_j100 hG C htab k52 H52 _ _ _ _ _ _
  refine s_blk C 0 0 [0, 1, 2, 3, 4, 5] (pc' := 100) (lv' := [(0, .inr (.inl (some (gM G)))), (1, .inl x1), (2, .inl x2), (3, .inl x3), (4, .inl x4), (5, .inl x5)]) (st' := []) rfl ?_
  exact wMd_comes_j100 hG C htab k52 H52 _ _ _ _ _ _
def fMd_comes_l52 (fu : Nat) : Int32 → Int32 → Int32 → Int32 → Int32 → Sg → Option (Unit × Sg) := Nat.rec (fun x1 x2 x3 x4 x5 σ => none) (fun _ k => fMd_comes_b52 k) fu
theorem wMd_comes_l52 {X : MC} {G : GE} {n0 : Nat} (hG : gH G = true) (C : CX X G RX12 cX12_comes pMd_comes 7 none n0) (htab : ∀ z ∈ X.2.2.2.2.2.2.2.2.exceptionTable.toList, False) {M : Mm} {n : Nat} : ∀ (fu : Nat) (x1 : Int32) (x2 : Int32) (x3 : Int32) (x4 : Int32) (x5 : Int32) (σ : Sg), JS X G 7 300 0 n0 (EM X G n0 5 300 (eS rvU M n)) (fMd_comes_l52 fu x1 x2 x3 x4 x5 σ) (σ, M, n) 52 [(0, .inr (.inl (some (gM G)))), (1, .inl x1), (2, .inl x2), (3, .inl x3), (4, .inl x4), (5, .inl x5)] [] := by
  intro fu
  induction fu with
  | zero => intro x1 x2 x3 x4 x5 σ; exact s_none
  | succ fu ih => intro x1 x2 x3 x4 x5 σ; exact wMd_comes_b52 hG C htab (fMd_comes_l52 fu) ih _ _ _ _ _ _
def fMd_comes_b10 (k10 : Int32 → Int32 → Int32 → Int32 → Sg → Option (Unit × Sg)) (x1 : Int32) (x2 : Int32) (x3 : Int32) (x4 : Int32) (σ : Sg) : Option (Unit × Sg) :=
  if 5 ≤ x4 then
    fMd_comes_l52 FU x1 x2 x3 0 0 σ
  else
    mpA 23 ((5 * x3) + x4) (-1) σ fun σ1 =>
    mpZ 25 ((5 * x3) + x4) 0 σ1 fun σ2 =>
    k10 x1 x2 x3 (x4 + 1) σ2
theorem wMd_comes_b10 {X : MC} {G : GE} {n0 : Nat} (hG : gH G = true) (C : CX X G RX12 cX12_comes pMd_comes 7 none n0) (htab : ∀ z ∈ X.2.2.2.2.2.2.2.2.exceptionTable.toList, False) {M : Mm} {n : Nat} (k10 : Int32 → Int32 → Int32 → Int32 → Sg → Option (Unit × Sg)) (H10 : ∀ (x1 : Int32) (x2 : Int32) (x3 : Int32) (x4 : Int32) (σ : Sg), JS X G 7 300 0 n0 (EM X G n0 5 300 (eS rvU M n)) (k10 x1 x2 x3 x4 σ) (σ, M, n) 10 [(0, .inr (.inl (some (gM G)))), (1, .inl x1), (2, .inl x2), (3, .inl x3), (4, .inl x4)] []) (x1 : Int32) (x2 : Int32) (x3 : Int32) (x4 : Int32) (σ : Sg) : JS X G 7 300 0 n0 (EM X G n0 5 300 (eS rvU M n)) (fMd_comes_b10 k10 x1 x2 x3 x4 σ) (σ, M, n) 10 [(0, .inr (.inl (some (gM G)))), (1, .inl x1), (2, .inl x2), (3, .inl x3), (4, .inl x4)] [] := by
  unfold fMd_comes_b10
  refine s_blk C 8 2 [0, 1, 2, 3, 4] (pc' := 13) (lv' := [(0, .inr (.inl (some (gM G)))), (1, .inl x1), (2, .inl x2), (3, .inl x3), (4, .inl x4)]) (st' := [.inl 5, .inl x4]) rfl ?_
  refine s_icge C 10 rfl (fun _ => ?_) (fun _ => ?_)
  · refine s_blk C 31 4 [0, 1, 2, 3, 4, 5] (pc' := 52) (lv' := [(0, .inr (.inl (some (gM G)))), (1, .inl x1), (2, .inl x2), (3, .inl x3), (4, .inl 0), (5, .inl 0)]) (st' := []) rfl ?_
    exact wMd_comes_l52 hG C htab FU _ _ _ _ _ _
  refine s_blk C 11 1 [0, 1, 2, 3, 4] (pc' := 17) (lv' := [(0, .inr (.inl (some (gM G)))), (1, .inl x1), (2, .inl x2), (3, .inl x3), (4, .inl x4)]) (st' := [.inr (.inl (some (gM G)))]) rfl ?_
  refine s_mR hG C 12 rfl 23 fl_X12_59 rfl ?_
  refine s_blk C 13 6 [0, 1, 2, 3, 4] (pc' := 27) (lv' := [(0, .inr (.inl (some (gM G)))), (1, .inl x1), (2, .inl x2), (3, .inl x3), (4, .inl x4)]) (st' := [.inl (-1), .inl ((5 * x3) + x4), .inr (.inl (some (gA G 23)))]) rfl ?_
  refine s_mstI hG C 19 rfl rfl rfl (fun σ1 _ => ?_)
  refine s_blk C 20 1 [0, 1, 2, 3, 4] (pc' := 29) (lv' := [(0, .inr (.inl (some (gM G)))), (1, .inl x1), (2, .inl x2), (3, .inl x3), (4, .inl x4)]) (st' := [.inr (.inl (some (gM G)))]) rfl ?_
  refine s_mR hG C 21 rfl 25 fl_X12_65 rfl ?_
  refine s_blk C 22 6 [0, 1, 2, 3, 4] (pc' := 39) (lv' := [(0, .inr (.inl (some (gM G)))), (1, .inl x1), (2, .inl x2), (3, .inl x3), (4, .inl x4)]) (st' := [.inl 0, .inl ((5 * x3) + x4), .inr (.inl (some (gA G 25)))]) rfl ?_
  refine s_mstZ hG C 28 rfl rfl rfl (fun σ2 _ => ?_)
  refine s_blk C 29 2 [0, 1, 2, 3, 4] (pc' := 10) (lv' := [(0, .inr (.inl (some (gM G)))), (1, .inl x1), (2, .inl x2), (3, .inl x3), (4, .inl (x4 + 1))]) (st' := []) rfl ?_
  exact H10 _ _ _ _ _
def fMd_comes_l10 (fu : Nat) : Int32 → Int32 → Int32 → Int32 → Sg → Option (Unit × Sg) := Nat.rec (fun x1 x2 x3 x4 σ => none) (fun _ k => fMd_comes_b10 k) fu
theorem wMd_comes_l10 {X : MC} {G : GE} {n0 : Nat} (hG : gH G = true) (C : CX X G RX12 cX12_comes pMd_comes 7 none n0) (htab : ∀ z ∈ X.2.2.2.2.2.2.2.2.exceptionTable.toList, False) {M : Mm} {n : Nat} : ∀ (fu : Nat) (x1 : Int32) (x2 : Int32) (x3 : Int32) (x4 : Int32) (σ : Sg), JS X G 7 300 0 n0 (EM X G n0 5 300 (eS rvU M n)) (fMd_comes_l10 fu x1 x2 x3 x4 σ) (σ, M, n) 10 [(0, .inr (.inl (some (gM G)))), (1, .inl x1), (2, .inl x2), (3, .inl x3), (4, .inl x4)] [] := by
  intro fu
  induction fu with
  | zero => intro x1 x2 x3 x4 σ; exact s_none
  | succ fu ih => intro x1 x2 x3 x4 σ; exact wMd_comes_b10 hG C htab (fMd_comes_l10 fu) ih _ _ _ _ _
def fMd_comes (x1 : Int32) (x2 : Int32) (σ : Sg) : Option (Unit × Sg) :=
  fMd_comes_l10 FU x1 x2 ((90 * x1) + x2) 0 σ
theorem wMd_comes {X : MC} {G : GE} {n0 : Nat} (hG : gH G = true) (C : CX X G RX12 cX12_comes pMd_comes 7 none n0) (htab : ∀ z ∈ X.2.2.2.2.2.2.2.2.exceptionTable.toList, False) {M : Mm} {n : Nat} (x1 : Int32) (x2 : Int32) (σ : Sg) : JS X G 7 300 0 n0 (EM X G n0 5 300 (eS rvU M n)) (fMd_comes x1 x2 σ) (σ, M, n) 0 [(0, .inr (.inl (some (gM G)))), (1, .inl x1), (2, .inl x2)] [] := by
  unfold fMd_comes
  refine s_blk C 0 8 [0, 1, 2, 3, 4] (pc' := 10) (lv' := [(0, .inr (.inl (some (gM G)))), (1, .inl x1), (2, .inl x2), (3, .inl ((90 * x1) + x2)), (4, .inl 0)]) (st' := []) rfl ?_
  exact wMd_comes_l10 hG C htab FU _ _ _ _ _
theorem cMd_comes {l : Launch} {G : GE} (htr : l.stackTraces = false) (hG : gH G = true) (σ : Sg) (M : Mm) (n : Nat) (x1 : Int32) (x2 : Int32) : ∀ o, fMd_comes x1 x2 σ = some o → MetX l G yX12_comes cX12_comes 7 none 5 300 [.inr (.inl (some (gM G))), .inl x1, .inl x2] (σ, M, n) ((eS rvU M n) o) :=
  c_ofX (by decide) kMd_comes htr rfl rfl fun X _ _ C htab => wMd_comes hG C htab x1 x2 _

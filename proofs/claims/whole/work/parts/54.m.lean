def pMd_newMany_0 : List BR := [(0, .iconst 0, 1, 0, 1), (1, .istore_n 2, 1, 0, 2), (2, .iconst 0, 1, 0, 3), (3, .istore_n 3, 1, 0, 4), (4, .iload_n 3, 1, 0, 5), (5, .aload_n 0, 1, 0, 6), (6, .getfield 154, 3, 0, 9), (9, .if_icmp .ge (76), 3, 0, 85), (12, .aload_n 0, 1, 0, 13), (13, .iload_n 1, 1, 0, 14), (14, .iload_n 3, 1, 0, 15), (15, .invokevirtual 163, 3, 0, 18), (18, .iconst (-1), 1, -1, 19), (19, .if_icmp .ne (7), 3, 0, 26), (22, .iconst 1, 1, 1, 23), (23, .goto (4), 3, 0, 27), (26, .iconst 0, 1, 0, 27), (27, .istore 4, 2, 0, 29), (29, .iconst 0, 1, 0, 30), (30, .istore 5, 2, 0, 32), (32, .iload 5, 2, 0, 34), (34, .iload_n 3, 1, 0, 35), (35, .if_icmp .ge (31), 3, 0, 66), (38, .iload 4, 2, 0, 40), (40, .ifCond .eq (26), 3, 0, 66), (43, .aload_n 0, 1, 0, 44), (44, .iload 5, 2, 0, 46), (46, .iload_n 3, 1, 0, 47), (47, .invokevirtual 166, 3, 0, 50), (50, .ifCond .ne (7), 3, 0, 57), (53, .iconst 1, 1, 1, 54), (54, .goto (4), 3, 0, 58), (57, .iconst 0, 1, 0, 58), (58, .istore 4, 2, 0, 60), (60, .iinc 5 (1), 3, 1, 63), (63, .goto (-31), 3, 0, 32), (66, .iload_n 2, 1, 0, 67), (67, .iload 4, 2, 0, 69), (69, .ifCond .eq (7), 3, 0, 76), (72, .iconst 1, 1, 1, 73)]
theorem kMd_newMany_0 : bOK cX12_newMany 6 pMd_newMany_0 = true := by decide +kernel
def pMd_newMany_1 : List BR := [(73, .goto (4), 3, 0, 77), (76, .iconst 0, 1, 0, 77), (77, .iadd, 1, 0, 78), (78, .istore_n 2, 1, 0, 79), (79, .iinc 3 (1), 3, 1, 82), (82, .goto (-78), 3, 0, 4), (85, .iload_n 2, 1, 0, 86), (86, .ireturn, 1, 0, 87)]
theorem kMd_newMany_1 : bOK cX12_newMany 6 pMd_newMany_1 = true := by decide +kernel
def pMd_newMany : List BR := (pMd_newMany_0 ++ pMd_newMany_1)
theorem kMd_newMany : bOK cX12_newMany 6 pMd_newMany = true := (bOK_app kMd_newMany_0 kMd_newMany_1)
def fMd_newMany_j77 (k4 : Int32 → Int32 → Int32 → Sg → Option (Int32)) (x1 : Int32) (x3 : Int32) (s0 : Int32) (s1 : Int32) (σ : Sg) : Option (Int32) :=
  k4 x1 (s1 + s0) (x3 + 1) σ
theorem wMd_newMany_j77 {X : MC} {G : GE} {n0 : Nat} (hG : gH G = true) (C : CX X G RX12 cX12_newMany pMd_newMany 6 (some .int) n0) (htab : ∀ z ∈ X.2.2.2.2.2.2.2.2.exceptionTable.toList, False) {σ : Sg} {M : Mm} {n : Nat} (k4 : Int32 → Int32 → Int32 → Sg → Option (Int32)) (H4 : ∀ (x1 : Int32) (x2 : Int32) (x3 : Int32), JS X G 6 300 0 n0 (EM X G n0 3 300 (eR rvI σ M n)) (k4 x1 x2 x3 σ) (σ, M, n) 4 [(0, .inr (.inl (some (gM G)))), (1, .inl x1), (2, .inl x2), (3, .inl x3)] []) (x1 : Int32) (x3 : Int32) (s0 : Int32) (s1 : Int32) : JS X G 6 300 0 n0 (EM X G n0 3 300 (eR rvI σ M n)) (fMd_newMany_j77 k4 x1 x3 s0 s1 σ) (σ, M, n) 77 [(0, .inr (.inl (some (gM G)))), (1, .inl x1), (3, .inl x3)] [.inl s0, .inl s1] := by
  unfold fMd_newMany_j77
  refine s_blk C 42 4 [0, 1, 2, 3] (pc' := 4) (lv' := [(0, .inr (.inl (some (gM G)))), (1, .inl x1), (2, .inl (s1 + s0)), (3, .inl (x3 + 1))]) (st' := []) rfl ?_
  exact H4 _ _ _
def fMd_newMany_j66 (k4 : Int32 → Int32 → Int32 → Sg → Option (Int32)) (x1 : Int32) (x2 : Int32) (x3 : Int32) (x4 : Int32) (σ : Sg) : Option (Int32) :=
  if x4 = 0 then
    fMd_newMany_j77 k4 x1 x3 0 x2 σ
  else
    fMd_newMany_j77 k4 x1 x3 1 x2 σ
theorem wMd_newMany_j66 {X : MC} {G : GE} {n0 : Nat} (hG : gH G = true) (C : CX X G RX12 cX12_newMany pMd_newMany 6 (some .int) n0) (htab : ∀ z ∈ X.2.2.2.2.2.2.2.2.exceptionTable.toList, False) {σ : Sg} {M : Mm} {n : Nat} (k4 : Int32 → Int32 → Int32 → Sg → Option (Int32)) (H4 : ∀ (x1 : Int32) (x2 : Int32) (x3 : Int32), JS X G 6 300 0 n0 (EM X G n0 3 300 (eR rvI σ M n)) (k4 x1 x2 x3 σ) (σ, M, n) 4 [(0, .inr (.inl (some (gM G)))), (1, .inl x1), (2, .inl x2), (3, .inl x3)] []) (x1 : Int32) (x2 : Int32) (x3 : Int32) (x4 : Int32) : JS X G 6 300 0 n0 (EM X G n0 3 300 (eR rvI σ M n)) (fMd_newMany_j66 k4 x1 x2 x3 x4 σ) (σ, M, n) 66 [(0, .inr (.inl (some (gM G)))), (1, .inl x1), (2, .inl x2), (3, .inl x3), (4, .inl x4)] [] := by
  unfold fMd_newMany_j66
  refine s_blk C 36 2 [0, 1, 3] (pc' := 69) (lv' := [(0, .inr (.inl (some (gM G)))), (1, .inl x1), (3, .inl x3)]) (st' := [.inl x4, .inl x2]) rfl ?_
  refine s_ieq C 38 rfl (fun _ => ?_) (fun _ => ?_)
  · refine s_blk C 41 1 [0, 1, 3] (pc' := 77) (lv' := [(0, .inr (.inl (some (gM G)))), (1, .inl x1), (3, .inl x3)]) (st' := [.inl 0, .inl x2]) rfl ?_
    exact wMd_newMany_j77 hG C htab k4 H4 _ _ _ _
  refine s_blk C 39 2 [0, 1, 3] (pc' := 77) (lv' := [(0, .inr (.inl (some (gM G)))), (1, .inl x1), (3, .inl x3)]) (st' := [.inl 1, .inl x2]) rfl ?_
  exact wMd_newMany_j77 hG C htab k4 H4 _ _ _ _
def fMd_newMany_j58 (k4 : Int32 → Int32 → Int32 → Sg → Option (Int32)) (k32 : Int32 → Int32 → Int32 → Int32 → Int32 → Sg → Option (Int32)) (x1 : Int32) (x2 : Int32) (x3 : Int32) (x5 : Int32) (s0 : Int32) (σ : Sg) : Option (Int32) :=
  k32 x1 x2 x3 s0 (x5 + 1) σ
theorem wMd_newMany_j58 {X : MC} {G : GE} {n0 : Nat} (hG : gH G = true) (C : CX X G RX12 cX12_newMany pMd_newMany 6 (some .int) n0) (htab : ∀ z ∈ X.2.2.2.2.2.2.2.2.exceptionTable.toList, False) {σ : Sg} {M : Mm} {n : Nat} (k4 : Int32 → Int32 → Int32 → Sg → Option (Int32)) (H4 : ∀ (x1 : Int32) (x2 : Int32) (x3 : Int32), JS X G 6 300 0 n0 (EM X G n0 3 300 (eR rvI σ M n)) (k4 x1 x2 x3 σ) (σ, M, n) 4 [(0, .inr (.inl (some (gM G)))), (1, .inl x1), (2, .inl x2), (3, .inl x3)] []) (k32 : Int32 → Int32 → Int32 → Int32 → Int32 → Sg → Option (Int32)) (H32 : ∀ (x1 : Int32) (x2 : Int32) (x3 : Int32) (x4 : Int32) (x5 : Int32), JS X G 6 300 0 n0 (EM X G n0 3 300 (eR rvI σ M n)) (k32 x1 x2 x3 x4 x5 σ) (σ, M, n) 32 [(0, .inr (.inl (some (gM G)))), (1, .inl x1), (2, .inl x2), (3, .inl x3), (4, .inl x4), (5, .inl x5)] []) (x1 : Int32) (x2 : Int32) (x3 : Int32) (x5 : Int32) (s0 : Int32) : JS X G 6 300 0 n0 (EM X G n0 3 300 (eR rvI σ M n)) (fMd_newMany_j58 k4 k32 x1 x2 x3 x5 s0 σ) (σ, M, n) 58 [(0, .inr (.inl (some (gM G)))), (1, .inl x1), (2, .inl x2), (3, .inl x3), (5, .inl x5)] [.inl s0] := by
  unfold fMd_newMany_j58
  refine s_blk C 33 3 [0, 1, 2, 3, 4, 5] (pc' := 32) (lv' := [(0, .inr (.inl (some (gM G)))), (1, .inl x1), (2, .inl x2), (3, .inl x3), (4, .inl s0), (5, .inl (x5 + 1))]) (st' := []) rfl ?_
  exact H32 _ _ _ _ _
def fMd_newMany_b32 (k4 : Int32 → Int32 → Int32 → Sg → Option (Int32)) (k32 : Int32 → Int32 → Int32 → Int32 → Int32 → Sg → Option (Int32)) (x1 : Int32) (x2 : Int32) (x3 : Int32) (x4 : Int32) (x5 : Int32) (σ : Sg) : Option (Int32) :=
  if x3 ≤ x5 then
    fMd_newMany_j66 k4 x1 x2 x3 x4 σ
  else
    if x4 = 0 then
      fMd_newMany_j66 k4 x1 x2 x3 x4 σ
    else
      bdR (fMd_isSame x5 x3 σ) fun v1 =>
      if v1 = 0 then
        fMd_newMany_j58 k4 k32 x1 x2 x3 x5 1 σ
      else
        fMd_newMany_j58 k4 k32 x1 x2 x3 x5 0 σ
theorem wMd_newMany_b32 {X : MC} {G : GE} {n0 : Nat} (hG : gH G = true) (C : CX X G RX12 cX12_newMany pMd_newMany 6 (some .int) n0) (htab : ∀ z ∈ X.2.2.2.2.2.2.2.2.exceptionTable.toList, False) {σ : Sg} {M : Mm} {n : Nat} (k4 : Int32 → Int32 → Int32 → Sg → Option (Int32)) (H4 : ∀ (x1 : Int32) (x2 : Int32) (x3 : Int32), JS X G 6 300 0 n0 (EM X G n0 3 300 (eR rvI σ M n)) (k4 x1 x2 x3 σ) (σ, M, n) 4 [(0, .inr (.inl (some (gM G)))), (1, .inl x1), (2, .inl x2), (3, .inl x3)] []) (k32 : Int32 → Int32 → Int32 → Int32 → Int32 → Sg → Option (Int32)) (H32 : ∀ (x1 : Int32) (x2 : Int32) (x3 : Int32) (x4 : Int32) (x5 : Int32), JS X G 6 300 0 n0 (EM X G n0 3 300 (eR rvI σ M n)) (k32 x1 x2 x3 x4 x5 σ) (σ, M, n) 32 [(0, .inr (.inl (some (gM G)))), (1, .inl x1), (2, .inl x2), (3, .inl x3), (4, .inl x4), (5, .inl x5)] []) (x1 : Int32) (x2 : Int32) (x3 : Int32) (x4 : Int32) (x5 : Int32) : JS X G 6 300 0 n0 (EM X G n0 3 300 (eR rvI σ M n)) (fMd_newMany_b32 k4 k32 x1 x2 x3 x4 x5 σ) (σ, M, n) 32 [(0, .inr (.inl (some (gM G)))), (1, .inl x1), (2, .inl x2), (3, .inl x3), (4, .inl x4), (5, .inl x5)] [] := by
  unfold fMd_newMany_b32
  refine s_blk C 20 2 [0, 1, 2, 3, 4, 5] (pc' := 35) (lv' := [(0, .inr (.inl (some (gM G)))), (1, .inl x1), (2, .inl x2), (3, .inl x3), (4, .inl x4), (5, .inl x5)]) (st' := [.inl x3, .inl x5]) rfl ?_
  refine s_icge C 22 rfl (fun _ => ?_) (fun _ => ?_)
  · refine s_blk C 0 0 [0, 1, 2, 3, 4] (pc' := 66) (lv' := [(0, .inr (.inl (some (gM G)))), (1, .inl x1), (2, .inl x2), (3, .inl x3), (4, .inl x4)]) (st' := []) rfl ?_
    exact wMd_newMany_j66 hG C htab k4 H4 _ _ _ _
  refine s_blk C 23 1 [0, 1, 2, 3, 4, 5] (pc' := 40) (lv' := [(0, .inr (.inl (some (gM G)))), (1, .inl x1), (2, .inl x2), (3, .inl x3), (4, .inl x4), (5, .inl x5)]) (st' := [.inl x4]) rfl ?_
  refine s_ieq C 24 rfl (fun _ => ?_) (fun _ => ?_)
  · refine s_blk C 0 0 [0, 1, 2, 3, 4] (pc' := 66) (lv' := [(0, .inr (.inl (some (gM G)))), (1, .inl x1), (2, .inl x2), (3, .inl x3), (4, .inl x4)]) (st' := []) rfl ?_
    exact wMd_newMany_j66 hG C htab k4 H4 _ _ _ _
  refine s_blk C 25 3 [0, 1, 2, 3, 5] (pc' := 47) (lv' := [(0, .inr (.inl (some (gM G)))), (1, .inl x1), (2, .inl x2), (3, .inl x3), (5, .inl x5)]) (st' := [.inl x3, .inl x5, .inr (.inl (some (gM G)))]) rfl ?_
  refine s_RI (CE_EM _ _ _ _ _ _) (st := []) (fun o ho => j_callV (As := [.inl x5, .inl x3]) (st := []) (b := gM G) C 28 rfl mf_Md_isSame ml_X12_166 rfl (recv_M hG C) (by decide) (by decide) (Nat.le_refl _) rfl (cMd_isSame (CX_tr C) hG σ M n x5 x3 o ho)) (fun v1 => ?_)
  refine s_ine C 29 rfl (fun _ => ?_) (fun _ => ?_)
  · refine s_blk C 30 2 [0, 1, 2, 3, 5] (pc' := 58) (lv' := [(0, .inr (.inl (some (gM G)))), (1, .inl x1), (2, .inl x2), (3, .inl x3), (5, .inl x5)]) (st' := [.inl 1]) rfl ?_
    exact wMd_newMany_j58 hG C htab k4 H4 k32 H32 _ _ _ _ _
  refine s_blk C 32 1 [0, 1, 2, 3, 5] (pc' := 58) (lv' := [(0, .inr (.inl (some (gM G)))), (1, .inl x1), (2, .inl x2), (3, .inl x3), (5, .inl x5)]) (st' := [.inl 0]) rfl ?_
  exact wMd_newMany_j58 hG C htab k4 H4 k32 H32 _ _ _ _ _
def fMd_newMany_l32 (k4 : Int32 → Int32 → Int32 → Sg → Option (Int32)) (fu : Nat) : Int32 → Int32 → Int32 → Int32 → Int32 → Sg → Option (Int32) := Nat.rec (fun x1 x2 x3 x4 x5 σ => none) (fun _ k => fMd_newMany_b32 k4 k) fu
theorem wMd_newMany_l32 {X : MC} {G : GE} {n0 : Nat} (hG : gH G = true) (C : CX X G RX12 cX12_newMany pMd_newMany 6 (some .int) n0) (htab : ∀ z ∈ X.2.2.2.2.2.2.2.2.exceptionTable.toList, False) {σ : Sg} {M : Mm} {n : Nat} (k4 : Int32 → Int32 → Int32 → Sg → Option (Int32)) (H4 : ∀ (x1 : Int32) (x2 : Int32) (x3 : Int32), JS X G 6 300 0 n0 (EM X G n0 3 300 (eR rvI σ M n)) (k4 x1 x2 x3 σ) (σ, M, n) 4 [(0, .inr (.inl (some (gM G)))), (1, .inl x1), (2, .inl x2), (3, .inl x3)] []) : ∀ (fu : Nat) (x1 : Int32) (x2 : Int32) (x3 : Int32) (x4 : Int32) (x5 : Int32), JS X G 6 300 0 n0 (EM X G n0 3 300 (eR rvI σ M n)) (fMd_newMany_l32 k4 fu x1 x2 x3 x4 x5 σ) (σ, M, n) 32 [(0, .inr (.inl (some (gM G)))), (1, .inl x1), (2, .inl x2), (3, .inl x3), (4, .inl x4), (5, .inl x5)] [] := by
  intro fu
  induction fu with
  | zero => intro x1 x2 x3 x4 x5; exact s_none
  | succ fu ih => intro x1 x2 x3 x4 x5; exact wMd_newMany_b32 hG C htab k4 H4 (fMd_newMany_l32 k4 fu) ih _ _ _ _ _
def fMd_newMany_j27 (k4 : Int32 → Int32 → Int32 → Sg → Option (Int32)) (x1 : Int32) (x2 : Int32) (x3 : Int32) (s0 : Int32) (σ : Sg) : Option (Int32) :=
  fMd_newMany_l32 k4 FU x1 x2 x3 s0 0 σ
theorem wMd_newMany_j27 {X : MC} {G : GE} {n0 : Nat} (hG : gH G = true) (C : CX X G RX12 cX12_newMany pMd_newMany 6 (some .int) n0) (htab : ∀ z ∈ X.2.2.2.2.2.2.2.2.exceptionTable.toList, False) {σ : Sg} {M : Mm} {n : Nat} (k4 : Int32 → Int32 → Int32 → Sg → Option (Int32)) (H4 : ∀ (x1 : Int32) (x2 : Int32) (x3 : Int32), JS X G 6 300 0 n0 (EM X G n0 3 300 (eR rvI σ M n)) (k4 x1 x2 x3 σ) (σ, M, n) 4 [(0, .inr (.inl (some (gM G)))), (1, .inl x1), (2, .inl x2), (3, .inl x3)] []) (x1 : Int32) (x2 : Int32) (x3 : Int32) (s0 : Int32) : JS X G 6 300 0 n0 (EM X G n0 3 300 (eR rvI σ M n)) (fMd_newMany_j27 k4 x1 x2 x3 s0 σ) (σ, M, n) 27 [(0, .inr (.inl (some (gM G)))), (1, .inl x1), (2, .inl x2), (3, .inl x3)] [.inl s0] := by
  unfold fMd_newMany_j27
  refine s_blk C 17 3 [0, 1, 2, 3, 4, 5] (pc' := 32) (lv' := [(0, .inr (.inl (some (gM G)))), (1, .inl x1), (2, .inl x2), (3, .inl x3), (4, .inl s0), (5, .inl 0)]) (st' := []) rfl ?_
  exact wMd_newMany_l32 hG C htab k4 H4 FU _ _ _ _ _
def fMd_newMany_b4 (k4 : Int32 → Int32 → Int32 → Sg → Option (Int32)) (x1 : Int32) (x2 : Int32) (x3 : Int32) (σ : Sg) : Option (Int32) :=
  mgF 5 σ fun v1 =>
  if v1 ≤ x3 then
    some x2
  else
    bdR (fMd_found x1 x3 σ) fun v2 =>
    if v2 = (-1) then
      fMd_newMany_j27 k4 x1 x2 x3 1 σ
    else
      fMd_newMany_j27 k4 x1 x2 x3 0 σ
theorem wMd_newMany_b4 {X : MC} {G : GE} {n0 : Nat} (hG : gH G = true) (C : CX X G RX12 cX12_newMany pMd_newMany 6 (some .int) n0) (htab : ∀ z ∈ X.2.2.2.2.2.2.2.2.exceptionTable.toList, False) {σ : Sg} {M : Mm} {n : Nat} (k4 : Int32 → Int32 → Int32 → Sg → Option (Int32)) (H4 : ∀ (x1 : Int32) (x2 : Int32) (x3 : Int32), JS X G 6 300 0 n0 (EM X G n0 3 300 (eR rvI σ M n)) (k4 x1 x2 x3 σ) (σ, M, n) 4 [(0, .inr (.inl (some (gM G)))), (1, .inl x1), (2, .inl x2), (3, .inl x3)] []) (x1 : Int32) (x2 : Int32) (x3 : Int32) : JS X G 6 300 0 n0 (EM X G n0 3 300 (eR rvI σ M n)) (fMd_newMany_b4 k4 x1 x2 x3 σ) (σ, M, n) 4 [(0, .inr (.inl (some (gM G)))), (1, .inl x1), (2, .inl x2), (3, .inl x3)] [] := by
  unfold fMd_newMany_b4
  refine s_blk C 4 2 [0, 1, 2, 3] (pc' := 6) (lv' := [(0, .inr (.inl (some (gM G)))), (1, .inl x1), (2, .inl x2), (3, .inl x3)]) (st' := [.inr (.inl (some (gM G))), .inl x3]) rfl ?_
  refine s_mF hG C 6 rfl fl_X12_154 rfl (fun v1 => ?_)
  refine s_icge C 7 rfl (fun _ => ?_) (fun _ => ?_)
  · refine s_blk C 46 1 [] (pc' := 86) (lv' := []) (st' := [.inl x2]) rfl ?_
    exact s_iret C 47 rfl rfl
  refine s_blk C 8 3 [0, 1, 2, 3] (pc' := 15) (lv' := [(0, .inr (.inl (some (gM G)))), (1, .inl x1), (2, .inl x2), (3, .inl x3)]) (st' := [.inl x3, .inl x1, .inr (.inl (some (gM G)))]) rfl ?_
  refine s_RI (CE_EM _ _ _ _ _ _) (st := []) (fun o ho => j_callV (As := [.inl x1, .inl x3]) (st := []) (b := gM G) C 11 rfl mf_Md_found ml_X12_163 rfl (recv_M hG C) (by decide) (by decide) (Nat.le_refl _) rfl (cMd_found (CX_tr C) hG σ M n x1 x3 o ho)) (fun v2 => ?_)
  refine s_blk C 12 1 [0, 1, 2, 3] (pc' := 19) (lv' := [(0, .inr (.inl (some (gM G)))), (1, .inl x1), (2, .inl x2), (3, .inl x3)]) (st' := [.inl (-1), .inl v2]) rfl ?_
  refine s_icne C 13 rfl (fun _ => ?_) (fun _ => ?_)
  · refine s_blk C 14 2 [0, 1, 2, 3] (pc' := 27) (lv' := [(0, .inr (.inl (some (gM G)))), (1, .inl x1), (2, .inl x2), (3, .inl x3)]) (st' := [.inl 1]) rfl ?_
    exact wMd_newMany_j27 hG C htab k4 H4 _ _ _ _
  refine s_blk C 16 1 [0, 1, 2, 3] (pc' := 27) (lv' := [(0, .inr (.inl (some (gM G)))), (1, .inl x1), (2, .inl x2), (3, .inl x3)]) (st' := [.inl 0]) rfl ?_
  exact wMd_newMany_j27 hG C htab k4 H4 _ _ _ _
def fMd_newMany_l4 (fu : Nat) : Int32 → Int32 → Int32 → Sg → Option (Int32) := Nat.rec (fun x1 x2 x3 σ => none) (fun _ k => fMd_newMany_b4 k) fu
theorem wMd_newMany_l4 {X : MC} {G : GE} {n0 : Nat} (hG : gH G = true) (C : CX X G RX12 cX12_newMany pMd_newMany 6 (some .int) n0) (htab : ∀ z ∈ X.2.2.2.2.2.2.2.2.exceptionTable.toList, False) {σ : Sg} {M : Mm} {n : Nat} : ∀ (fu : Nat) (x1 : Int32) (x2 : Int32) (x3 : Int32), JS X G 6 300 0 n0 (EM X G n0 3 300 (eR rvI σ M n)) (fMd_newMany_l4 fu x1 x2 x3 σ) (σ, M, n) 4 [(0, .inr (.inl (some (gM G)))), (1, .inl x1), (2, .inl x2), (3, .inl x3)] [] := by
  intro fu
  induction fu with
  | zero => intro x1 x2 x3; exact s_none
  | succ fu ih => intro x1 x2 x3; exact wMd_newMany_b4 hG C htab (fMd_newMany_l4 fu) ih _ _ _
def fMd_newMany (x1 : Int32) (σ : Sg) : Option (Int32) :=
  fMd_newMany_l4 FU x1 0 0 σ
theorem wMd_newMany {X : MC} {G : GE} {n0 : Nat} (hG : gH G = true) (C : CX X G RX12 cX12_newMany pMd_newMany 6 (some .int) n0) (htab : ∀ z ∈ X.2.2.2.2.2.2.2.2.exceptionTable.toList, False) {σ : Sg} {M : Mm} {n : Nat} (x1 : Int32) : JS X G 6 300 0 n0 (EM X G n0 3 300 (eR rvI σ M n)) (fMd_newMany x1 σ) (σ, M, n) 0 [(0, .inr (.inl (some (gM G)))), (1, .inl x1)] [] := by
  unfold fMd_newMany
  refine s_blk C 0 4 [0, 1, 2, 3] (pc' := 4) (lv' := [(0, .inr (.inl (some (gM G)))), (1, .inl x1), (2, .inl 0), (3, .inl 0)]) (st' := []) rfl ?_
  exact wMd_newMany_l4 hG C htab FU _ _ _
theorem cMd_newMany {l : Launch} {G : GE} (htr : l.stackTraces = false) (hG : gH G = true) (σ : Sg) (M : Mm) (n : Nat) (x1 : Int32) : ∀ o, fMd_newMany x1 σ = some o → MetX l G yX12_newMany cX12_newMany 6 (some .int) 3 300 [.inr (.inl (some (gM G))), .inl x1] (σ, M, n) ((eR rvI σ M n) o) :=
  c_ofX (by decide) kMd_newMany htr rfl rfl fun X _ _ C htab => wMd_newMany hG C htab x1
def pMd_hasRoom : List BR := [(0, .aload_n 0, 1, 0, 1), (1, .iload_n 1, 1, 0, 2), (2, .invokevirtual 170, 3, 0, 5), (5, .iconst 3, 1, 3, 6), (6, .if_icmp .lt (35), 3, 0, 41), (9, .aload_n 0, 1, 0, 10), (10, .getfield 68, 3, 0, 13), (13, .iload_n 1, 1, 0, 14), (14, .iaload, 1, 0, 15), (15, .bipush 40, 2, 40, 17), (17, .if_icmp .ge (24), 3, 0, 41), (20, .aload_n 0, 1, 0, 21), (21, .getfield 44, 3, 0, 24), (24, .iload_n 1, 1, 0, 25), (25, .iaload, 1, 0, 26), (26, .aload_n 0, 1, 0, 27), (27, .iload_n 1, 1, 0, 28), (28, .invokevirtual 173, 3, 0, 31), (31, .iadd, 1, 0, 32), (32, .bipush 90, 2, 90, 34), (34, .if_icmp .gt (7), 3, 0, 41), (37, .iconst 1, 1, 1, 38), (38, .goto (4), 3, 0, 42), (41, .iconst 0, 1, 0, 42), (42, .ireturn, 1, 0, 43)]
theorem kMd_hasRoom : bOK cX12_hasRoom 2 pMd_hasRoom = true := by decide +kernel
def fMd_hasRoom (x1 : Int32) (σ : Sg) : Option (Int32) :=
  bdR (fMd_upMany x1 σ) fun v1 =>
  if v1 < 3 then
    rZ 0 (some 0)
  else
    mgA 26 x1 σ fun v2 =>
    if 40 ≤ v2 then
      rZ 0 (some 0)
    else
      mgA 18 x1 σ fun v3 =>
      bdR (fMd_newMany x1 σ) fun v4 =>
      if 90 < (v3 + v4) then
        rZ 0 (some 0)
      else
        rZ 1 (some 1)
theorem wMd_hasRoom {X : MC} {G : GE} {n0 : Nat} (hG : gH G = true) (C : CX X G RX12 cX12_hasRoom pMd_hasRoom 2 (some .boolean) n0) (htab : ∀ z ∈ X.2.2.2.2.2.2.2.2.exceptionTable.toList, False) {σ : Sg} {M : Mm} {n : Nat} (x1 : Int32) : JS X G 2 300 0 n0 (EM X G n0 4 300 (eR rvI σ M n)) (fMd_hasRoom x1 σ) (σ, M, n) 0 [(0, .inr (.inl (some (gM G)))), (1, .inl x1)] [] := by
  unfold fMd_hasRoom
  refine s_blk C 0 2 [0, 1] (pc' := 2) (lv' := [(0, .inr (.inl (some (gM G)))), (1, .inl x1)]) (st' := [.inl x1, .inr (.inl (some (gM G)))]) rfl ?_
  refine s_RI (CE_EM _ _ _ _ _ _) (st := []) (fun o ho => j_callV (As := [.inl x1]) (st := []) (b := gM G) C 2 rfl mf_Md_upMany ml_X12_170 rfl (recv_M hG C) (by decide) (by decide) (Nat.le_refl _) rfl (cMd_upMany (CX_tr C) hG σ M n x1 o ho)) (fun v1 => ?_)
  refine s_blk C 3 1 [0, 1] (pc' := 6) (lv' := [(0, .inr (.inl (some (gM G)))), (1, .inl x1)]) (st' := [.inl 3, .inl v1]) rfl ?_
  refine s_iclt C 4 rfl (fun _ => ?_) (fun _ => ?_)
  · refine s_blk C 23 1 [] (pc' := 42) (lv' := []) (st' := [.inl 0]) rfl ?_
    exact s_zret C 24 rfl rfl
  refine s_blk C 5 1 [0, 1] (pc' := 10) (lv' := [(0, .inr (.inl (some (gM G)))), (1, .inl x1)]) (st' := [.inr (.inl (some (gM G)))]) rfl ?_
  refine s_mR hG C 6 rfl 26 fl_X12_68 rfl ?_
  refine s_blk C 7 1 [0, 1] (pc' := 14) (lv' := [(0, .inr (.inl (some (gM G)))), (1, .inl x1)]) (st' := [.inl x1, .inr (.inl (some (gA G 26)))]) rfl ?_
  refine s_mldI hG C 8 rfl rfl rfl (fun v2 => ?_)
  refine s_blk C 9 1 [0, 1] (pc' := 17) (lv' := [(0, .inr (.inl (some (gM G)))), (1, .inl x1)]) (st' := [.inl 40, .inl v2]) rfl ?_
  refine s_icge C 10 rfl (fun _ => ?_) (fun _ => ?_)
  · refine s_blk C 23 1 [] (pc' := 42) (lv' := []) (st' := [.inl 0]) rfl ?_
    exact s_zret C 24 rfl rfl
  refine s_blk C 11 1 [0, 1] (pc' := 21) (lv' := [(0, .inr (.inl (some (gM G)))), (1, .inl x1)]) (st' := [.inr (.inl (some (gM G)))]) rfl ?_
  refine s_mR hG C 12 rfl 18 fl_X12_44 rfl ?_
  refine s_blk C 13 1 [0, 1] (pc' := 25) (lv' := [(0, .inr (.inl (some (gM G)))), (1, .inl x1)]) (st' := [.inl x1, .inr (.inl (some (gA G 18)))]) rfl ?_
  refine s_mldI hG C 14 rfl rfl rfl (fun v3 => ?_)
  refine s_blk C 15 2 [] (pc' := 28) (lv' := []) (st' := [.inl x1, .inr (.inl (some (gM G))), .inl v3]) rfl ?_
  refine s_RI (CE_EM _ _ _ _ _ _) (st := [.inl v3]) (fun o ho => j_callV (As := [.inl x1]) (st := [.inl v3]) (b := gM G) C 17 rfl mf_Md_newMany ml_X12_173 rfl (recv_M hG C) (by decide) (by decide) (Nat.le_refl _) rfl (cMd_newMany (CX_tr C) hG σ M n x1 o ho)) (fun v4 => ?_)
  refine s_blk C 18 2 [] (pc' := 34) (lv' := []) (st' := [.inl 90, .inl (v3 + v4)]) rfl ?_
  refine s_icgt C 20 rfl (fun _ => ?_) (fun _ => ?_)
  · refine s_blk C 23 1 [] (pc' := 42) (lv' := []) (st' := [.inl 0]) rfl ?_
    exact s_zret C 24 rfl rfl
  refine s_blk C 21 2 [] (pc' := 42) (lv' := []) (st' := [.inl 1]) rfl ?_
  exact s_zret C 24 rfl rfl
theorem cMd_hasRoom {l : Launch} {G : GE} (htr : l.stackTraces = false) (hG : gH G = true) (σ : Sg) (M : Mm) (n : Nat) (x1 : Int32) : ∀ o, fMd_hasRoom x1 σ = some o → MetX l G yX12_hasRoom cX12_hasRoom 2 (some .boolean) 4 300 [.inr (.inl (some (gM G))), .inl x1] (σ, M, n) ((eR rvI σ M n) o) :=
  c_ofX (by decide) kMd_hasRoom htr rfl rfl fun X _ _ C htab => wMd_hasRoom hG C htab x1
def pMd_isFull : List BR := [(0, .aload_n 0, 1, 0, 1), (1, .getfield 234, 3, 0, 4), (4, .sipush 200, 3, 200, 7), (7, .if_icmp .eq (11), 3, 0, 18), (10, .aload_n 0, 1, 0, 11), (11, .iload_n 1, 1, 0, 12), (12, .invokevirtual 244, 3, 0, 15), (15, .ifCond .ne (7), 3, 0, 22), (18, .iconst 1, 1, 1, 19), (19, .goto (4), 3, 0, 23), (22, .iconst 0, 1, 0, 23), (23, .ireturn, 1, 0, 24)]
theorem kMd_isFull : bOK cX12_isFull 2 pMd_isFull = true := by decide +kernel
def fMd_isFull_j18 (σ : Sg) : Option (Int32) :=
  rZ 1 (some 1)
theorem wMd_isFull_j18 {X : MC} {G : GE} {n0 : Nat} (hG : gH G = true) (C : CX X G RX12 cX12_isFull pMd_isFull 2 (some .boolean) n0) (htab : ∀ z ∈ X.2.2.2.2.2.2.2.2.exceptionTable.toList, False) {σ : Sg} {M : Mm} {n : Nat} : JS X G 2 300 0 n0 (EM X G n0 5 300 (eR rvI σ M n)) (fMd_isFull_j18 σ) (σ, M, n) 18 [] [] := by
  unfold fMd_isFull_j18
  refine s_blk C 8 2 [] (pc' := 23) (lv' := []) (st' := [.inl 1]) rfl ?_
  exact s_zret C 11 rfl rfl
def fMd_isFull (x1 : Int32) (σ : Sg) : Option (Int32) :=
  mgF 8 σ fun v1 =>
  if v1 = 200 then
    fMd_isFull_j18 σ
  else
    bdR (fMd_hasRoom x1 σ) fun v2 =>
    if v2 = 0 then
      fMd_isFull_j18 σ
    else
      rZ 0 (some 0)
theorem wMd_isFull {X : MC} {G : GE} {n0 : Nat} (hG : gH G = true) (C : CX X G RX12 cX12_isFull pMd_isFull 2 (some .boolean) n0) (htab : ∀ z ∈ X.2.2.2.2.2.2.2.2.exceptionTable.toList, False) {σ : Sg} {M : Mm} {n : Nat} (x1 : Int32) : JS X G 2 300 0 n0 (EM X G n0 5 300 (eR rvI σ M n)) (fMd_isFull x1 σ) (σ, M, n) 0 [(0, .inr (.inl (some (gM G)))), (1, .inl x1)] [] := by
  unfold fMd_isFull
  refine s_blk C 0 1 [0, 1] (pc' := 1) (lv' := [(0, .inr (.inl (some (gM G)))), (1, .inl x1)]) (st' := [.inr (.inl (some (gM G)))]) rfl ?_
  refine s_mF hG C 1 rfl fl_X12_234 rfl (fun v1 => ?_)
  refine s_blk C 2 1 [0, 1] (pc' := 7) (lv' := [(0, .inr (.inl (some (gM G)))), (1, .inl x1)]) (st' := [.inl 200, .inl v1]) rfl ?_
  refine s_iceq C 3 rfl (fun _ => ?_) (fun _ => ?_)
  · refine s_blk C 0 0 [] (pc' := 18) (lv' := []) (st' := []) rfl ?_
    exact wMd_isFull_j18 hG C htab
  refine s_blk C 4 2 [] (pc' := 12) (lv' := []) (st' := [.inl x1, .inr (.inl (some (gM G)))]) rfl ?_
  refine s_RI (CE_EM _ _ _ _ _ _) (st := []) (fun o ho => j_callV (As := [.inl x1]) (st := []) (b := gM G) C 6 rfl mf_Md_hasRoom ml_X12_244 rfl (recv_M hG C) (by decide) (by decide) (Nat.le_refl _) rfl (cMd_hasRoom (CX_tr C) hG σ M n x1 o ho)) (fun v2 => ?_)
  refine s_ine C 7 rfl (fun _ => ?_) (fun _ => ?_)
  · exact wMd_isFull_j18 hG C htab
  refine s_blk C 10 1 [] (pc' := 23) (lv' := []) (st' := [.inl 0]) rfl ?_
  exact s_zret C 11 rfl rfl
theorem cMd_isFull {l : Launch} {G : GE} (htr : l.stackTraces = false) (hG : gH G = true) (σ : Sg) (M : Mm) (n : Nat) (x1 : Int32) : ∀ o, fMd_isFull x1 σ = some o → MetX l G yX12_isFull cX12_isFull 2 (some .boolean) 5 300 [.inr (.inl (some (gM G))), .inl x1] (σ, M, n) ((eR rvI σ M n) o) :=
  c_ofX (by decide) kMd_isFull htr rfl rfl fun X _ _ C htab => wMd_isFull hG C htab x1
def pMd_puts : List BR := [(0, .aload_n 0, 1, 0, 1), (1, .iload_n 1, 1, 0, 2), (2, .iload_n 2, 1, 0, 3), (3, .aload_n 0, 1, 0, 4), (4, .getfield 157, 3, 0, 7), (7, .invokevirtual 237, 3, 0, 10), (10, .istore_n 3, 1, 0, 11), (11, .aload_n 0, 1, 0, 12), (12, .iload_n 1, 1, 0, 13), (13, .iload_n 3, 1, 0, 14), (14, .iconst 0, 1, 0, 15), (15, .invokevirtual 240, 3, 0, 18), (18, .iload_n 3, 1, 0, 19), (19, .ireturn, 1, 0, 20)]
theorem kMd_puts : bOK cX12_puts 4 pMd_puts = true := by decide +kernel
def fMd_puts (x1 : Int32) (x2 : Int32) (σ : Sg) : Option (Int32 × Sg) :=
  mgF 3 σ fun v1 =>
  bdW (fMd_numbers x1 x2 v1 σ) fun v2 σ3 =>
  bdW (fMd_enters x1 v2 0 σ3) fun v4 σ5 =>
  some (v2, σ5)
theorem wMd_puts {X : MC} {G : GE} {n0 : Nat} (hG : gH G = true) (C : CX X G RX12 cX12_puts pMd_puts 4 (some .int) n0) (htab : ∀ z ∈ X.2.2.2.2.2.2.2.2.exceptionTable.toList, False) {M : Mm} {n : Nat} (x1 : Int32) (x2 : Int32) (σ : Sg) : JS X G 4 300 0 n0 (EM X G n0 8 300 (eS rvI M n)) (fMd_puts x1 x2 σ) (σ, M, n) 0 [(0, .inr (.inl (some (gM G)))), (1, .inl x1), (2, .inl x2)] [] := by
  unfold fMd_puts
  refine s_blk C 0 4 [0, 1] (pc' := 4) (lv' := [(0, .inr (.inl (some (gM G)))), (1, .inl x1)]) (st' := [.inr (.inl (some (gM G))), .inl x2, .inl x1, .inr (.inl (some (gM G)))]) rfl ?_
  refine s_mF hG C 4 rfl fl_X12_157 rfl (fun v1 => ?_)
  refine s_SI (CE_EM _ _ _ _ _ _) (st := []) (fun o ho => j_callV (As := [.inl x1, .inl x2, .inl v1]) (st := []) (b := gM G) C 5 rfl mf_Md_numbers ml_X12_237 rfl (recv_M hG C) (by decide) (by decide) (Nat.le_refl _) rfl (cMd_numbers (CX_tr C) hG σ M n x1 x2 v1 o ho)) (fun v2 σ3 => ?_)
  refine s_blk C 6 5 [3] (pc' := 15) (lv' := [(3, .inl v2)]) (st' := [.inl 0, .inl v2, .inl x1, .inr (.inl (some (gM G)))]) rfl ?_
  refine s_SU (CE_EM _ _ _ _ _ _) (st := []) (fun o ho => j_callV (As := [.inl x1, .inl v2, .inl 0]) (st := []) (b := gM G) C 11 rfl mf_Md_enters ml_X12_240 rfl (recv_M hG C) (by decide) (by decide) (Nat.le_refl _) rfl (cMd_enters (CX_tr C) hG σ3 M n x1 v2 0 o ho)) (fun v4 σ5 => ?_)
  refine s_blk C 12 1 [] (pc' := 19) (lv' := []) (st' := [.inl v2]) rfl ?_
  exact s_iret C 13 rfl rfl
theorem cMd_puts {l : Launch} {G : GE} (htr : l.stackTraces = false) (hG : gH G = true) (σ : Sg) (M : Mm) (n : Nat) (x1 : Int32) (x2 : Int32) : ∀ o, fMd_puts x1 x2 σ = some o → MetX l G yX12_puts cX12_puts 4 (some .int) 8 300 [.inr (.inl (some (gM G))), .inl x1, .inl x2] (σ, M, n) ((eS rvI M n) o) :=
  c_ofX (by decide) kMd_puts htr rfl rfl fun X _ _ C htab => wMd_puts hG C htab x1 x2 _
def pMd_finish_0 : List BR := [(0, .aload_n 0, 1, 0, 1), (1, .iload_n 1, 1, 0, 2), (2, .invokevirtual 286, 3, 0, 5), (5, .istore_n 3, 1, 0, 6), (6, .iload_n 3, 1, 0, 7), (7, .ifCond .eq (8), 3, 0, 15), (10, .aload_n 0, 1, 0, 11), (11, .iload_n 1, 1, 0, 12), (12, .invokevirtual 292, 3, 0, 15), (15, .aload_n 0, 1, 0, 16), (16, .iload_n 3, 1, 0, 17), (17, .ifCond .ne (7), 3, 0, 24), (20, .iconst 1, 1, 1, 21), (21, .goto (32), 3, 0, 53), (24, .iload_n 2, 1, 0, 25), (25, .ifCond .ne (27), 3, 0, 52), (28, .aload_n 0, 1, 0, 29), (29, .getfield 157, 3, 0, 32), (32, .ifCond .eq (16), 3, 0, 48), (35, .aload_n 0, 1, 0, 36), (36, .aload_n 0, 1, 0, 37), (37, .getfield 110, 3, 0, 40), (40, .iload_n 1, 1, 0, 41), (41, .iaload, 1, 0, 42), (42, .invokevirtual 256, 3, 0, 45), (45, .ifCond .eq (7), 3, 0, 52), (48, .iconst 2, 1, 2, 49), (49, .goto (4), 3, 0, 53), (52, .iconst 0, 1, 0, 53), (53, .invokevirtual 150, 3, 0, 56), (56, .ifCond .ne (5), 3, 0, 61), (59, .iconst 0, 1, 0, 60), (60, .ireturn, 1, 0, 61), (61, .aload_n 0, 1, 0, 62), (62, .getfield 116, 3, 0, 65), (65, .iload_n 1, 1, 0, 66), (66, .iconst 1, 1, 1, 67), (67, .bastore, 1, 0, 68), (68, .iload_n 2, 1, 0, 69), (69, .ifCond .eq (7), 3, 0, 76)]
theorem kMd_finish_0 : bOK cX12_finish 4 pMd_finish_0 = true := by decide +kernel
def pMd_finish_1 : List BR := [(72, .iconst 0, 1, 0, 73), (73, .goto (19), 3, 0, 92), (76, .aload_n 0, 1, 0, 77), (77, .aload_n 0, 1, 0, 78), (78, .getfield 110, 3, 0, 81), (81, .iload_n 1, 1, 0, 82), (82, .iaload, 1, 0, 83), (83, .aload_n 0, 1, 0, 84), (84, .getfield 113, 3, 0, 87), (87, .iload_n 1, 1, 0, 88), (88, .iaload, 1, 0, 89), (89, .invokevirtual 259, 3, 0, 92), (92, .ireturn, 1, 0, 93)]
theorem kMd_finish_1 : bOK cX12_finish 4 pMd_finish_1 = true := by decide +kernel
def pMd_finish : List BR := (pMd_finish_0 ++ pMd_finish_1)
theorem kMd_finish : bOK cX12_finish 4 pMd_finish = true := (bOK_app kMd_finish_0 kMd_finish_1)
def fMd_finish_j53 (x1 : Int32) (x2 : Int32) (s0 : Int32) (σ : Sg) : Option (Int32 × Sg) :=
  bdW (fMd_holds s0 σ) fun v1 σ2 =>
  if v1 = 0 then
    some (0, σ2)
  else
    mpZ 43 x1 1 σ2 fun σ3 =>
    if x2 = 0 then
      mgA 41 x1 σ3 fun v4 =>
      mgA 42 x1 σ3 fun v5 =>
      bdW (fMd_puts v4 v5 σ3) fun v6 σ7 =>
      some (v6, σ7)
    else
      some (0, σ3)
theorem wMd_finish_j53 {X : MC} {G : GE} {n0 : Nat} (hG : gH G = true) (C : CX X G RX12 cX12_finish pMd_finish 4 (some .int) n0) (htab : ∀ z ∈ X.2.2.2.2.2.2.2.2.exceptionTable.toList, False) {M : Mm} {n : Nat} (x1 : Int32) (x2 : Int32) (s0 : Int32) (σ : Sg) : JS X G 4 300 0 n0 (EM X G n0 9 300 (eS rvI M n)) (fMd_finish_j53 x1 x2 s0 σ) (σ, M, n) 53 [(0, .inr (.inl (some (gM G)))), (1, .inl x1), (2, .inl x2)] [.inl s0, .inr (.inl (some (gM G)))] := by
  unfold fMd_finish_j53
  refine s_SI (CE_EM _ _ _ _ _ _) (st := []) (fun o ho => j_callV (As := [.inl s0]) (st := []) (b := gM G) C 29 rfl mf_Md_holds ml_X12_150 rfl (recv_M hG C) (by decide) (by decide) (Nat.le_refl _) rfl (cMd_holds (CX_tr C) hG σ M n s0 o ho)) (fun v1 σ2 => ?_)
  refine s_ine C 30 rfl (fun _ => ?_) (fun _ => ?_)
  · refine s_blk C 31 1 [] (pc' := 60) (lv' := []) (st' := [.inl 0]) rfl ?_
    exact s_iret C 32 rfl rfl
  refine s_blk C 33 1 [0, 1, 2] (pc' := 62) (lv' := [(0, .inr (.inl (some (gM G)))), (1, .inl x1), (2, .inl x2)]) (st' := [.inr (.inl (some (gM G)))]) rfl ?_
  refine s_mR hG C 34 rfl 43 fl_X12_116 rfl ?_
  refine s_blk C 35 2 [0, 1, 2] (pc' := 67) (lv' := [(0, .inr (.inl (some (gM G)))), (1, .inl x1), (2, .inl x2)]) (st' := [.inl 1, .inl x1, .inr (.inl (some (gA G 43)))]) rfl ?_
  refine s_mstZ hG C 37 rfl rfl rfl (fun σ3 _ => ?_)
  refine s_blk C 38 1 [0, 1] (pc' := 69) (lv' := [(0, .inr (.inl (some (gM G)))), (1, .inl x1)]) (st' := [.inl x2]) rfl ?_
  refine s_ieq C 39 rfl (fun _ => ?_) (fun _ => ?_)
  · refine s_blk C 42 2 [0, 1] (pc' := 78) (lv' := [(0, .inr (.inl (some (gM G)))), (1, .inl x1)]) (st' := [.inr (.inl (some (gM G))), .inr (.inl (some (gM G)))]) rfl ?_
    refine s_mR hG C 44 rfl 41 fl_X12_110 rfl ?_
    refine s_blk C 45 1 [0, 1] (pc' := 82) (lv' := [(0, .inr (.inl (some (gM G)))), (1, .inl x1)]) (st' := [.inl x1, .inr (.inl (some (gA G 41))), .inr (.inl (some (gM G)))]) rfl ?_
    refine s_mldI hG C 46 rfl rfl rfl (fun v4 => ?_)
    refine s_blk C 47 1 [1] (pc' := 84) (lv' := [(1, .inl x1)]) (st' := [.inr (.inl (some (gM G))), .inl v4, .inr (.inl (some (gM G)))]) rfl ?_
    refine s_mR hG C 48 rfl 42 fl_X12_113 rfl ?_
    refine s_blk C 49 1 [] (pc' := 88) (lv' := []) (st' := [.inl x1, .inr (.inl (some (gA G 42))), .inl v4, .inr (.inl (some (gM G)))]) rfl ?_
    refine s_mldI hG C 50 rfl rfl rfl (fun v5 => ?_)
    refine s_SI (CE_EM _ _ _ _ _ _) (st := []) (fun o ho => j_callV (As := [.inl v4, .inl v5]) (st := []) (b := gM G) C 51 rfl mf_Md_puts ml_X12_259 rfl (recv_M hG C) (by decide) (by decide) (Nat.le_refl _) rfl (cMd_puts (CX_tr C) hG σ3 M n v4 v5 o ho)) (fun v6 σ7 => ?_)
    exact s_iret C 52 rfl rfl
  refine s_blk C 40 2 [] (pc' := 92) (lv' := []) (st' := [.inl 0]) rfl ?_
  exact s_iret C 52 rfl rfl
def fMd_finish_j48 (x1 : Int32) (x2 : Int32) (σ : Sg) : Option (Int32 × Sg) :=
  fMd_finish_j53 x1 x2 2 σ
theorem wMd_finish_j48 {X : MC} {G : GE} {n0 : Nat} (hG : gH G = true) (C : CX X G RX12 cX12_finish pMd_finish 4 (some .int) n0) (htab : ∀ z ∈ X.2.2.2.2.2.2.2.2.exceptionTable.toList, False) {M : Mm} {n : Nat} (x1 : Int32) (x2 : Int32) (σ : Sg) : JS X G 4 300 0 n0 (EM X G n0 9 300 (eS rvI M n)) (fMd_finish_j48 x1 x2 σ) (σ, M, n) 48 [(0, .inr (.inl (some (gM G)))), (1, .inl x1), (2, .inl x2)] [.inr (.inl (some (gM G)))] := by
  unfold fMd_finish_j48
  refine s_blk C 26 2 [0, 1, 2] (pc' := 53) (lv' := [(0, .inr (.inl (some (gM G)))), (1, .inl x1), (2, .inl x2)]) (st' := [.inl 2, .inr (.inl (some (gM G)))]) rfl ?_
  exact wMd_finish_j53 hG C htab _ _ _ _
def fMd_finish_j52 (x1 : Int32) (x2 : Int32) (σ : Sg) : Option (Int32 × Sg) :=
  fMd_finish_j53 x1 x2 0 σ
theorem wMd_finish_j52 {X : MC} {G : GE} {n0 : Nat} (hG : gH G = true) (C : CX X G RX12 cX12_finish pMd_finish 4 (some .int) n0) (htab : ∀ z ∈ X.2.2.2.2.2.2.2.2.exceptionTable.toList, False) {M : Mm} {n : Nat} (x1 : Int32) (x2 : Int32) (σ : Sg) : JS X G 4 300 0 n0 (EM X G n0 9 300 (eS rvI M n)) (fMd_finish_j52 x1 x2 σ) (σ, M, n) 52 [(0, .inr (.inl (some (gM G)))), (1, .inl x1), (2, .inl x2)] [.inr (.inl (some (gM G)))] := by
  unfold fMd_finish_j52
  refine s_blk C 28 1 [0, 1, 2] (pc' := 53) (lv' := [(0, .inr (.inl (some (gM G)))), (1, .inl x1), (2, .inl x2)]) (st' := [.inl 0, .inr (.inl (some (gM G)))]) rfl ?_
  exact wMd_finish_j53 hG C htab _ _ _ _
def fMd_finish_j15 (x1 : Int32) (x2 : Int32) (x3 : Int32) (σ : Sg) : Option (Int32 × Sg) :=
  if x3 = 0 then
    fMd_finish_j53 x1 x2 1 σ
  else
    if x2 = 0 then
      mgF 3 σ fun v1 =>
      if v1 = 0 then
        fMd_finish_j48 x1 x2 σ
      else
        mgA 41 x1 σ fun v2 =>
        bdR (fMd_isFull v2 σ) fun v3 =>
        if v3 = 0 then
          fMd_finish_j52 x1 x2 σ
        else
          fMd_finish_j48 x1 x2 σ
    else
      fMd_finish_j52 x1 x2 σ
theorem wMd_finish_j15 {X : MC} {G : GE} {n0 : Nat} (hG : gH G = true) (C : CX X G RX12 cX12_finish pMd_finish 4 (some .int) n0) (htab : ∀ z ∈ X.2.2.2.2.2.2.2.2.exceptionTable.toList, False) {M : Mm} {n : Nat} (x1 : Int32) (x2 : Int32) (x3 : Int32) (σ : Sg) : JS X G 4 300 0 n0 (EM X G n0 9 300 (eS rvI M n)) (fMd_finish_j15 x1 x2 x3 σ) (σ, M, n) 15 [(0, .inr (.inl (some (gM G)))), (1, .inl x1), (2, .inl x2), (3, .inl x3)] [] := by
  unfold fMd_finish_j15
  refine s_blk C 9 2 [0, 1, 2] (pc' := 17) (lv' := [(0, .inr (.inl (some (gM G)))), (1, .inl x1), (2, .inl x2)]) (st' := [.inl x3, .inr (.inl (some (gM G)))]) rfl ?_
  refine s_ine C 11 rfl (fun _ => ?_) (fun _ => ?_)
  · refine s_blk C 12 2 [0, 1, 2] (pc' := 53) (lv' := [(0, .inr (.inl (some (gM G)))), (1, .inl x1), (2, .inl x2)]) (st' := [.inl 1, .inr (.inl (some (gM G)))]) rfl ?_
    exact wMd_finish_j53 hG C htab _ _ _ _
  refine s_blk C 14 1 [0, 1, 2] (pc' := 25) (lv' := [(0, .inr (.inl (some (gM G)))), (1, .inl x1), (2, .inl x2)]) (st' := [.inl x2, .inr (.inl (some (gM G)))]) rfl ?_
  refine s_ine C 15 rfl (fun _ => ?_) (fun _ => ?_)
  · refine s_blk C 16 1 [0, 1, 2] (pc' := 29) (lv' := [(0, .inr (.inl (some (gM G)))), (1, .inl x1), (2, .inl x2)]) (st' := [.inr (.inl (some (gM G))), .inr (.inl (some (gM G)))]) rfl ?_
    refine s_mF hG C 17 rfl fl_X12_157 rfl (fun v1 => ?_)
    refine s_ieq C 18 rfl (fun _ => ?_) (fun _ => ?_)
    · exact wMd_finish_j48 hG C htab _ _ _
    refine s_blk C 19 2 [0, 1, 2] (pc' := 37) (lv' := [(0, .inr (.inl (some (gM G)))), (1, .inl x1), (2, .inl x2)]) (st' := [.inr (.inl (some (gM G))), .inr (.inl (some (gM G))), .inr (.inl (some (gM G)))]) rfl ?_
    refine s_mR hG C 21 rfl 41 fl_X12_110 rfl ?_
    refine s_blk C 22 1 [0, 1, 2] (pc' := 41) (lv' := [(0, .inr (.inl (some (gM G)))), (1, .inl x1), (2, .inl x2)]) (st' := [.inl x1, .inr (.inl (some (gA G 41))), .inr (.inl (some (gM G))), .inr (.inl (some (gM G)))]) rfl ?_
    refine s_mldI hG C 23 rfl rfl rfl (fun v2 => ?_)
    refine s_RI (CE_EM _ _ _ _ _ _) (st := [.inr (.inl (some (gM G)))]) (fun o ho => j_callV (As := [.inl v2]) (st := [.inr (.inl (some (gM G)))]) (b := gM G) C 24 rfl mf_Md_isFull ml_X12_256 rfl (recv_M hG C) (by decide) (by decide) (Nat.le_refl _) rfl (cMd_isFull (CX_tr C) hG σ M n v2 o ho)) (fun v3 => ?_)
    refine s_ieq C 25 rfl (fun _ => ?_) (fun _ => ?_)
    · exact wMd_finish_j52 hG C htab _ _ _
    exact wMd_finish_j48 hG C htab _ _ _
  exact wMd_finish_j52 hG C htab _ _ _
def fMd_finish (x1 : Int32) (x2 : Int32) (σ : Sg) : Option (Int32 × Sg) :=
  bdR (fMd_isUpload x1 σ) fun v1 =>
  if v1 = 0 then
    fMd_finish_j15 x1 x2 v1 σ
  else
    bdW (fMd_joins x1 σ) fun v2 σ3 =>
    fMd_finish_j15 x1 x2 v1 σ3
theorem wMd_finish {X : MC} {G : GE} {n0 : Nat} (hG : gH G = true) (C : CX X G RX12 cX12_finish pMd_finish 4 (some .int) n0) (htab : ∀ z ∈ X.2.2.2.2.2.2.2.2.exceptionTable.toList, False) {M : Mm} {n : Nat} (x1 : Int32) (x2 : Int32) (σ : Sg) : JS X G 4 300 0 n0 (EM X G n0 9 300 (eS rvI M n)) (fMd_finish x1 x2 σ) (σ, M, n) 0 [(0, .inr (.inl (some (gM G)))), (1, .inl x1), (2, .inl x2)] [] := by
  unfold fMd_finish
  refine s_blk C 0 2 [0, 1, 2] (pc' := 2) (lv' := [(0, .inr (.inl (some (gM G)))), (1, .inl x1), (2, .inl x2)]) (st' := [.inl x1, .inr (.inl (some (gM G)))]) rfl ?_
  refine s_RI (CE_EM _ _ _ _ _ _) (st := []) (fun o ho => j_callV (As := [.inl x1]) (st := []) (b := gM G) C 2 rfl mf_Md_isUpload ml_X12_286 rfl (recv_M hG C) (by decide) (by decide) (Nat.le_refl _) rfl (cMd_isUpload (CX_tr C) hG σ M n x1 o ho)) (fun v1 => ?_)
  refine s_blk C 3 2 [0, 1, 2, 3] (pc' := 7) (lv' := [(0, .inr (.inl (some (gM G)))), (1, .inl x1), (2, .inl x2), (3, .inl v1)]) (st' := [.inl v1]) rfl ?_
  refine s_ieq C 5 rfl (fun _ => ?_) (fun _ => ?_)
  · exact wMd_finish_j15 hG C htab _ _ _ _
  refine s_blk C 6 2 [0, 1, 2, 3] (pc' := 12) (lv' := [(0, .inr (.inl (some (gM G)))), (1, .inl x1), (2, .inl x2), (3, .inl v1)]) (st' := [.inl x1, .inr (.inl (some (gM G)))]) rfl ?_
  refine s_SU (CE_EM _ _ _ _ _ _) (st := []) (fun o ho => j_callV (As := [.inl x1]) (st := []) (b := gM G) C 8 rfl mf_Md_joins ml_X12_292 rfl (recv_M hG C) (by decide) (by decide) (Nat.le_refl _) rfl (cMd_joins (CX_tr C) hG σ M n x1 o ho)) (fun v2 σ3 => ?_)
  exact wMd_finish_j15 hG C htab _ _ _ _
theorem cMd_finish {l : Launch} {G : GE} (htr : l.stackTraces = false) (hG : gH G = true) (σ : Sg) (M : Mm) (n : Nat) (x1 : Int32) (x2 : Int32) : ∀ o, fMd_finish x1 x2 σ = some o → MetX l G yX12_finish cX12_finish 4 (some .int) 9 300 [.inr (.inl (some (gM G))), .inl x1, .inl x2] (σ, M, n) ((eS rvI M n) o) :=
  c_ofX (by decide) kMd_finish htr rfl rfl fun X _ _ C htab => wMd_finish hG C htab x1 x2 _
def pMd_takes : List BR := [(0, .aload_n 0, 1, 0, 1), (1, .aload_n 0, 1, 0, 2), (2, .getfield 22, 3, 0, 5), (5, .iload_n 1, 1, 0, 6), (6, .iaload, 1, 0, 7), (7, .putfield 157, 3, 0, 10), (10, .iconst 0, 1, 0, 11), (11, .istore_n 2, 1, 0, 12), (12, .iload_n 2, 1, 0, 13), (13, .aload_n 0, 1, 0, 14), (14, .getfield 157, 3, 0, 17), (17, .if_icmp .ge (26), 3, 0, 43), (20, .aload_n 0, 1, 0, 21), (21, .getfield 13, 3, 0, 24), (24, .iload_n 2, 1, 0, 25), (25, .aload_n 0, 1, 0, 26), (26, .getfield 25, 3, 0, 29), (29, .bipush 40, 2, 40, 31), (31, .iload_n 1, 1, 0, 32), (32, .imul, 1, 0, 33), (33, .iload_n 2, 1, 0, 34), (34, .iadd, 1, 0, 35), (35, .iaload, 1, 0, 36), (36, .iastore, 1, 0, 37), (37, .iinc 2 (1), 3, 1, 40), (40, .goto (-28), 3, 0, 12), (43, .aload_n 0, 1, 0, 44), (44, .invokevirtual 160, 3, 0, 47), (47, .return_, 1, 0, 48)]
theorem kMd_takes : bOK cX12_takes 3 pMd_takes = true := by decide +kernel
def fMd_takes_b12 (k12 : Int32 → Int32 → Sg → Option (Unit × Sg)) (x1 : Int32) (x2 : Int32) (σ : Sg) : Option (Unit × Sg) :=
  mgF 3 σ fun v1 =>
  if v1 ≤ x2 then
    bdW (fMd_cuts σ) fun v2 σ3 =>
    some ((), σ3)
  else
    mgA 10 ((40 * x1) + x2) σ fun v4 =>
    mpA 4 x2 v4 σ fun σ5 =>
    k12 x1 (x2 + 1) σ5
theorem wMd_takes_b12 {X : MC} {G : GE} {n0 : Nat} (hG : gH G = true) (C : CX X G RX12 cX12_takes pMd_takes 3 none n0) (htab : ∀ z ∈ X.2.2.2.2.2.2.2.2.exceptionTable.toList, False) {M : Mm} {n : Nat} (k12 : Int32 → Int32 → Sg → Option (Unit × Sg)) (H12 : ∀ (x1 : Int32) (x2 : Int32) (σ : Sg), JS X G 3 300 0 n0 (EM X G n0 3 300 (eS rvU M n)) (k12 x1 x2 σ) (σ, M, n) 12 [(0, .inr (.inl (some (gM G)))), (1, .inl x1), (2, .inl x2)] []) (x1 : Int32) (x2 : Int32) (σ : Sg) : JS X G 3 300 0 n0 (EM X G n0 3 300 (eS rvU M n)) (fMd_takes_b12 k12 x1 x2 σ) (σ, M, n) 12 [(0, .inr (.inl (some (gM G)))), (1, .inl x1), (2, .inl x2)] [] := by
  unfold fMd_takes_b12
  refine s_blk C 8 2 [0, 1, 2] (pc' := 14) (lv' := [(0, .inr (.inl (some (gM G)))), (1, .inl x1), (2, .inl x2)]) (st' := [.inr (.inl (some (gM G))), .inl x2]) rfl ?_
  refine s_mF hG C 10 rfl fl_X12_157 rfl (fun v1 => ?_)
  refine s_icge C 11 rfl (fun _ => ?_) (fun _ => ?_)
  · refine s_blk C 26 1 [] (pc' := 44) (lv' := []) (st' := [.inr (.inl (some (gM G)))]) rfl ?_
    refine s_SU (CE_EM _ _ _ _ _ _) (st := []) (fun o ho => j_callV (As := []) (st := []) (b := gM G) C 27 rfl mf_Md_cuts ml_X12_160 rfl (recv_M hG C) (by decide) (by decide) (Nat.le_refl _) rfl (cMd_cuts (CX_tr C) hG σ M n o ho)) (fun v2 σ3 => ?_)
    exact s_vret C 28 rfl rfl
  refine s_blk C 12 1 [0, 1, 2] (pc' := 21) (lv' := [(0, .inr (.inl (some (gM G)))), (1, .inl x1), (2, .inl x2)]) (st' := [.inr (.inl (some (gM G)))]) rfl ?_
  refine s_mR hG C 13 rfl 4 fl_X12_13 rfl ?_
  refine s_blk C 14 2 [0, 1, 2] (pc' := 26) (lv' := [(0, .inr (.inl (some (gM G)))), (1, .inl x1), (2, .inl x2)]) (st' := [.inr (.inl (some (gM G))), .inl x2, .inr (.inl (some (gA G 4)))]) rfl ?_
  refine s_mR hG C 16 rfl 10 fl_X12_25 rfl ?_
  refine s_blk C 17 5 [0, 1, 2] (pc' := 35) (lv' := [(0, .inr (.inl (some (gM G)))), (1, .inl x1), (2, .inl x2)]) (st' := [.inl ((40 * x1) + x2), .inr (.inl (some (gA G 10))), .inl x2, .inr (.inl (some (gA G 4)))]) rfl ?_
  refine s_mldI hG C 22 rfl rfl rfl (fun v4 => ?_)
  refine s_mstI hG C 23 rfl rfl rfl (fun σ5 _ => ?_)
  refine s_blk C 24 2 [0, 1, 2] (pc' := 12) (lv' := [(0, .inr (.inl (some (gM G)))), (1, .inl x1), (2, .inl (x2 + 1))]) (st' := []) rfl ?_
  exact H12 _ _ _
def fMd_takes_l12 (fu : Nat) : Int32 → Int32 → Sg → Option (Unit × Sg) := Nat.rec (fun x1 x2 σ => none) (fun _ k => fMd_takes_b12 k) fu
theorem wMd_takes_l12 {X : MC} {G : GE} {n0 : Nat} (hG : gH G = true) (C : CX X G RX12 cX12_takes pMd_takes 3 none n0) (htab : ∀ z ∈ X.2.2.2.2.2.2.2.2.exceptionTable.toList, False) {M : Mm} {n : Nat} : ∀ (fu : Nat) (x1 : Int32) (x2 : Int32) (σ : Sg), JS X G 3 300 0 n0 (EM X G n0 3 300 (eS rvU M n)) (fMd_takes_l12 fu x1 x2 σ) (σ, M, n) 12 [(0, .inr (.inl (some (gM G)))), (1, .inl x1), (2, .inl x2)] [] := by
  intro fu
  induction fu with
  | zero => intro x1 x2 σ; exact s_none
  | succ fu ih => intro x1 x2 σ; exact wMd_takes_b12 hG C htab (fMd_takes_l12 fu) ih _ _ _
def fMd_takes (x1 : Int32) (σ : Sg) : Option (Unit × Sg) :=
  mgA 9 x1 σ fun v1 =>
  mpF 3 v1 σ fun σ2 =>
  fMd_takes_l12 FU x1 0 σ2
theorem wMd_takes {X : MC} {G : GE} {n0 : Nat} (hG : gH G = true) (C : CX X G RX12 cX12_takes pMd_takes 3 none n0) (htab : ∀ z ∈ X.2.2.2.2.2.2.2.2.exceptionTable.toList, False) {M : Mm} {n : Nat} (x1 : Int32) (σ : Sg) : JS X G 3 300 0 n0 (EM X G n0 3 300 (eS rvU M n)) (fMd_takes x1 σ) (σ, M, n) 0 [(0, .inr (.inl (some (gM G)))), (1, .inl x1)] [] := by
  unfold fMd_takes
  refine s_blk C 0 2 [0, 1] (pc' := 2) (lv' := [(0, .inr (.inl (some (gM G)))), (1, .inl x1)]) (st' := [.inr (.inl (some (gM G))), .inr (.inl (some (gM G)))]) rfl ?_
  refine s_mR hG C 2 rfl 9 fl_X12_22 rfl ?_
  refine s_blk C 3 1 [0, 1] (pc' := 6) (lv' := [(0, .inr (.inl (some (gM G)))), (1, .inl x1)]) (st' := [.inl x1, .inr (.inl (some (gA G 9))), .inr (.inl (some (gM G)))]) rfl ?_
  refine s_mldI hG C 4 rfl rfl rfl (fun v1 => ?_)
  refine s_mpF hG C 5 rfl fl_X12_157 fp_X12_13_3 rfl (fun σ2 _ => ?_)
  refine s_blk C 6 2 [0, 1, 2] (pc' := 12) (lv' := [(0, .inr (.inl (some (gM G)))), (1, .inl x1), (2, .inl 0)]) (st' := []) rfl ?_
  exact wMd_takes_l12 hG C htab FU _ _ _
theorem cMd_takes {l : Launch} {G : GE} (htr : l.stackTraces = false) (hG : gH G = true) (σ : Sg) (M : Mm) (n : Nat) (x1 : Int32) : ∀ o, fMd_takes x1 σ = some o → MetX l G yX12_takes cX12_takes 3 none 3 300 [.inr (.inl (some (gM G))), .inl x1] (σ, M, n) ((eS rvU M n) o) :=
  c_ofX (by decide) kMd_takes htr rfl rfl fun X _ _ C htab => wMd_takes hG C htab x1 _

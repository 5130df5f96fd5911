def pMd_areSameBytes_0 : List BR := [(0, .aload_n 0, 1, 0, 1), (1, .getfield 22, 3, 0, 4), (4, .iload_n 1, 1, 0, 5), (5, .iaload, 1, 0, 6), (6, .aload_n 0, 1, 0, 7), (7, .getfield 22, 3, 0, 10), (10, .iload_n 2, 1, 0, 11), (11, .iaload, 1, 0, 12), (12, .if_icmp .ne (7), 3, 0, 19), (15, .iconst 1, 1, 1, 16), (16, .goto (4), 3, 0, 20), (19, .iconst 0, 1, 0, 20), (20, .istore_n 3, 1, 0, 21), (21, .iconst 0, 1, 0, 22), (22, .istore 4, 2, 0, 24), (24, .iload 4, 2, 0, 26), (26, .aload_n 0, 1, 0, 27), (27, .getfield 22, 3, 0, 30), (30, .iload_n 1, 1, 0, 31), (31, .iaload, 1, 0, 32), (32, .if_icmp .ge (46), 3, 0, 78), (35, .iload_n 3, 1, 0, 36), (36, .ifCond .eq (42), 3, 0, 78), (39, .aload_n 0, 1, 0, 40), (40, .getfield 25, 3, 0, 43), (43, .bipush 40, 2, 40, 45), (45, .iload_n 1, 1, 0, 46), (46, .imul, 1, 0, 47), (47, .iload 4, 2, 0, 49), (49, .iadd, 1, 0, 50), (50, .iaload, 1, 0, 51), (51, .aload_n 0, 1, 0, 52), (52, .getfield 25, 3, 0, 55), (55, .bipush 40, 2, 40, 57), (57, .iload_n 2, 1, 0, 58), (58, .imul, 1, 0, 59), (59, .iload 4, 2, 0, 61), (61, .iadd, 1, 0, 62), (62, .iaload, 1, 0, 63), (63, .if_icmp .ne (7), 3, 0, 70)]
theorem kMd_areSameBytes_0 : bOK cX12_areSameBytes 5 pMd_areSameBytes_0 = true := by decide +kernel
def pMd_areSameBytes_1 : List BR := [(66, .iconst 1, 1, 1, 67), (67, .goto (4), 3, 0, 71), (70, .iconst 0, 1, 0, 71), (71, .istore_n 3, 1, 0, 72), (72, .iinc 4 (1), 3, 1, 75), (75, .goto (-51), 3, 0, 24), (78, .iload_n 3, 1, 0, 79), (79, .ireturn, 1, 0, 80)]
theorem kMd_areSameBytes_1 : bOK cX12_areSameBytes 5 pMd_areSameBytes_1 = true := by decide +kernel
def pMd_areSameBytes : List BR := (pMd_areSameBytes_0 ++ pMd_areSameBytes_1)
theorem kMd_areSameBytes : bOK cX12_areSameBytes 5 pMd_areSameBytes = true := (bOK_app kMd_areSameBytes_0 kMd_areSameBytes_1)
def fMd_areSameBytes_j71 (k24 : Int32 → Int32 → Int32 → Int32 → Sg → Option (Int32)) (x1 : Int32) (x2 : Int32) (x4 : Int32) (s0 : Int32) (σ : Sg) : Option (Int32) :=
  k24 x1 x2 s0 (x4 + 1) σ
theorem wMd_areSameBytes_j71 {X : MC} {G : GE} {n0 : Nat} (hG : gH G = true) (C : CX X G RX12 cX12_areSameBytes pMd_areSameBytes 5 (some .boolean) n0) (htab : ∀ z ∈ X.2.2.2.2.2.2.2.2.exceptionTable.toList, False) {σ : Sg} {M : Mm} {n : Nat} (k24 : Int32 → Int32 → Int32 → Int32 → Sg → Option (Int32)) (H24 : ∀ (x1 : Int32) (x2 : Int32) (x3 : Int32) (x4 : Int32), JS X G 5 300 0 n0 (EM X G n0 2 300 (eR rvI σ M n)) (k24 x1 x2 x3 x4 σ) (σ, M, n) 24 [(0, .inr (.inl (some (gM G)))), (1, .inl x1), (2, .inl x2), (3, .inl x3), (4, .inl x4)] []) (x1 : Int32) (x2 : Int32) (x4 : Int32) (s0 : Int32) : JS X G 5 300 0 n0 (EM X G n0 2 300 (eR rvI σ M n)) (fMd_areSameBytes_j71 k24 x1 x2 x4 s0 σ) (σ, M, n) 71 [(0, .inr (.inl (some (gM G)))), (1, .inl x1), (2, .inl x2), (4, .inl x4)] [.inl s0] := by
  unfold fMd_areSameBytes_j71
  refine s_blk C 43 3 [0, 1, 2, 3, 4] (pc' := 24) (lv' := [(0, .inr (.inl (some (gM G)))), (1, .inl x1), (2, .inl x2), (3, .inl s0), (4, .inl (x4 + 1))]) (st' := []) rfl ?_
  exact H24 _ _ _ _
def fMd_areSameBytes_b24 (k24 : Int32 → Int32 → Int32 → Int32 → Sg → Option (Int32)) (x1 : Int32) (x2 : Int32) (x3 : Int32) (x4 : Int32) (σ : Sg) : Option (Int32) :=
  mgA 9 x1 σ fun v1 =>
  if v1 ≤ x4 then
    rZ x3 (some x3)
  else
    if x3 = 0 then
      rZ x3 (some x3)
    else
      mgA 10 ((40 * x1) + x4) σ fun v2 =>
      mgA 10 ((40 * x2) + x4) σ fun v3 =>
      if v2 = v3 then
        fMd_areSameBytes_j71 k24 x1 x2 x4 1 σ
      else
        fMd_areSameBytes_j71 k24 x1 x2 x4 0 σ
theorem wMd_areSameBytes_b24 {X : MC} {G : GE} {n0 : Nat} (hG : gH G = true) (C : CX X G RX12 cX12_areSameBytes pMd_areSameBytes 5 (some .boolean) n0) (htab : ∀ z ∈ X.2.2.2.2.2.2.2.2.exceptionTable.toList, False) {σ : Sg} {M : Mm} {n : Nat} (k24 : Int32 → Int32 → Int32 → Int32 → Sg → Option (Int32)) (H24 : ∀ (x1 : Int32) (x2 : Int32) (x3 : Int32) (x4 : Int32), JS X G 5 300 0 n0 (EM X G n0 2 300 (eR rvI σ M n)) (k24 x1 x2 x3 x4 σ) (σ, M, n) 24 [(0, .inr (.inl (some (gM G)))), (1, .inl x1), (2, .inl x2), (3, .inl x3), (4, .inl x4)] []) (x1 : Int32) (x2 : Int32) (x3 : Int32) (x4 : Int32) : JS X G 5 300 0 n0 (EM X G n0 2 300 (eR rvI σ M n)) (fMd_areSameBytes_b24 k24 x1 x2 x3 x4 σ) (σ, M, n) 24 [(0, .inr (.inl (some (gM G)))), (1, .inl x1), (2, .inl x2), (3, .inl x3), (4, .inl x4)] [] := by
  unfold fMd_areSameBytes_b24
  refine s_blk C 15 2 [0, 1, 2, 3, 4] (pc' := 27) (lv' := [(0, .inr (.inl (some (gM G)))), (1, .inl x1), (2, .inl x2), (3, .inl x3), (4, .inl x4)]) (st' := [.inr (.inl (some (gM G))), .inl x4]) rfl ?_
  refine s_mR hG C 17 rfl 9 fl_X12_22 rfl ?_
  refine s_blk C 18 1 [0, 1, 2, 3, 4] (pc' := 31) (lv' := [(0, .inr (.inl (some (gM G)))), (1, .inl x1), (2, .inl x2), (3, .inl x3), (4, .inl x4)]) (st' := [.inl x1, .inr (.inl (some (gA G 9))), .inl x4]) rfl ?_
  refine s_mldI hG C 19 rfl rfl rfl (fun v1 => ?_)
  refine s_icge C 20 rfl (fun _ => ?_) (fun _ => ?_)
  · refine s_blk C 46 1 [] (pc' := 79) (lv' := []) (st' := [.inl x3]) rfl ?_
    exact s_zret C 47 rfl rfl
  refine s_blk C 21 1 [0, 1, 2, 3, 4] (pc' := 36) (lv' := [(0, .inr (.inl (some (gM G)))), (1, .inl x1), (2, .inl x2), (3, .inl x3), (4, .inl x4)]) (st' := [.inl x3]) rfl ?_
  refine s_ieq C 22 rfl (fun _ => ?_) (fun _ => ?_)
  · refine s_blk C 46 1 [] (pc' := 79) (lv' := []) (st' := [.inl x3]) rfl ?_
    exact s_zret C 47 rfl rfl
  refine s_blk C 23 1 [0, 1, 2, 4] (pc' := 40) (lv' := [(0, .inr (.inl (some (gM G)))), (1, .inl x1), (2, .inl x2), (4, .inl x4)]) (st' := [.inr (.inl (some (gM G)))]) rfl ?_
  refine s_mR hG C 24 rfl 10 fl_X12_25 rfl ?_
  refine s_blk C 25 5 [0, 1, 2, 4] (pc' := 50) (lv' := [(0, .inr (.inl (some (gM G)))), (1, .inl x1), (2, .inl x2), (4, .inl x4)]) (st' := [.inl ((40 * x1) + x4), .inr (.inl (some (gA G 10)))]) rfl ?_
  refine s_mldI hG C 30 rfl rfl rfl (fun v2 => ?_)
  refine s_blk C 31 1 [0, 1, 2, 4] (pc' := 52) (lv' := [(0, .inr (.inl (some (gM G)))), (1, .inl x1), (2, .inl x2), (4, .inl x4)]) (st' := [.inr (.inl (some (gM G))), .inl v2]) rfl ?_
  refine s_mR hG C 32 rfl 10 fl_X12_25 rfl ?_
  refine s_blk C 33 5 [0, 1, 2, 4] (pc' := 62) (lv' := [(0, .inr (.inl (some (gM G)))), (1, .inl x1), (2, .inl x2), (4, .inl x4)]) (st' := [.inl ((40 * x2) + x4), .inr (.inl (some (gA G 10))), .inl v2]) rfl ?_
  refine s_mldI hG C 38 rfl rfl rfl (fun v3 => ?_)
  refine s_icne C 39 rfl (fun _ => ?_) (fun _ => ?_)
  · refine s_blk C 40 2 [0, 1, 2, 4] (pc' := 71) (lv' := [(0, .inr (.inl (some (gM G)))), (1, .inl x1), (2, .inl x2), (4, .inl x4)]) (st' := [.inl 1]) rfl ?_
    exact wMd_areSameBytes_j71 hG C htab k24 H24 _ _ _ _
  refine s_blk C 42 1 [0, 1, 2, 4] (pc' := 71) (lv' := [(0, .inr (.inl (some (gM G)))), (1, .inl x1), (2, .inl x2), (4, .inl x4)]) (st' := [.inl 0]) rfl ?_
  exact wMd_areSameBytes_j71 hG C htab k24 H24 _ _ _ _
def fMd_areSameBytes_l24 (fu : Nat) : Int32 → Int32 → Int32 → Int32 → Sg → Option (Int32) := Nat.rec (fun x1 x2 x3 x4 σ => none) (fun _ k => fMd_areSameBytes_b24 k) fu
theorem wMd_areSameBytes_l24 {X : MC} {G : GE} {n0 : Nat} (hG : gH G = true) (C : CX X G RX12 cX12_areSameBytes pMd_areSameBytes 5 (some .boolean) n0) (htab : ∀ z ∈ X.2.2.2.2.2.2.2.2.exceptionTable.toList, False) {σ : Sg} {M : Mm} {n : Nat} : ∀ (fu : Nat) (x1 : Int32) (x2 : Int32) (x3 : Int32) (x4 : Int32), JS X G 5 300 0 n0 (EM X G n0 2 300 (eR rvI σ M n)) (fMd_areSameBytes_l24 fu x1 x2 x3 x4 σ) (σ, M, n) 24 [(0, .inr (.inl (some (gM G)))), (1, .inl x1), (2, .inl x2), (3, .inl x3), (4, .inl x4)] [] := by
  intro fu
  induction fu with
  | zero => intro x1 x2 x3 x4; exact s_none
  | succ fu ih => intro x1 x2 x3 x4; exact wMd_areSameBytes_b24 hG C htab (fMd_areSameBytes_l24 fu) ih _ _ _ _
def fMd_areSameBytes_j20 (x1 : Int32) (x2 : Int32) (s0 : Int32) (σ : Sg) : Option (Int32) :=
  fMd_areSameBytes_l24 FU x1 x2 s0 0 σ
theorem wMd_areSameBytes_j20 {X : MC} {G : GE} {n0 : Nat} (hG : gH G = true) (C : CX X G RX12 cX12_areSameBytes pMd_areSameBytes 5 (some .boolean) n0) (htab : ∀ z ∈ X.2.2.2.2.2.2.2.2.exceptionTable.toList, False) {σ : Sg} {M : Mm} {n : Nat} (x1 : Int32) (x2 : Int32) (s0 : Int32) : JS X G 5 300 0 n0 (EM X G n0 2 300 (eR rvI σ M n)) (fMd_areSameBytes_j20 x1 x2 s0 σ) (σ, M, n) 20 [(0, .inr (.inl (some (gM G)))), (1, .inl x1), (2, .inl x2)] [.inl s0] := by
  unfold fMd_areSameBytes_j20
  refine s_blk C 12 3 [0, 1, 2, 3, 4] (pc' := 24) (lv' := [(0, .inr (.inl (some (gM G)))), (1, .inl x1), (2, .inl x2), (3, .inl s0), (4, .inl 0)]) (st' := []) rfl ?_
  exact wMd_areSameBytes_l24 hG C htab FU _ _ _ _
def fMd_areSameBytes (x1 : Int32) (x2 : Int32) (σ : Sg) : Option (Int32) :=
  mgA 9 x1 σ fun v1 =>
  mgA 9 x2 σ fun v2 =>
  if v1 = v2 then
    fMd_areSameBytes_j20 x1 x2 1 σ
  else
    fMd_areSameBytes_j20 x1 x2 0 σ
theorem wMd_areSameBytes {X : MC} {G : GE} {n0 : Nat} (hG : gH G = true) (C : CX X G RX12 cX12_areSameBytes pMd_areSameBytes 5 (some .boolean) n0) (htab : ∀ z ∈ X.2.2.2.2.2.2.2.2.exceptionTable.toList, False) {σ : Sg} {M : Mm} {n : Nat} (x1 : Int32) (x2 : Int32) : JS X G 5 300 0 n0 (EM X G n0 2 300 (eR rvI σ M n)) (fMd_areSameBytes x1 x2 σ) (σ, M, n) 0 [(0, .inr (.inl (some (gM G)))), (1, .inl x1), (2, .inl x2)] [] := by
  unfold fMd_areSameBytes
  refine s_blk C 0 1 [0, 1, 2] (pc' := 1) (lv' := [(0, .inr (.inl (some (gM G)))), (1, .inl x1), (2, .inl x2)]) (st' := [.inr (.inl (some (gM G)))]) rfl ?_
  refine s_mR hG C 1 rfl 9 fl_X12_22 rfl ?_
  refine s_blk C 2 1 [0, 1, 2] (pc' := 5) (lv' := [(0, .inr (.inl (some (gM G)))), (1, .inl x1), (2, .inl x2)]) (st' := [.inl x1, .inr (.inl (some (gA G 9)))]) rfl ?_
  refine s_mldI hG C 3 rfl rfl rfl (fun v1 => ?_)
  refine s_blk C 4 1 [0, 1, 2] (pc' := 7) (lv' := [(0, .inr (.inl (some (gM G)))), (1, .inl x1), (2, .inl x2)]) (st' := [.inr (.inl (some (gM G))), .inl v1]) rfl ?_
  refine s_mR hG C 5 rfl 9 fl_X12_22 rfl ?_
  refine s_blk C 6 1 [0, 1, 2] (pc' := 11) (lv' := [(0, .inr (.inl (some (gM G)))), (1, .inl x1), (2, .inl x2)]) (st' := [.inl x2, .inr (.inl (some (gA G 9))), .inl v1]) rfl ?_
  refine s_mldI hG C 7 rfl rfl rfl (fun v2 => ?_)
  refine s_icne C 8 rfl (fun _ => ?_) (fun _ => ?_)
  · refine s_blk C 9 2 [0, 1, 2] (pc' := 20) (lv' := [(0, .inr (.inl (some (gM G)))), (1, .inl x1), (2, .inl x2)]) (st' := [.inl 1]) rfl ?_
    exact wMd_areSameBytes_j20 hG C htab _ _ _
  refine s_blk C 11 1 [0, 1, 2] (pc' := 20) (lv' := [(0, .inr (.inl (some (gM G)))), (1, .inl x1), (2, .inl x2)]) (st' := [.inl 0]) rfl ?_
  exact wMd_areSameBytes_j20 hG C htab _ _ _
theorem cMd_areSameBytes {l : Launch} {G : GE} (htr : l.stackTraces = false) (hG : gH G = true) (σ : Sg) (M : Mm) (n : Nat) (x1 : Int32) (x2 : Int32) : ∀ o, fMd_areSameBytes x1 x2 σ = some o → MetX l G yX12_areSameBytes cX12_areSameBytes 5 (some .boolean) 2 300 [.inr (.inl (some (gM G))), .inl x1, .inl x2] (σ, M, n) ((eR rvI σ M n) o) :=
  c_ofX (by decide) kMd_areSameBytes htr rfl rfl fun X _ _ C htab => wMd_areSameBytes hG C htab x1 x2
def pMd_isWithin_0 : List BR := [(0, .iconst 1, 1, 1, 1), (1, .istore_n 2, 1, 0, 2), (2, .bipush 40, 2, 40, 4), (4, .iload_n 1, 1, 0, 5), (5, .imul, 1, 0, 6), (6, .istore_n 3, 1, 0, 7), (7, .iload_n 3, 1, 0, 8), (8, .aload_n 0, 1, 0, 9), (9, .iload_n 1, 1, 0, 10), (10, .invokevirtual 219, 3, 0, 13), (13, .if_icmp .ge (91), 3, 0, 104), (16, .iload_n 2, 1, 0, 17), (17, .ifCond .eq (87), 3, 0, 104), (20, .aload_n 0, 1, 0, 21), (21, .iload_n 1, 1, 0, 22), (22, .iload_n 3, 1, 0, 23), (23, .invokevirtual 298, 3, 0, 26), (26, .ifCond .eq (19), 3, 0, 45), (29, .aload_n 0, 1, 0, 30), (30, .iconst 1, 1, 1, 31), (31, .iload_n 1, 1, 0, 32), (32, .isub, 1, 0, 33), (33, .aload_n 0, 1, 0, 34), (34, .getfield 74, 3, 0, 37), (37, .iload_n 3, 1, 0, 38), (38, .iaload, 1, 0, 39), (39, .invokevirtual 247, 3, 0, 42), (42, .goto (4), 3, 0, 46), (45, .iconst (-1), 1, -1, 46), (46, .istore 4, 2, 0, 48), (48, .aload_n 0, 1, 0, 49), (49, .iload_n 1, 1, 0, 50), (50, .iload_n 3, 1, 0, 51), (51, .invokevirtual 298, 3, 0, 54), (54, .ifCond .eq (38), 3, 0, 92), (57, .iload 4, 2, 0, 59), (59, .iconst (-1), 1, -1, 60), (60, .if_icmp .eq (36), 3, 0, 96), (63, .aload_n 0, 1, 0, 64), (64, .iload 4, 2, 0, 66)]
theorem kMd_isWithin_0 : bOK cX12_isWithin 5 pMd_isWithin_0 = true := by decide +kernel
def pMd_isWithin_1 : List BR := [(66, .invokevirtual 250, 3, 0, 69), (69, .ifCond .ne (27), 3, 0, 96), (72, .aload_n 0, 1, 0, 73), (73, .aload_n 0, 1, 0, 74), (74, .getfield 71, 3, 0, 77), (77, .iload_n 3, 1, 0, 78), (78, .iaload, 1, 0, 79), (79, .aload_n 0, 1, 0, 80), (80, .getfield 71, 3, 0, 83), (83, .iload 4, 2, 0, 85), (85, .iaload, 1, 0, 86), (86, .invokevirtual 327, 3, 0, 89), (89, .ifCond .eq (7), 3, 0, 96), (92, .iconst 1, 1, 1, 93), (93, .goto (4), 3, 0, 97), (96, .iconst 0, 1, 0, 97), (97, .istore_n 2, 1, 0, 98), (98, .iinc 3 (1), 3, 1, 101), (101, .goto (-94), 3, 0, 7), (104, .iload_n 2, 1, 0, 105), (105, .ireturn, 1, 0, 106)]
theorem kMd_isWithin_1 : bOK cX12_isWithin 5 pMd_isWithin_1 = true := by decide +kernel
def pMd_isWithin : List BR := (pMd_isWithin_0 ++ pMd_isWithin_1)
theorem kMd_isWithin : bOK cX12_isWithin 5 pMd_isWithin = true := (bOK_app kMd_isWithin_0 kMd_isWithin_1)
def fMd_isWithin_j97 (k7 : Int32 → Int32 → Int32 → Sg → Option (Int32)) (x1 : Int32) (x3 : Int32) (s0 : Int32) (σ : Sg) : Option (Int32) :=
  k7 x1 s0 (x3 + 1) σ
theorem wMd_isWithin_j97 {X : MC} {G : GE} {n0 : Nat} (hG : gH G = true) (C : CX X G RX12 cX12_isWithin pMd_isWithin 5 (some .boolean) n0) (htab : ∀ z ∈ X.2.2.2.2.2.2.2.2.exceptionTable.toList, False) {σ : Sg} {M : Mm} {n : Nat} (k7 : Int32 → Int32 → Int32 → Sg → Option (Int32)) (H7 : ∀ (x1 : Int32) (x2 : Int32) (x3 : Int32), JS X G 5 300 0 n0 (EM X G n0 5 300 (eR rvI σ M n)) (k7 x1 x2 x3 σ) (σ, M, n) 7 [(0, .inr (.inl (some (gM G)))), (1, .inl x1), (2, .inl x2), (3, .inl x3)] []) (x1 : Int32) (x3 : Int32) (s0 : Int32) : JS X G 5 300 0 n0 (EM X G n0 5 300 (eR rvI σ M n)) (fMd_isWithin_j97 k7 x1 x3 s0 σ) (σ, M, n) 97 [(0, .inr (.inl (some (gM G)))), (1, .inl x1), (3, .inl x3)] [.inl s0] := by
  unfold fMd_isWithin_j97
  refine s_blk C 56 3 [0, 1, 2, 3] (pc' := 7) (lv' := [(0, .inr (.inl (some (gM G)))), (1, .inl x1), (2, .inl s0), (3, .inl (x3 + 1))]) (st' := []) rfl ?_
  exact H7 _ _ _
def fMd_isWithin_j92 (k7 : Int32 → Int32 → Int32 → Sg → Option (Int32)) (x1 : Int32) (x3 : Int32) (σ : Sg) : Option (Int32) :=
  fMd_isWithin_j97 k7 x1 x3 1 σ
theorem wMd_isWithin_j92 {X : MC} {G : GE} {n0 : Nat} (hG : gH G = true) (C : CX X G RX12 cX12_isWithin pMd_isWithin 5 (some .boolean) n0) (htab : ∀ z ∈ X.2.2.2.2.2.2.2.2.exceptionTable.toList, False) {σ : Sg} {M : Mm} {n : Nat} (k7 : Int32 → Int32 → Int32 → Sg → Option (Int32)) (H7 : ∀ (x1 : Int32) (x2 : Int32) (x3 : Int32), JS X G 5 300 0 n0 (EM X G n0 5 300 (eR rvI σ M n)) (k7 x1 x2 x3 σ) (σ, M, n) 7 [(0, .inr (.inl (some (gM G)))), (1, .inl x1), (2, .inl x2), (3, .inl x3)] []) (x1 : Int32) (x3 : Int32) : JS X G 5 300 0 n0 (EM X G n0 5 300 (eR rvI σ M n)) (fMd_isWithin_j92 k7 x1 x3 σ) (σ, M, n) 92 [(0, .inr (.inl (some (gM G)))), (1, .inl x1), (3, .inl x3)] [] := by
  unfold fMd_isWithin_j92
  refine s_blk C 53 2 [0, 1, 3] (pc' := 97) (lv' := [(0, .inr (.inl (some (gM G)))), (1, .inl x1), (3, .inl x3)]) (st' := [.inl 1]) rfl ?_
  exact wMd_isWithin_j97 hG C htab k7 H7 _ _ _
def fMd_isWithin_j96 (k7 : Int32 → Int32 → Int32 → Sg → Option (Int32)) (x1 : Int32) (x3 : Int32) (σ : Sg) : Option (Int32) :=
  fMd_isWithin_j97 k7 x1 x3 0 σ
theorem wMd_isWithin_j96 {X : MC} {G : GE} {n0 : Nat} (hG : gH G = true) (C : CX X G RX12 cX12_isWithin pMd_isWithin 5 (some .boolean) n0) (htab : ∀ z ∈ X.2.2.2.2.2.2.2.2.exceptionTable.toList, False) {σ : Sg} {M : Mm} {n : Nat} (k7 : Int32 → Int32 → Int32 → Sg → Option (Int32)) (H7 : ∀ (x1 : Int32) (x2 : Int32) (x3 : Int32), JS X G 5 300 0 n0 (EM X G n0 5 300 (eR rvI σ M n)) (k7 x1 x2 x3 σ) (σ, M, n) 7 [(0, .inr (.inl (some (gM G)))), (1, .inl x1), (2, .inl x2), (3, .inl x3)] []) (x1 : Int32) (x3 : Int32) : JS X G 5 300 0 n0 (EM X G n0 5 300 (eR rvI σ M n)) (fMd_isWithin_j96 k7 x1 x3 σ) (σ, M, n) 96 [(0, .inr (.inl (some (gM G)))), (1, .inl x1), (3, .inl x3)] [] := by
  unfold fMd_isWithin_j96
  refine s_blk C 55 1 [0, 1, 3] (pc' := 97) (lv' := [(0, .inr (.inl (some (gM G)))), (1, .inl x1), (3, .inl x3)]) (st' := [.inl 0]) rfl ?_
  exact wMd_isWithin_j97 hG C htab k7 H7 _ _ _
def fMd_isWithin_j46 (k7 : Int32 → Int32 → Int32 → Sg → Option (Int32)) (x1 : Int32) (x3 : Int32) (s0 : Int32) (σ : Sg) : Option (Int32) :=
  bdR (fMd_isObject x1 x3 σ) fun v1 =>
  if v1 = 0 then
    fMd_isWithin_j92 k7 x1 x3 σ
  else
    if s0 = (-1) then
      fMd_isWithin_j96 k7 x1 x3 σ
    else
      bdR (fMd_isMark s0 σ) fun v2 =>
      if v2 = 0 then
        mgA 27 x3 σ fun v3 =>
        mgA 27 s0 σ fun v4 =>
        bdR (fMd_areSameBytes v3 v4 σ) fun v5 =>
        if v5 = 0 then
          fMd_isWithin_j96 k7 x1 x3 σ
        else
          fMd_isWithin_j92 k7 x1 x3 σ
      else
        fMd_isWithin_j96 k7 x1 x3 σ
theorem wMd_isWithin_j46 {X : MC} {G : GE} {n0 : Nat} (hG : gH G = true) (C : CX X G RX12 cX12_isWithin pMd_isWithin 5 (some .boolean) n0) (htab : ∀ z ∈ X.2.2.2.2.2.2.2.2.exceptionTable.toList, False) {σ : Sg} {M : Mm} {n : Nat} (k7 : Int32 → Int32 → Int32 → Sg → Option (Int32)) (H7 : ∀ (x1 : Int32) (x2 : Int32) (x3 : Int32), JS X G 5 300 0 n0 (EM X G n0 5 300 (eR rvI σ M n)) (k7 x1 x2 x3 σ) (σ, M, n) 7 [(0, .inr (.inl (some (gM G)))), (1, .inl x1), (2, .inl x2), (3, .inl x3)] []) (x1 : Int32) (x3 : Int32) (s0 : Int32) : JS X G 5 300 0 n0 (EM X G n0 5 300 (eR rvI σ M n)) (fMd_isWithin_j46 k7 x1 x3 s0 σ) (σ, M, n) 46 [(0, .inr (.inl (some (gM G)))), (1, .inl x1), (3, .inl x3)] [.inl s0] := by
  unfold fMd_isWithin_j46
  refine s_blk C 29 4 [0, 1, 3, 4] (pc' := 51) (lv' := [(0, .inr (.inl (some (gM G)))), (1, .inl x1), (3, .inl x3), (4, .inl s0)]) (st' := [.inl x3, .inl x1, .inr (.inl (some (gM G)))]) rfl ?_
  refine s_RI (CE_EM _ _ _ _ _ _) (st := []) (fun o ho => j_callV (As := [.inl x1, .inl x3]) (st := []) (b := gM G) C 33 rfl mf_Md_isObject ml_X12_298 rfl (recv_M hG C) (by decide) (by decide) (Nat.le_refl _) rfl (cMd_isObject (CX_tr C) hG σ M n x1 x3 o ho)) (fun v1 => ?_)
  refine s_ieq C 34 rfl (fun _ => ?_) (fun _ => ?_)
  · refine s_blk C 0 0 [0, 1, 3] (pc' := 92) (lv' := [(0, .inr (.inl (some (gM G)))), (1, .inl x1), (3, .inl x3)]) (st' := []) rfl ?_
    exact wMd_isWithin_j92 hG C htab k7 H7 _ _
  refine s_blk C 35 2 [0, 1, 3, 4] (pc' := 60) (lv' := [(0, .inr (.inl (some (gM G)))), (1, .inl x1), (3, .inl x3), (4, .inl s0)]) (st' := [.inl (-1), .inl s0]) rfl ?_
  refine s_iceq C 37 rfl (fun _ => ?_) (fun _ => ?_)
  · refine s_blk C 0 0 [0, 1, 3] (pc' := 96) (lv' := [(0, .inr (.inl (some (gM G)))), (1, .inl x1), (3, .inl x3)]) (st' := []) rfl ?_
    exact wMd_isWithin_j96 hG C htab k7 H7 _ _
  refine s_blk C 38 2 [0, 1, 3, 4] (pc' := 66) (lv' := [(0, .inr (.inl (some (gM G)))), (1, .inl x1), (3, .inl x3), (4, .inl s0)]) (st' := [.inl s0, .inr (.inl (some (gM G)))]) rfl ?_
  refine s_RI (CE_EM _ _ _ _ _ _) (st := []) (fun o ho => j_callV (As := [.inl s0]) (st := []) (b := gM G) C 40 rfl mf_Md_isMark ml_X12_250 rfl (recv_M hG C) (by decide) (by decide) (Nat.le_refl _) rfl (cMd_isMark (CX_tr C) hG σ M n s0 o ho)) (fun v2 => ?_)
  refine s_ine C 41 rfl (fun _ => ?_) (fun _ => ?_)
  · refine s_blk C 42 2 [0, 1, 3, 4] (pc' := 74) (lv' := [(0, .inr (.inl (some (gM G)))), (1, .inl x1), (3, .inl x3), (4, .inl s0)]) (st' := [.inr (.inl (some (gM G))), .inr (.inl (some (gM G)))]) rfl ?_
    refine s_mR hG C 44 rfl 27 fl_X12_71 rfl ?_
    refine s_blk C 45 1 [0, 1, 3, 4] (pc' := 78) (lv' := [(0, .inr (.inl (some (gM G)))), (1, .inl x1), (3, .inl x3), (4, .inl s0)]) (st' := [.inl x3, .inr (.inl (some (gA G 27))), .inr (.inl (some (gM G)))]) rfl ?_
    refine s_mldI hG C 46 rfl rfl rfl (fun v3 => ?_)
    refine s_blk C 47 1 [0, 1, 3, 4] (pc' := 80) (lv' := [(0, .inr (.inl (some (gM G)))), (1, .inl x1), (3, .inl x3), (4, .inl s0)]) (st' := [.inr (.inl (some (gM G))), .inl v3, .inr (.inl (some (gM G)))]) rfl ?_
    refine s_mR hG C 48 rfl 27 fl_X12_71 rfl ?_
    refine s_blk C 49 1 [0, 1, 3] (pc' := 85) (lv' := [(0, .inr (.inl (some (gM G)))), (1, .inl x1), (3, .inl x3)]) (st' := [.inl s0, .inr (.inl (some (gA G 27))), .inl v3, .inr (.inl (some (gM G)))]) rfl ?_
    refine s_mldI hG C 50 rfl rfl rfl (fun v4 => ?_)
    refine s_RI (CE_EM _ _ _ _ _ _) (st := []) (fun o ho => j_callV (As := [.inl v3, .inl v4]) (st := []) (b := gM G) C 51 rfl mf_Md_areSameBytes ml_X12_327 rfl (recv_M hG C) (by decide) (by decide) (Nat.le_refl _) rfl (cMd_areSameBytes (CX_tr C) hG σ M n v3 v4 o ho)) (fun v5 => ?_)
    refine s_ieq C 52 rfl (fun _ => ?_) (fun _ => ?_)
    · exact wMd_isWithin_j96 hG C htab k7 H7 _ _
    exact wMd_isWithin_j92 hG C htab k7 H7 _ _
  refine s_blk C 0 0 [0, 1, 3] (pc' := 96) (lv' := [(0, .inr (.inl (some (gM G)))), (1, .inl x1), (3, .inl x3)]) (st' := []) rfl ?_
  exact wMd_isWithin_j96 hG C htab k7 H7 _ _
def fMd_isWithin_b7 (k7 : Int32 → Int32 → Int32 → Sg → Option (Int32)) (x1 : Int32) (x2 : Int32) (x3 : Int32) (σ : Sg) : Option (Int32) :=
  bdR (fMd_endOf x1 σ) fun v1 =>
  if v1 ≤ x3 then
    rZ x2 (some x2)
  else
    if x2 = 0 then
      rZ x2 (some x2)
    else
      bdR (fMd_isObject x1 x3 σ) fun v2 =>
      if v2 = 0 then
        fMd_isWithin_j46 k7 x1 x3 (-1) σ
      else
        mgA 28 x3 σ fun v3 =>
        bdR (fMd_latest (1 - x1) v3 σ) fun v4 =>
        fMd_isWithin_j46 k7 x1 x3 v4 σ
theorem wMd_isWithin_b7 {X : MC} {G : GE} {n0 : Nat} (hG : gH G = true) (C : CX X G RX12 cX12_isWithin pMd_isWithin 5 (some .boolean) n0) (htab : ∀ z ∈ X.2.2.2.2.2.2.2.2.exceptionTable.toList, False) {σ : Sg} {M : Mm} {n : Nat} (k7 : Int32 → Int32 → Int32 → Sg → Option (Int32)) (H7 : ∀ (x1 : Int32) (x2 : Int32) (x3 : Int32), JS X G 5 300 0 n0 (EM X G n0 5 300 (eR rvI σ M n)) (k7 x1 x2 x3 σ) (σ, M, n) 7 [(0, .inr (.inl (some (gM G)))), (1, .inl x1), (2, .inl x2), (3, .inl x3)] []) (x1 : Int32) (x2 : Int32) (x3 : Int32) : JS X G 5 300 0 n0 (EM X G n0 5 300 (eR rvI σ M n)) (fMd_isWithin_b7 k7 x1 x2 x3 σ) (σ, M, n) 7 [(0, .inr (.inl (some (gM G)))), (1, .inl x1), (2, .inl x2), (3, .inl x3)] [] := by
  unfold fMd_isWithin_b7
  refine s_blk C 6 3 [0, 1, 2, 3] (pc' := 10) (lv' := [(0, .inr (.inl (some (gM G)))), (1, .inl x1), (2, .inl x2), (3, .inl x3)]) (st' := [.inl x1, .inr (.inl (some (gM G))), .inl x3]) rfl ?_
  refine s_RI (CE_EM _ _ _ _ _ _) (st := [.inl x3]) (fun o ho => j_callV (As := [.inl x1]) (st := [.inl x3]) (b := gM G) C 9 rfl mf_Md_endOf ml_X12_219 rfl (recv_M hG C) (by decide) (by decide) (Nat.le_refl _) rfl (cMd_endOf (CX_tr C) hG σ M n x1 o ho)) (fun v1 => ?_)
  refine s_icge C 10 rfl (fun _ => ?_) (fun _ => ?_)
  · refine s_blk C 59 1 [] (pc' := 105) (lv' := []) (st' := [.inl x2]) rfl ?_
    exact s_zret C 60 rfl rfl
  refine s_blk C 11 1 [0, 1, 2, 3] (pc' := 17) (lv' := [(0, .inr (.inl (some (gM G)))), (1, .inl x1), (2, .inl x2), (3, .inl x3)]) (st' := [.inl x2]) rfl ?_
  refine s_ieq C 12 rfl (fun _ => ?_) (fun _ => ?_)
  · refine s_blk C 59 1 [] (pc' := 105) (lv' := []) (st' := [.inl x2]) rfl ?_
    exact s_zret C 60 rfl rfl
  refine s_blk C 13 3 [0, 1, 3] (pc' := 23) (lv' := [(0, .inr (.inl (some (gM G)))), (1, .inl x1), (3, .inl x3)]) (st' := [.inl x3, .inl x1, .inr (.inl (some (gM G)))]) rfl ?_
  refine s_RI (CE_EM _ _ _ _ _ _) (st := []) (fun o ho => j_callV (As := [.inl x1, .inl x3]) (st := []) (b := gM G) C 16 rfl mf_Md_isObject ml_X12_298 rfl (recv_M hG C) (by decide) (by decide) (Nat.le_refl _) rfl (cMd_isObject (CX_tr C) hG σ M n x1 x3 o ho)) (fun v2 => ?_)
  refine s_ieq C 17 rfl (fun _ => ?_) (fun _ => ?_)
  · refine s_blk C 28 1 [0, 1, 3] (pc' := 46) (lv' := [(0, .inr (.inl (some (gM G)))), (1, .inl x1), (3, .inl x3)]) (st' := [.inl (-1)]) rfl ?_
    exact wMd_isWithin_j46 hG C htab k7 H7 _ _ _
  refine s_blk C 18 5 [0, 1, 3] (pc' := 34) (lv' := [(0, .inr (.inl (some (gM G)))), (1, .inl x1), (3, .inl x3)]) (st' := [.inr (.inl (some (gM G))), .inl (1 - x1), .inr (.inl (some (gM G)))]) rfl ?_
  refine s_mR hG C 23 rfl 28 fl_X12_74 rfl ?_
  refine s_blk C 24 1 [0, 1, 3] (pc' := 38) (lv' := [(0, .inr (.inl (some (gM G)))), (1, .inl x1), (3, .inl x3)]) (st' := [.inl x3, .inr (.inl (some (gA G 28))), .inl (1 - x1), .inr (.inl (some (gM G)))]) rfl ?_
  refine s_mldI hG C 25 rfl rfl rfl (fun v3 => ?_)
  refine s_RI (CE_EM _ _ _ _ _ _) (st := []) (fun o ho => j_callV (As := [.inl (1 - x1), .inl v3]) (st := []) (b := gM G) C 26 rfl mf_Md_latest ml_X12_247 rfl (recv_M hG C) (by decide) (by decide) (Nat.le_refl _) rfl (cMd_latest (CX_tr C) hG σ M n (1 - x1) v3 o ho)) (fun v4 => ?_)
  refine s_blk C 27 1 [0, 1, 3] (pc' := 46) (lv' := [(0, .inr (.inl (some (gM G)))), (1, .inl x1), (3, .inl x3)]) (st' := [.inl v4]) rfl ?_
  exact wMd_isWithin_j46 hG C htab k7 H7 _ _ _
def fMd_isWithin_l7 (fu : Nat) : Int32 → Int32 → Int32 → Sg → Option (Int32) := Nat.rec (fun x1 x2 x3 σ => none) (fun _ k => fMd_isWithin_b7 k) fu
theorem wMd_isWithin_l7 {X : MC} {G : GE} {n0 : Nat} (hG : gH G = true) (C : CX X G RX12 cX12_isWithin pMd_isWithin 5 (some .boolean) n0) (htab : ∀ z ∈ X.2.2.2.2.2.2.2.2.exceptionTable.toList, False) {σ : Sg} {M : Mm} {n : Nat} : ∀ (fu : Nat) (x1 : Int32) (x2 : Int32) (x3 : Int32), JS X G 5 300 0 n0 (EM X G n0 5 300 (eR rvI σ M n)) (fMd_isWithin_l7 fu x1 x2 x3 σ) (σ, M, n) 7 [(0, .inr (.inl (some (gM G)))), (1, .inl x1), (2, .inl x2), (3, .inl x3)] [] := by
  intro fu
  induction fu with
  | zero => intro x1 x2 x3; exact s_none
  | succ fu ih => intro x1 x2 x3; exact wMd_isWithin_b7 hG C htab (fMd_isWithin_l7 fu) ih _ _ _
def fMd_isWithin (x1 : Int32) (σ : Sg) : Option (Int32) :=
  fMd_isWithin_l7 FU x1 1 (40 * x1) σ
theorem wMd_isWithin {X : MC} {G : GE} {n0 : Nat} (hG : gH G = true) (C : CX X G RX12 cX12_isWithin pMd_isWithin 5 (some .boolean) n0) (htab : ∀ z ∈ X.2.2.2.2.2.2.2.2.exceptionTable.toList, False) {σ : Sg} {M : Mm} {n : Nat} (x1 : Int32) : JS X G 5 300 0 n0 (EM X G n0 5 300 (eR rvI σ M n)) (fMd_isWithin x1 σ) (σ, M, n) 0 [(0, .inr (.inl (some (gM G)))), (1, .inl x1)] [] := by
  unfold fMd_isWithin
  refine s_blk C 0 6 [0, 1, 2, 3] (pc' := 7) (lv' := [(0, .inr (.inl (some (gM G)))), (1, .inl x1), (2, .inl 1), (3, .inl (40 * x1))]) (st' := []) rfl ?_
  exact wMd_isWithin_l7 hG C htab FU _ _ _
theorem cMd_isWithin {l : Launch} {G : GE} (htr : l.stackTraces = false) (hG : gH G = true) (σ : Sg) (M : Mm) (n : Nat) (x1 : Int32) : ∀ o, fMd_isWithin x1 σ = some o → MetX l G yX12_isWithin cX12_isWithin 5 (some .boolean) 5 300 [.inr (.inl (some (gM G))), .inl x1] (σ, M, n) ((eR rvI σ M n) o) :=
  c_ofX (by decide) kMd_isWithin htr rfl rfl fun X _ _ C htab => wMd_isWithin hG C htab x1
def pMd_areAlike : List BR := [(0, .aload_n 0, 1, 0, 1), (1, .iconst 0, 1, 0, 2), (2, .putfield 128, 3, 0, 5), (5, .aload_n 0, 1, 0, 6), (6, .iconst 0, 1, 0, 7), (7, .invokevirtual 330, 3, 0, 10), (10, .ifCond .eq (15), 3, 0, 25), (13, .aload_n 0, 1, 0, 14), (14, .iconst 1, 1, 1, 15), (15, .invokevirtual 330, 3, 0, 18), (18, .ifCond .eq (7), 3, 0, 25), (21, .iconst 1, 1, 1, 22), (22, .goto (4), 3, 0, 26), (25, .iconst 0, 1, 0, 26), (26, .ireturn, 1, 0, 27)]
theorem kMd_areAlike : bOK cX12_areAlike 1 pMd_areAlike = true := by decide +kernel
def fMd_areAlike (σ : Sg) : Option (Int32 × Sg) :=
  mpF 0 0 σ fun σ1 =>
  bdR (fMd_isWithin 0 σ1) fun v2 =>
  if v2 = 0 then
    rZ 0 (some (0, σ1))
  else
    bdR (fMd_isWithin 1 σ1) fun v3 =>
    if v3 = 0 then
      rZ 0 (some (0, σ1))
    else
      rZ 1 (some (1, σ1))
theorem wMd_areAlike {X : MC} {G : GE} {n0 : Nat} (hG : gH G = true) (C : CX X G RX12 cX12_areAlike pMd_areAlike 1 (some .boolean) n0) (htab : ∀ z ∈ X.2.2.2.2.2.2.2.2.exceptionTable.toList, False) {M : Mm} {n : Nat} (σ : Sg) : JS X G 1 300 0 n0 (EM X G n0 6 300 (eS rvI M n)) (fMd_areAlike σ) (σ, M, n) 0 [(0, .inr (.inl (some (gM G))))] [] := by
  unfold fMd_areAlike
  refine s_blk C 0 2 [0] (pc' := 2) (lv' := [(0, .inr (.inl (some (gM G))))]) (st' := [.inl 0, .inr (.inl (some (gM G)))]) rfl ?_
  refine s_mpF hG C 2 rfl fl_X12_128 fp_X12_13_0 rfl (fun σ1 _ => ?_)
  refine s_blk C 3 2 [0] (pc' := 7) (lv' := [(0, .inr (.inl (some (gM G))))]) (st' := [.inl 0, .inr (.inl (some (gM G)))]) rfl ?_
  refine s_RI (CE_EM _ _ _ _ _ _) (st := []) (fun o ho => j_callV (As := [.inl 0]) (st := []) (b := gM G) C 5 rfl mf_Md_isWithin ml_X12_330 rfl (recv_M hG C) (by decide) (by decide) (Nat.le_refl _) rfl (cMd_isWithin (CX_tr C) hG σ1 M n 0 o ho)) (fun v2 => ?_)
  refine s_ieq C 6 rfl (fun _ => ?_) (fun _ => ?_)
  · refine s_blk C 13 1 [] (pc' := 26) (lv' := []) (st' := [.inl 0]) rfl ?_
    exact s_zret C 14 rfl rfl
  refine s_blk C 7 2 [] (pc' := 15) (lv' := []) (st' := [.inl 1, .inr (.inl (some (gM G)))]) rfl ?_
  refine s_RI (CE_EM _ _ _ _ _ _) (st := []) (fun o ho => j_callV (As := [.inl 1]) (st := []) (b := gM G) C 9 rfl mf_Md_isWithin ml_X12_330 rfl (recv_M hG C) (by decide) (by decide) (Nat.le_refl _) rfl (cMd_isWithin (CX_tr C) hG σ1 M n 1 o ho)) (fun v3 => ?_)
  refine s_ieq C 10 rfl (fun _ => ?_) (fun _ => ?_)
  · refine s_blk C 13 1 [] (pc' := 26) (lv' := []) (st' := [.inl 0]) rfl ?_
    exact s_zret C 14 rfl rfl
  refine s_blk C 11 2 [] (pc' := 26) (lv' := []) (st' := [.inl 1]) rfl ?_
  exact s_zret C 14 rfl rfl
theorem cMd_areAlike {l : Launch} {G : GE} (htr : l.stackTraces = false) (hG : gH G = true) (σ : Sg) (M : Mm) (n : Nat) : ∀ o, fMd_areAlike σ = some o → MetX l G yX12_areAlike cX12_areAlike 1 (some .boolean) 6 300 [.inr (.inl (some (gM G)))] (σ, M, n) ((eS rvI M n) o) :=
  c_ofX (by decide) kMd_areAlike htr rfl rfl fun X _ _ C htab => wMd_areAlike hG C htab _
def pMd_asWord : List BR := [(0, .bipush 25, 2, 25, 2), (2, .iload_n 0, 1, 0, 3), (3, .iconst 0, 1, 0, 4), (4, .invokestatic 140, 3, 0, 7), (7, .imul, 1, 0, 8), (8, .iconst 5, 1, 5, 9), (9, .iload_n 0, 1, 0, 10), (10, .iconst 1, 1, 1, 11), (11, .invokestatic 140, 3, 0, 14), (14, .imul, 1, 0, 15), (15, .iadd, 1, 0, 16), (16, .iload_n 0, 1, 0, 17), (17, .iconst 2, 1, 2, 18), (18, .invokestatic 140, 3, 0, 21), (21, .iadd, 1, 0, 22), (22, .ireturn, 1, 0, 23)]
theorem kMd_asWord : bOK cX12_asWord 1 pMd_asWord = true := by decide +kernel
def fMd_asWord (x0 : Int32) : Option (Int32) :=
  bdR (fMd_letterOf x0 0) fun v1 =>
  bdR (fMd_letterOf x0 1) fun v2 =>
  bdR (fMd_letterOf x0 2) fun v3 =>
  some (((25 * v1) + (5 * v2)) + v3)
theorem wMd_asWord {X : MC} {G : GE} {n0 : Nat} (hG : gH G = true) (C : CX X G RX12 cX12_asWord pMd_asWord 1 (some .int) n0) (htab : ∀ z ∈ X.2.2.2.2.2.2.2.2.exceptionTable.toList, False) {σ : Sg} {M : Mm} {n : Nat} (x0 : Int32) : JS X G 1 300 0 n0 (EM X G n0 4 300 (eR rvI σ M n)) (fMd_asWord x0) (σ, M, n) 0 [(0, .inl x0)] [] := by
  unfold fMd_asWord
  refine s_blk C 0 3 [0] (pc' := 4) (lv' := [(0, .inl x0)]) (st' := [.inl 0, .inl x0, .inl 25]) rfl ?_
  refine s_RI (CE_EM _ _ _ _ _ _) (st := [.inl 25]) (fun o ho => j_callS (As := [.inl x0, .inl 0]) (st := [.inl 25]) C 3 rfl mf_Md_letterOf ml_X12_140 rfl (by decide) (by decide) (Nat.le_refl _) rfl (cMd_letterOf (CX_tr C) hG σ M n x0 0 o ho)) (fun v1 => ?_)
  refine s_blk C 4 4 [0] (pc' := 11) (lv' := [(0, .inl x0)]) (st' := [.inl 1, .inl x0, .inl 5, .inl (25 * v1)]) rfl ?_
  refine s_RI (CE_EM _ _ _ _ _ _) (st := [.inl 5, .inl (25 * v1)]) (fun o ho => j_callS (As := [.inl x0, .inl 1]) (st := [.inl 5, .inl (25 * v1)]) C 8 rfl mf_Md_letterOf ml_X12_140 rfl (by decide) (by decide) (Nat.le_refl _) rfl (cMd_letterOf (CX_tr C) hG σ M n x0 1 o ho)) (fun v2 => ?_)
  refine s_blk C 9 4 [] (pc' := 18) (lv' := []) (st' := [.inl 2, .inl x0, .inl ((25 * v1) + (5 * v2))]) rfl ?_
  refine s_RI (CE_EM _ _ _ _ _ _) (st := [.inl ((25 * v1) + (5 * v2))]) (fun o ho => j_callS (As := [.inl x0, .inl 2]) (st := [.inl ((25 * v1) + (5 * v2))]) C 13 rfl mf_Md_letterOf ml_X12_140 rfl (by decide) (by decide) (Nat.le_refl _) rfl (cMd_letterOf (CX_tr C) hG σ M n x0 2 o ho)) (fun v3 => ?_)
  refine s_blk C 14 1 [] (pc' := 22) (lv' := []) (st' := [.inl (((25 * v1) + (5 * v2)) + v3)]) rfl ?_
  exact s_iret C 15 rfl rfl
theorem cMd_asWord {l : Launch} {G : GE} (htr : l.stackTraces = false) (hG : gH G = true) (σ : Sg) (M : Mm) (n : Nat) (x0 : Int32) : ∀ o, fMd_asWord x0 = some o → MetX l G yX12_asWord cX12_asWord 1 (some .int) 4 300 [.inl x0] (σ, M, n) ((eR rvI σ M n) o) :=
  c_ofX (by decide) kMd_asWord htr rfl rfl fun X _ _ C htab => wMd_asWord hG C htab x0

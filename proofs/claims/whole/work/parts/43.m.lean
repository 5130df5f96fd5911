def pMd_goes_0 : List BR := [(0, .iconst 0, 1, 0, 1), (1, .istore_n 3, 1, 0, 2), (2, .iload_n 3, 1, 0, 3), (3, .aload_n 0, 1, 0, 4), (4, .getfield 89, 3, 0, 7), (7, .iload_n 2, 1, 0, 8), (8, .iaload, 1, 0, 9), (9, .if_icmp .ge (34), 3, 0, 43), (12, .aload_n 0, 1, 0, 13), (13, .getfield 50, 3, 0, 16), (16, .bipush 90, 2, 90, 18), (18, .iload_n 1, 1, 0, 19), (19, .imul, 1, 0, 20), (20, .aload_n 0, 1, 0, 21), (21, .getfield 92, 3, 0, 24), (24, .bipush 20, 2, 20, 26), (26, .iload_n 2, 1, 0, 27), (27, .imul, 1, 0, 28), (28, .iload_n 3, 1, 0, 29), (29, .iadd, 1, 0, 30), (30, .iaload, 1, 0, 31), (31, .iadd, 1, 0, 32), (32, .dup2, 1, 0, 33), (33, .iaload, 1, 0, 34), (34, .iconst 1, 1, 1, 35), (35, .isub, 1, 0, 36), (36, .iastore, 1, 0, 37), (37, .iinc 3 (1), 3, 1, 40), (40, .goto (-38), 3, 0, 2), (43, .aload_n 0, 1, 0, 44), (44, .getfield 68, 3, 0, 47), (47, .iload_n 1, 1, 0, 48), (48, .dup2, 1, 0, 49), (49, .iaload, 1, 0, 50), (50, .iconst 1, 1, 1, 51), (51, .isub, 1, 0, 52), (52, .iastore, 1, 0, 53), (53, .iload_n 2, 1, 0, 54), (54, .istore_n 3, 1, 0, 55), (55, .iload_n 3, 1, 0, 56)]
theorem kMd_goes_0 : bOK cX12_goes 4 pMd_goes_0 = true := by decide +kernel
def pMd_goes_1 : List BR := [(56, .bipush 40, 2, 40, 58), (58, .iload_n 1, 1, 0, 59), (59, .imul, 1, 0, 60), (60, .aload_n 0, 1, 0, 61), (61, .getfield 68, 3, 0, 64), (64, .iload_n 1, 1, 0, 65), (65, .iaload, 1, 0, 66), (66, .iadd, 1, 0, 67), (67, .if_icmp .ge (17), 3, 0, 84), (70, .aload_n 0, 1, 0, 71), (71, .iload_n 3, 1, 0, 72), (72, .iconst 1, 1, 1, 73), (73, .iadd, 1, 0, 74), (74, .iload_n 3, 1, 0, 75), (75, .invokevirtual 206, 3, 0, 78), (78, .iinc 3 (1), 3, 1, 81), (81, .goto (-26), 3, 0, 55), (84, .return_, 1, 0, 85)]
theorem kMd_goes_1 : bOK cX12_goes 4 pMd_goes_1 = true := by decide +kernel
def pMd_goes : List BR := (pMd_goes_0 ++ pMd_goes_1)
theorem kMd_goes : bOK cX12_goes 4 pMd_goes = true := (bOK_app kMd_goes_0 kMd_goes_1)
def fMd_goes_b55 (k55 : Int32 → Int32 → Sg → Option (Unit × Sg)) (x1 : Int32) (x3 : Int32) (σ : Sg) : Option (Unit × Sg) :=
  mgA 26 x1 σ fun v1 =>
  if ((40 * x1) + v1) ≤ x3 then
    some ((), σ)
  else
    bdW (fMd_moves (x3 + 1) x3 σ) fun v2 σ3 =>
    k55 x1 (x3 + 1) σ3
theorem wMd_goes_b55 {X : MC} {G : GE} {n0 : Nat} (hG : gH G = true) (C : CX X G RX12 cX12_goes pMd_goes 4 none n0) (htab : ∀ z ∈ X.2.2.2.2.2.2.2.2.exceptionTable.toList, False) {M : Mm} {n : Nat} (k55 : Int32 → Int32 → Sg → Option (Unit × Sg)) (H55 : ∀ (x1 : Int32) (x3 : Int32) (σ : Sg), JS X G 4 300 0 n0 (EM X G n0 3 300 (eS rvU M n)) (k55 x1 x3 σ) (σ, M, n) 55 [(0, .inr (.inl (some (gM G)))), (1, .inl x1), (3, .inl x3)] []) (x1 : Int32) (x3 : Int32) (σ : Sg) : JS X G 4 300 0 n0 (EM X G n0 3 300 (eS rvU M n)) (fMd_goes_b55 k55 x1 x3 σ) (σ, M, n) 55 [(0, .inr (.inl (some (gM G)))), (1, .inl x1), (3, .inl x3)] [] := by
  unfold fMd_goes_b55
  refine s_blk C 39 5 [0, 1, 3] (pc' := 61) (lv' := [(0, .inr (.inl (some (gM G)))), (1, .inl x1), (3, .inl x3)]) (st' := [.inr (.inl (some (gM G))), .inl (40 * x1), .inl x3]) rfl ?_
  refine s_mR hG C 44 rfl 26 fl_X12_68 rfl ?_
  refine s_blk C 45 1 [0, 1, 3] (pc' := 65) (lv' := [(0, .inr (.inl (some (gM G)))), (1, .inl x1), (3, .inl x3)]) (st' := [.inl x1, .inr (.inl (some (gA G 26))), .inl (40 * x1), .inl x3]) rfl ?_
  refine s_mldI hG C 46 rfl rfl rfl (fun v1 => ?_)
  refine s_blk C 47 1 [0, 1, 3] (pc' := 67) (lv' := [(0, .inr (.inl (some (gM G)))), (1, .inl x1), (3, .inl x3)]) (st' := [.inl ((40 * x1) + v1), .inl x3]) rfl ?_
  refine s_icge C 48 rfl (fun _ => ?_) (fun _ => ?_)
  · exact s_vret C 57 rfl rfl
  refine s_blk C 49 5 [0, 1, 3] (pc' := 75) (lv' := [(0, .inr (.inl (some (gM G)))), (1, .inl x1), (3, .inl x3)]) (st' := [.inl x3, .inl (x3 + 1), .inr (.inl (some (gM G)))]) rfl ?_
  refine s_SU (CE_EM _ _ _ _ _ _) (st := []) (fun o ho => j_callV (As := [.inl (x3 + 1), .inl x3]) (st := []) (b := gM G) C 54 rfl mf_Md_moves ml_X12_206 rfl (recv_M hG C) (by decide) (by decide) (Nat.le_refl _) rfl (cMd_moves (CX_tr C) hG σ M n (x3 + 1) x3 o ho)) (fun v2 σ3 => ?_)
  refine s_blk C 55 2 [0, 1, 3] (pc' := 55) (lv' := [(0, .inr (.inl (some (gM G)))), (1, .inl x1), (3, .inl (x3 + 1))]) (st' := []) rfl ?_
  exact H55 _ _ _
def fMd_goes_l55 (fu : Nat) : Int32 → Int32 → Sg → Option (Unit × Sg) := Nat.rec (fun x1 x3 σ => none) (fun _ k => fMd_goes_b55 k) fu
theorem wMd_goes_l55 {X : MC} {G : GE} {n0 : Nat} (hG : gH G = true) (C : CX X G RX12 cX12_goes pMd_goes 4 none n0) (htab : ∀ z ∈ X.2.2.2.2.2.2.2.2.exceptionTable.toList, False) {M : Mm} {n : Nat} : ∀ (fu : Nat) (x1 : Int32) (x3 : Int32) (σ : Sg), JS X G 4 300 0 n0 (EM X G n0 3 300 (eS rvU M n)) (fMd_goes_l55 fu x1 x3 σ) (σ, M, n) 55 [(0, .inr (.inl (some (gM G)))), (1, .inl x1), (3, .inl x3)] [] := by
  intro fu
  induction fu with
  | zero => intro x1 x3 σ; exact s_none
  | succ fu ih => intro x1 x3 σ; exact wMd_goes_b55 hG C htab (fMd_goes_l55 fu) ih _ _ _
def fMd_goes_b2 (k2 : Int32 → Int32 → Int32 → Sg → Option (Unit × Sg)) (x1 : Int32) (x2 : Int32) (x3 : Int32) (σ : Sg) : Option (Unit × Sg) :=
  mgA 33 x2 σ fun v1 =>
  if v1 ≤ x3 then
    mgA 26 x1 σ fun v2 =>
    mpA 26 x1 (v2 - 1) σ fun σ3 =>
    fMd_goes_l55 FU x1 x2 σ3
  else
    mgA 34 ((20 * x2) + x3) σ fun v4 =>
    mgA 20 ((90 * x1) + v4) σ fun v5 =>
    mpA 20 ((90 * x1) + v4) (v5 - 1) σ fun σ6 =>
    k2 x1 x2 (x3 + 1) σ6
theorem wMd_goes_b2 {X : MC} {G : GE} {n0 : Nat} (hG : gH G = true) (C : CX X G RX12 cX12_goes pMd_goes 4 none n0) (htab : ∀ z ∈ X.2.2.2.2.2.2.2.2.exceptionTable.toList, False) {M : Mm} {n : Nat} (k2 : Int32 → Int32 → Int32 → Sg → Option (Unit × Sg)) (H2 : ∀ (x1 : Int32) (x2 : Int32) (x3 : Int32) (σ : Sg), JS X G 4 300 0 n0 (EM X G n0 3 300 (eS rvU M n)) (k2 x1 x2 x3 σ) (σ, M, n) 2 [(0, .inr (.inl (some (gM G)))), (1, .inl x1), (2, .inl x2), (3, .inl x3)] []) (x1 : Int32) (x2 : Int32) (x3 : Int32) (σ : Sg) : JS X G 4 300 0 n0 (EM X G n0 3 300 (eS rvU M n)) (fMd_goes_b2 k2 x1 x2 x3 σ) (σ, M, n) 2 [(0, .inr (.inl (some (gM G)))), (1, .inl x1), (2, .inl x2), (3, .inl x3)] [] := by
  unfold fMd_goes_b2
  refine s_blk C 2 2 [0, 1, 2, 3] (pc' := 4) (lv' := [(0, .inr (.inl (some (gM G)))), (1, .inl x1), (2, .inl x2), (3, .inl x3)]) (st' := [.inr (.inl (some (gM G))), .inl x3]) rfl ?_
  refine s_mR hG C 4 rfl 33 fl_X12_89 rfl ?_
  refine s_blk C 5 1 [0, 1, 2, 3] (pc' := 8) (lv' := [(0, .inr (.inl (some (gM G)))), (1, .inl x1), (2, .inl x2), (3, .inl x3)]) (st' := [.inl x2, .inr (.inl (some (gA G 33))), .inl x3]) rfl ?_
  refine s_mldI hG C 6 rfl rfl rfl (fun v1 => ?_)
  refine s_icge C 7 rfl (fun _ => ?_) (fun _ => ?_)
  · refine s_blk C 29 1 [0, 1, 2] (pc' := 44) (lv' := [(0, .inr (.inl (some (gM G)))), (1, .inl x1), (2, .inl x2)]) (st' := [.inr (.inl (some (gM G)))]) rfl ?_
    refine s_mR hG C 30 rfl 26 fl_X12_68 rfl ?_
    refine s_blk C 31 2 [0, 1, 2] (pc' := 49) (lv' := [(0, .inr (.inl (some (gM G)))), (1, .inl x1), (2, .inl x2)]) (st' := [.inl x1, .inr (.inl (some (gA G 26))), .inl x1, .inr (.inl (some (gA G 26)))]) rfl ?_
    refine s_mldI hG C 33 rfl rfl rfl (fun v2 => ?_)
    refine s_blk C 34 2 [0, 1, 2] (pc' := 52) (lv' := [(0, .inr (.inl (some (gM G)))), (1, .inl x1), (2, .inl x2)]) (st' := [.inl (v2 - 1), .inl x1, .inr (.inl (some (gA G 26)))]) rfl ?_
    refine s_mstI hG C 36 rfl rfl rfl (fun σ3 _ => ?_)
    refine s_blk C 37 2 [0, 1, 3] (pc' := 55) (lv' := [(0, .inr (.inl (some (gM G)))), (1, .inl x1), (3, .inl x2)]) (st' := []) rfl ?_
    exact wMd_goes_l55 hG C htab FU _ _ _
  refine s_blk C 8 1 [0, 1, 2, 3] (pc' := 13) (lv' := [(0, .inr (.inl (some (gM G)))), (1, .inl x1), (2, .inl x2), (3, .inl x3)]) (st' := [.inr (.inl (some (gM G)))]) rfl ?_
  refine s_mR hG C 9 rfl 20 fl_X12_50 rfl ?_
  refine s_blk C 10 4 [0, 1, 2, 3] (pc' := 21) (lv' := [(0, .inr (.inl (some (gM G)))), (1, .inl x1), (2, .inl x2), (3, .inl x3)]) (st' := [.inr (.inl (some (gM G))), .inl (90 * x1), .inr (.inl (some (gA G 20)))]) rfl ?_
  refine s_mR hG C 14 rfl 34 fl_X12_92 rfl ?_
  refine s_blk C 15 5 [0, 1, 2, 3] (pc' := 30) (lv' := [(0, .inr (.inl (some (gM G)))), (1, .inl x1), (2, .inl x2), (3, .inl x3)]) (st' := [.inl ((20 * x2) + x3), .inr (.inl (some (gA G 34))), .inl (90 * x1), .inr (.inl (some (gA G 20)))]) rfl ?_
  refine s_mldI hG C 20 rfl rfl rfl (fun v4 => ?_)
  refine s_blk C 21 2 [0, 1, 2, 3] (pc' := 33) (lv' := [(0, .inr (.inl (some (gM G)))), (1, .inl x1), (2, .inl x2), (3, .inl x3)]) (st' := [.inl ((90 * x1) + v4), .inr (.inl (some (gA G 20))), .inl ((90 * x1) + v4), .inr (.inl (some (gA G 20)))]) rfl ?_
  refine s_mldI hG C 23 rfl rfl rfl (fun v5 => ?_)
  refine s_blk C 24 2 [0, 1, 2, 3] (pc' := 36) (lv' := [(0, .inr (.inl (some (gM G)))), (1, .inl x1), (2, .inl x2), (3, .inl x3)]) (st' := [.inl (v5 - 1), .inl ((90 * x1) + v4), .inr (.inl (some (gA G 20)))]) rfl ?_
  refine s_mstI hG C 26 rfl rfl rfl (fun σ6 _ => ?_)
  refine s_blk C 27 2 [0, 1, 2, 3] (pc' := 2) (lv' := [(0, .inr (.inl (some (gM G)))), (1, .inl x1), (2, .inl x2), (3, .inl (x3 + 1))]) (st' := []) rfl ?_
  exact H2 _ _ _ _
def fMd_goes_l2 (fu : Nat) : Int32 → Int32 → Int32 → Sg → Option (Unit × Sg) := Nat.rec (fun x1 x2 x3 σ => none) (fun _ k => fMd_goes_b2 k) fu
theorem wMd_goes_l2 {X : MC} {G : GE} {n0 : Nat} (hG : gH G = true) (C : CX X G RX12 cX12_goes pMd_goes 4 none n0) (htab : ∀ z ∈ X.2.2.2.2.2.2.2.2.exceptionTable.toList, False) {M : Mm} {n : Nat} : ∀ (fu : Nat) (x1 : Int32) (x2 : Int32) (x3 : Int32) (σ : Sg), JS X G 4 300 0 n0 (EM X G n0 3 300 (eS rvU M n)) (fMd_goes_l2 fu x1 x2 x3 σ) (σ, M, n) 2 [(0, .inr (.inl (some (gM G)))), (1, .inl x1), (2, .inl x2), (3, .inl x3)] [] := by
  intro fu
  induction fu with
  | zero => intro x1 x2 x3 σ; exact s_none
  | succ fu ih => intro x1 x2 x3 σ; exact wMd_goes_b2 hG C htab (fMd_goes_l2 fu) ih _ _ _ _
def fMd_goes (x1 : Int32) (x2 : Int32) (σ : Sg) : Option (Unit × Sg) :=
  fMd_goes_l2 FU x1 x2 0 σ
theorem wMd_goes {X : MC} {G : GE} {n0 : Nat} (hG : gH G = true) (C : CX X G RX12 cX12_goes pMd_goes 4 none n0) (htab : ∀ z ∈ X.2.2.2.2.2.2.2.2.exceptionTable.toList, False) {M : Mm} {n : Nat} (x1 : Int32) (x2 : Int32) (σ : Sg) : JS X G 4 300 0 n0 (EM X G n0 3 300 (eS rvU M n)) (fMd_goes x1 x2 σ) (σ, M, n) 0 [(0, .inr (.inl (some (gM G)))), (1, .inl x1), (2, .inl x2)] [] := by
  unfold fMd_goes
  refine s_blk C 0 2 [0, 1, 2, 3] (pc' := 2) (lv' := [(0, .inr (.inl (some (gM G)))), (1, .inl x1), (2, .inl x2), (3, .inl 0)]) (st' := []) rfl ?_
  exact wMd_goes_l2 hG C htab FU _ _ _ _
theorem cMd_goes {l : Launch} {G : GE} (htr : l.stackTraces = false) (hG : gH G = true) (σ : Sg) (M : Mm) (n : Nat) (x1 : Int32) (x2 : Int32) : ∀ o, fMd_goes x1 x2 σ = some o → MetX l G yX12_goes cX12_goes 4 none 3 300 [.inr (.inl (some (gM G))), .inl x1, .inl x2] (σ, M, n) ((eS rvU M n) o) :=
  c_ofX (by decide) kMd_goes htr rfl rfl fun X _ _ C htab => wMd_goes hG C htab x1 x2 _
def pMd_ages_0 : List BR := [(0, .aload_n 0, 1, 0, 1), (1, .iload_n 1, 1, 0, 2), (2, .invokevirtual 219, 3, 0, 5), (5, .iconst 1, 1, 1, 6), (6, .isub, 1, 0, 7), (7, .istore_n 3, 1, 0, 8), (8, .iload_n 3, 1, 0, 9), (9, .bipush 40, 2, 40, 11), (11, .iload_n 1, 1, 0, 12), (12, .imul, 1, 0, 13), (13, .if_icmp .lt (133), 3, 0, 146), (16, .aload_n 0, 1, 0, 17), (17, .getfield 74, 3, 0, 20), (20, .iload_n 3, 1, 0, 21), (21, .iaload, 1, 0, 22), (22, .aload_n 0, 1, 0, 23), (23, .getfield 31, 3, 0, 26), (26, .iload_n 2, 1, 0, 27), (27, .iaload, 1, 0, 28), (28, .invokestatic 301, 3, 0, 31), (31, .ifCond .eq (109), 3, 0, 140), (34, .aload_n 0, 1, 0, 35), (35, .getfield 222, 3, 0, 38), (38, .aload_n 0, 1, 0, 39), (39, .getfield 77, 3, 0, 42), (42, .iload_n 3, 1, 0, 43), (43, .iaload, 1, 0, 44), (44, .isub, 1, 0, 45), (45, .aload_n 0, 1, 0, 46), (46, .getfield 34, 3, 0, 49), (49, .iload_n 2, 1, 0, 50), (50, .iaload, 1, 0, 51), (51, .if_icmp .lt (89), 3, 0, 140), (54, .aload_n 0, 1, 0, 55), (55, .getfield 37, 3, 0, 58), (58, .iload_n 2, 1, 0, 59), (59, .iaload, 1, 0, 60), (60, .istore 4, 2, 0, 62), (62, .iload 4, 2, 0, 64), (64, .iconst 3, 1, 3, 65)]
theorem kMd_ages_0 : bOK cX12_ages 5 pMd_ages_0 = true := by decide +kernel
def pMd_ages_1 : List BR := [(65, .if_icmp .ge (40), 3, 0, 105), (68, .aload_n 0, 1, 0, 69), (69, .iload_n 3, 1, 0, 70), (70, .invokevirtual 250, 3, 0, 73), (73, .ifCond .ne (32), 3, 0, 105), (76, .aload_n 0, 1, 0, 77), (77, .getfield 80, 3, 0, 80), (80, .iload_n 3, 1, 0, 81), (81, .iaload, 1, 0, 82), (82, .iload 4, 2, 0, 84), (84, .if_icmp .ge (21), 3, 0, 105), (87, .aload_n 0, 1, 0, 88), (88, .getfield 80, 3, 0, 91), (91, .iload_n 3, 1, 0, 92), (92, .iload 4, 2, 0, 94), (94, .iastore, 1, 0, 95), (95, .aload_n 0, 1, 0, 96), (96, .getfield 86, 3, 0, 99), (99, .iload_n 3, 1, 0, 100), (100, .iconst (-1), 1, -1, 101), (101, .iastore, 1, 0, 102), (102, .goto (38), 3, 0, 140), (105, .iload 4, 2, 0, 107), (107, .iconst 3, 1, 3, 108), (108, .if_icmp .ne (32), 3, 0, 140), (111, .aload_n 0, 1, 0, 112), (112, .iload_n 1, 1, 0, 113), (113, .aload_n 0, 1, 0, 114), (114, .getfield 74, 3, 0, 117), (117, .iload_n 3, 1, 0, 118), (118, .iaload, 1, 0, 119), (119, .invokevirtual 247, 3, 0, 122), (122, .iload_n 3, 1, 0, 123), (123, .if_icmp .eq (17), 3, 0, 140), (126, .aload_n 0, 1, 0, 127), (127, .iload_n 3, 1, 0, 128), (128, .invokevirtual 265, 3, 0, 131), (131, .ifCond .ne (9), 3, 0, 140), (134, .aload_n 0, 1, 0, 135), (135, .iload_n 1, 1, 0, 136)]
theorem kMd_ages_1 : bOK cX12_ages 5 pMd_ages_1 = true := by decide +kernel
def pMd_ages_2 : List BR := [(136, .iload_n 3, 1, 0, 137), (137, .invokevirtual 268, 3, 0, 140), (140, .iinc 3 (-1), 3, -1, 143), (143, .goto (-135), 3, 0, 8), (146, .return_, 1, 0, 147)]
theorem kMd_ages_2 : bOK cX12_ages 5 pMd_ages_2 = true := by decide +kernel
def pMd_ages : List BR := (pMd_ages_0 ++ (pMd_ages_1 ++ pMd_ages_2))
theorem kMd_ages : bOK cX12_ages 5 pMd_ages = true := (bOK_app kMd_ages_0 (bOK_app kMd_ages_1 kMd_ages_2))
def fMd_ages_j140 (k8 : Int32 → Int32 → Int32 → Sg → Option (Unit × Sg)) (x1 : Int32) (x2 : Int32) (x3 : Int32) (σ : Sg) : Option (Unit × Sg) :=
  k8 x1 x2 (x3 + (-1)) σ
theorem wMd_ages_j140 {X : MC} {G : GE} {n0 : Nat} (hG : gH G = true) (C : CX X G RX12 cX12_ages pMd_ages 5 none n0) (htab : ∀ z ∈ X.2.2.2.2.2.2.2.2.exceptionTable.toList, False) {M : Mm} {n : Nat} (k8 : Int32 → Int32 → Int32 → Sg → Option (Unit × Sg)) (H8 : ∀ (x1 : Int32) (x2 : Int32) (x3 : Int32) (σ : Sg), JS X G 5 300 0 n0 (EM X G n0 5 300 (eS rvU M n)) (k8 x1 x2 x3 σ) (σ, M, n) 8 [(0, .inr (.inl (some (gM G)))), (1, .inl x1), (2, .inl x2), (3, .inl x3)] []) (x1 : Int32) (x2 : Int32) (x3 : Int32) (σ : Sg) : JS X G 5 300 0 n0 (EM X G n0 5 300 (eS rvU M n)) (fMd_ages_j140 k8 x1 x2 x3 σ) (σ, M, n) 140 [(0, .inr (.inl (some (gM G)))), (1, .inl x1), (2, .inl x2), (3, .inl x3)] [] := by
  unfold fMd_ages_j140
  refine s_blk C 82 2 [0, 1, 2, 3] (pc' := 8) (lv' := [(0, .inr (.inl (some (gM G)))), (1, .inl x1), (2, .inl x2), (3, .inl (x3 + (-1)))]) (st' := []) rfl ?_
  exact H8 _ _ _ _
def fMd_ages_j105 (k8 : Int32 → Int32 → Int32 → Sg → Option (Unit × Sg)) (x1 : Int32) (x2 : Int32) (x3 : Int32) (x4 : Int32) (σ : Sg) : Option (Unit × Sg) :=
  if x4 = 3 then
    mgA 28 x3 σ fun v1 =>
    bdR (fMd_latest x1 v1 σ) fun v2 =>
    if v2 = x3 then
      fMd_ages_j140 k8 x1 x2 x3 σ
    else
      bdR (fMd_isLocked x3 σ) fun v3 =>
      if v3 = 0 then
        bdW (fMd_goes x1 x3 σ) fun v4 σ5 =>
        fMd_ages_j140 k8 x1 x2 x3 σ5
      else
        fMd_ages_j140 k8 x1 x2 x3 σ
  else
    fMd_ages_j140 k8 x1 x2 x3 σ
theorem wMd_ages_j105 {X : MC} {G : GE} {n0 : Nat} (hG : gH G = true) (C : CX X G RX12 cX12_ages pMd_ages 5 none n0) (htab : ∀ z ∈ X.2.2.2.2.2.2.2.2.exceptionTable.toList, False) {M : Mm} {n : Nat} (k8 : Int32 → Int32 → Int32 → Sg → Option (Unit × Sg)) (H8 : ∀ (x1 : Int32) (x2 : Int32) (x3 : Int32) (σ : Sg), JS X G 5 300 0 n0 (EM X G n0 5 300 (eS rvU M n)) (k8 x1 x2 x3 σ) (σ, M, n) 8 [(0, .inr (.inl (some (gM G)))), (1, .inl x1), (2, .inl x2), (3, .inl x3)] []) (x1 : Int32) (x2 : Int32) (x3 : Int32) (x4 : Int32) (σ : Sg) : JS X G 5 300 0 n0 (EM X G n0 5 300 (eS rvU M n)) (fMd_ages_j105 k8 x1 x2 x3 x4 σ) (σ, M, n) 105 [(0, .inr (.inl (some (gM G)))), (1, .inl x1), (2, .inl x2), (3, .inl x3), (4, .inl x4)] [] := by
  unfold fMd_ages_j105
  refine s_blk C 62 2 [0, 1, 2, 3] (pc' := 108) (lv' := [(0, .inr (.inl (some (gM G)))), (1, .inl x1), (2, .inl x2), (3, .inl x3)]) (st' := [.inl 3, .inl x4]) rfl ?_
  refine s_icne C 64 rfl (fun _ => ?_) (fun _ => ?_)
  · refine s_blk C 65 3 [0, 1, 2, 3] (pc' := 114) (lv' := [(0, .inr (.inl (some (gM G)))), (1, .inl x1), (2, .inl x2), (3, .inl x3)]) (st' := [.inr (.inl (some (gM G))), .inl x1, .inr (.inl (some (gM G)))]) rfl ?_
    refine s_mR hG C 68 rfl 28 fl_X12_74 rfl ?_
    refine s_blk C 69 1 [0, 1, 2, 3] (pc' := 118) (lv' := [(0, .inr (.inl (some (gM G)))), (1, .inl x1), (2, .inl x2), (3, .inl x3)]) (st' := [.inl x3, .inr (.inl (some (gA G 28))), .inl x1, .inr (.inl (some (gM G)))]) rfl ?_
    refine s_mldI hG C 70 rfl rfl rfl (fun v1 => ?_)
    refine s_RI (CE_EM _ _ _ _ _ _) (st := []) (fun o ho => j_callV (As := [.inl x1, .inl v1]) (st := []) (b := gM G) C 71 rfl mf_Md_latest ml_X12_247 rfl (recv_M hG C) (by decide) (by decide) (Nat.le_refl _) rfl (cMd_latest (CX_tr C) hG σ M n x1 v1 o ho)) (fun v2 => ?_)
    refine s_blk C 72 1 [0, 1, 2, 3] (pc' := 123) (lv' := [(0, .inr (.inl (some (gM G)))), (1, .inl x1), (2, .inl x2), (3, .inl x3)]) (st' := [.inl x3, .inl v2]) rfl ?_
    refine s_iceq C 73 rfl (fun _ => ?_) (fun _ => ?_)
    · exact wMd_ages_j140 hG C htab k8 H8 _ _ _ _
    refine s_blk C 74 2 [0, 1, 2, 3] (pc' := 128) (lv' := [(0, .inr (.inl (some (gM G)))), (1, .inl x1), (2, .inl x2), (3, .inl x3)]) (st' := [.inl x3, .inr (.inl (some (gM G)))]) rfl ?_
    refine s_RI (CE_EM _ _ _ _ _ _) (st := []) (fun o ho => j_callV (As := [.inl x3]) (st := []) (b := gM G) C 76 rfl mf_Md_isLocked ml_X12_265 rfl (recv_M hG C) (by decide) (by decide) (Nat.le_refl _) rfl (cMd_isLocked (CX_tr C) hG σ M n x3 o ho)) (fun v3 => ?_)
    refine s_ine C 77 rfl (fun _ => ?_) (fun _ => ?_)
    · refine s_blk C 78 3 [0, 1, 2, 3] (pc' := 137) (lv' := [(0, .inr (.inl (some (gM G)))), (1, .inl x1), (2, .inl x2), (3, .inl x3)]) (st' := [.inl x3, .inl x1, .inr (.inl (some (gM G)))]) rfl ?_
      refine s_SU (CE_EM _ _ _ _ _ _) (st := []) (fun o ho => j_callV (As := [.inl x1, .inl x3]) (st := []) (b := gM G) C 81 rfl mf_Md_goes ml_X12_268 rfl (recv_M hG C) (by decide) (by decide) (Nat.le_refl _) rfl (cMd_goes (CX_tr C) hG σ M n x1 x3 o ho)) (fun v4 σ5 => ?_)
      exact wMd_ages_j140 hG C htab k8 H8 _ _ _ _
    exact wMd_ages_j140 hG C htab k8 H8 _ _ _ _
  exact wMd_ages_j140 hG C htab k8 H8 _ _ _ _
def fMd_ages_b8 (k8 : Int32 → Int32 → Int32 → Sg → Option (Unit × Sg)) (x1 : Int32) (x2 : Int32) (x3 : Int32) (σ : Sg) : Option (Unit × Sg) :=
  if x3 < (40 * x1) then
    some ((), σ)
  else
    mgA 28 x3 σ fun v1 =>
    mgA 14 x2 σ fun v2 =>
    bdR (fMd_begins v1 v2) fun v3 =>
    if v3 = 0 then
      fMd_ages_j140 k8 x1 x2 x3 σ
    else
      mgF 11 σ fun v4 =>
      mgA 29 x3 σ fun v5 =>
      mgA 15 x2 σ fun v6 =>
      if (v4 - v5) < v6 then
        fMd_ages_j140 k8 x1 x2 x3 σ
      else
        mgA 16 x2 σ fun v7 =>
        if 3 ≤ v7 then
          fMd_ages_j105 k8 x1 x2 x3 v7 σ
        else
          bdR (fMd_isMark x3 σ) fun v8 =>
          if v8 = 0 then
            mgA 30 x3 σ fun v9 =>
            if v7 ≤ v9 then
              fMd_ages_j105 k8 x1 x2 x3 v7 σ
            else
              mpA 30 x3 v7 σ fun σ10 =>
              mpA 32 x3 (-1) σ10 fun σ11 =>
              fMd_ages_j140 k8 x1 x2 x3 σ11
          else
            fMd_ages_j105 k8 x1 x2 x3 v7 σ
theorem wMd_ages_b8 {X : MC} {G : GE} {n0 : Nat} (hG : gH G = true) (C : CX X G RX12 cX12_ages pMd_ages 5 none n0) (htab : ∀ z ∈ X.2.2.2.2.2.2.2.2.exceptionTable.toList, False) {M : Mm} {n : Nat} (k8 : Int32 → Int32 → Int32 → Sg → Option (Unit × Sg)) (H8 : ∀ (x1 : Int32) (x2 : Int32) (x3 : Int32) (σ : Sg), JS X G 5 300 0 n0 (EM X G n0 5 300 (eS rvU M n)) (k8 x1 x2 x3 σ) (σ, M, n) 8 [(0, .inr (.inl (some (gM G)))), (1, .inl x1), (2, .inl x2), (3, .inl x3)] []) (x1 : Int32) (x2 : Int32) (x3 : Int32) (σ : Sg) : JS X G 5 300 0 n0 (EM X G n0 5 300 (eS rvU M n)) (fMd_ages_b8 k8 x1 x2 x3 σ) (σ, M, n) 8 [(0, .inr (.inl (some (gM G)))), (1, .inl x1), (2, .inl x2), (3, .inl x3)] [] := by
  unfold fMd_ages_b8
  refine s_blk C 6 4 [0, 1, 2, 3] (pc' := 13) (lv' := [(0, .inr (.inl (some (gM G)))), (1, .inl x1), (2, .inl x2), (3, .inl x3)]) (st' := [.inl (40 * x1), .inl x3]) rfl ?_
  refine s_iclt C 10 rfl (fun _ => ?_) (fun _ => ?_)
  · exact s_vret C 84 rfl rfl
  refine s_blk C 11 1 [0, 1, 2, 3] (pc' := 17) (lv' := [(0, .inr (.inl (some (gM G)))), (1, .inl x1), (2, .inl x2), (3, .inl x3)]) (st' := [.inr (.inl (some (gM G)))]) rfl ?_
  refine s_mR hG C 12 rfl 28 fl_X12_74 rfl ?_
  refine s_blk C 13 1 [0, 1, 2, 3] (pc' := 21) (lv' := [(0, .inr (.inl (some (gM G)))), (1, .inl x1), (2, .inl x2), (3, .inl x3)]) (st' := [.inl x3, .inr (.inl (some (gA G 28)))]) rfl ?_
  refine s_mldI hG C 14 rfl rfl rfl (fun v1 => ?_)
  refine s_blk C 15 1 [0, 1, 2, 3] (pc' := 23) (lv' := [(0, .inr (.inl (some (gM G)))), (1, .inl x1), (2, .inl x2), (3, .inl x3)]) (st' := [.inr (.inl (some (gM G))), .inl v1]) rfl ?_
  refine s_mR hG C 16 rfl 14 fl_X12_31 rfl ?_
  refine s_blk C 17 1 [0, 1, 2, 3] (pc' := 27) (lv' := [(0, .inr (.inl (some (gM G)))), (1, .inl x1), (2, .inl x2), (3, .inl x3)]) (st' := [.inl x2, .inr (.inl (some (gA G 14))), .inl v1]) rfl ?_
  refine s_mldI hG C 18 rfl rfl rfl (fun v2 => ?_)
  refine s_RI (CE_EM _ _ _ _ _ _) (st := []) (fun o ho => j_callS (As := [.inl v1, .inl v2]) (st := []) C 19 rfl mf_Md_begins ml_X12_301 rfl (by decide) (by decide) (Nat.le_refl _) rfl (cMd_begins (CX_tr C) hG σ M n v1 v2 o ho)) (fun v3 => ?_)
  refine s_ieq C 20 rfl (fun _ => ?_) (fun _ => ?_)
  · exact wMd_ages_j140 hG C htab k8 H8 _ _ _ _
  refine s_blk C 21 1 [0, 1, 2, 3] (pc' := 35) (lv' := [(0, .inr (.inl (some (gM G)))), (1, .inl x1), (2, .inl x2), (3, .inl x3)]) (st' := [.inr (.inl (some (gM G)))]) rfl ?_
  refine s_mF hG C 22 rfl fl_X12_222 rfl (fun v4 => ?_)
  refine s_blk C 23 1 [0, 1, 2, 3] (pc' := 39) (lv' := [(0, .inr (.inl (some (gM G)))), (1, .inl x1), (2, .inl x2), (3, .inl x3)]) (st' := [.inr (.inl (some (gM G))), .inl v4]) rfl ?_
  refine s_mR hG C 24 rfl 29 fl_X12_77 rfl ?_
  refine s_blk C 25 1 [0, 1, 2, 3] (pc' := 43) (lv' := [(0, .inr (.inl (some (gM G)))), (1, .inl x1), (2, .inl x2), (3, .inl x3)]) (st' := [.inl x3, .inr (.inl (some (gA G 29))), .inl v4]) rfl ?_
  refine s_mldI hG C 26 rfl rfl rfl (fun v5 => ?_)
  refine s_blk C 27 2 [0, 1, 2, 3] (pc' := 46) (lv' := [(0, .inr (.inl (some (gM G)))), (1, .inl x1), (2, .inl x2), (3, .inl x3)]) (st' := [.inr (.inl (some (gM G))), .inl (v4 - v5)]) rfl ?_
  refine s_mR hG C 29 rfl 15 fl_X12_34 rfl ?_
  refine s_blk C 30 1 [0, 1, 2, 3] (pc' := 50) (lv' := [(0, .inr (.inl (some (gM G)))), (1, .inl x1), (2, .inl x2), (3, .inl x3)]) (st' := [.inl x2, .inr (.inl (some (gA G 15))), .inl (v4 - v5)]) rfl ?_
  refine s_mldI hG C 31 rfl rfl rfl (fun v6 => ?_)
  refine s_iclt C 32 rfl (fun _ => ?_) (fun _ => ?_)
  · exact wMd_ages_j140 hG C htab k8 H8 _ _ _ _
  refine s_blk C 33 1 [0, 1, 2, 3] (pc' := 55) (lv' := [(0, .inr (.inl (some (gM G)))), (1, .inl x1), (2, .inl x2), (3, .inl x3)]) (st' := [.inr (.inl (some (gM G)))]) rfl ?_
  refine s_mR hG C 34 rfl 16 fl_X12_37 rfl ?_
  refine s_blk C 35 1 [0, 1, 2, 3] (pc' := 59) (lv' := [(0, .inr (.inl (some (gM G)))), (1, .inl x1), (2, .inl x2), (3, .inl x3)]) (st' := [.inl x2, .inr (.inl (some (gA G 16)))]) rfl ?_
  refine s_mldI hG C 36 rfl rfl rfl (fun v7 => ?_)
  refine s_blk C 37 3 [0, 1, 2, 3, 4] (pc' := 65) (lv' := [(0, .inr (.inl (some (gM G)))), (1, .inl x1), (2, .inl x2), (3, .inl x3), (4, .inl v7)]) (st' := [.inl 3, .inl v7]) rfl ?_
  refine s_icge C 40 rfl (fun _ => ?_) (fun _ => ?_)
  · exact wMd_ages_j105 hG C htab k8 H8 _ _ _ _ _
  refine s_blk C 41 2 [0, 1, 2, 3, 4] (pc' := 70) (lv' := [(0, .inr (.inl (some (gM G)))), (1, .inl x1), (2, .inl x2), (3, .inl x3), (4, .inl v7)]) (st' := [.inl x3, .inr (.inl (some (gM G)))]) rfl ?_
  refine s_RI (CE_EM _ _ _ _ _ _) (st := []) (fun o ho => j_callV (As := [.inl x3]) (st := []) (b := gM G) C 43 rfl mf_Md_isMark ml_X12_250 rfl (recv_M hG C) (by decide) (by decide) (Nat.le_refl _) rfl (cMd_isMark (CX_tr C) hG σ M n x3 o ho)) (fun v8 => ?_)
  refine s_ine C 44 rfl (fun _ => ?_) (fun _ => ?_)
  · refine s_blk C 45 1 [0, 1, 2, 3, 4] (pc' := 77) (lv' := [(0, .inr (.inl (some (gM G)))), (1, .inl x1), (2, .inl x2), (3, .inl x3), (4, .inl v7)]) (st' := [.inr (.inl (some (gM G)))]) rfl ?_
    refine s_mR hG C 46 rfl 30 fl_X12_80 rfl ?_
    refine s_blk C 47 1 [0, 1, 2, 3, 4] (pc' := 81) (lv' := [(0, .inr (.inl (some (gM G)))), (1, .inl x1), (2, .inl x2), (3, .inl x3), (4, .inl v7)]) (st' := [.inl x3, .inr (.inl (some (gA G 30)))]) rfl ?_
    refine s_mldI hG C 48 rfl rfl rfl (fun v9 => ?_)
    refine s_blk C 49 1 [0, 1, 2, 3, 4] (pc' := 84) (lv' := [(0, .inr (.inl (some (gM G)))), (1, .inl x1), (2, .inl x2), (3, .inl x3), (4, .inl v7)]) (st' := [.inl v7, .inl v9]) rfl ?_
    refine s_icge C 50 rfl (fun _ => ?_) (fun _ => ?_)
    · exact wMd_ages_j105 hG C htab k8 H8 _ _ _ _ _
    refine s_blk C 51 1 [0, 1, 2, 3, 4] (pc' := 88) (lv' := [(0, .inr (.inl (some (gM G)))), (1, .inl x1), (2, .inl x2), (3, .inl x3), (4, .inl v7)]) (st' := [.inr (.inl (some (gM G)))]) rfl ?_
    refine s_mR hG C 52 rfl 30 fl_X12_80 rfl ?_
    refine s_blk C 53 2 [0, 1, 2, 3] (pc' := 94) (lv' := [(0, .inr (.inl (some (gM G)))), (1, .inl x1), (2, .inl x2), (3, .inl x3)]) (st' := [.inl v7, .inl x3, .inr (.inl (some (gA G 30)))]) rfl ?_
    refine s_mstI hG C 55 rfl rfl rfl (fun σ10 _ => ?_)
    refine s_blk C 56 1 [0, 1, 2, 3] (pc' := 96) (lv' := [(0, .inr (.inl (some (gM G)))), (1, .inl x1), (2, .inl x2), (3, .inl x3)]) (st' := [.inr (.inl (some (gM G)))]) rfl ?_
    refine s_mR hG C 57 rfl 32 fl_X12_86 rfl ?_
    refine s_blk C 58 2 [0, 1, 2, 3] (pc' := 101) (lv' := [(0, .inr (.inl (some (gM G)))), (1, .inl x1), (2, .inl x2), (3, .inl x3)]) (st' := [.inl (-1), .inl x3, .inr (.inl (some (gA G 32)))]) rfl ?_
    refine s_mstI hG C 60 rfl rfl rfl (fun σ11 _ => ?_)
    refine s_blk C 61 1 [0, 1, 2, 3] (pc' := 140) (lv' := [(0, .inr (.inl (some (gM G)))), (1, .inl x1), (2, .inl x2), (3, .inl x3)]) (st' := []) rfl ?_
    exact wMd_ages_j140 hG C htab k8 H8 _ _ _ _
  exact wMd_ages_j105 hG C htab k8 H8 _ _ _ _ _
def fMd_ages_l8 (fu : Nat) : Int32 → Int32 → Int32 → Sg → Option (Unit × Sg) := Nat.rec (fun x1 x2 x3 σ => none) (fun _ k => fMd_ages_b8 k) fu
theorem wMd_ages_l8 {X : MC} {G : GE} {n0 : Nat} (hG : gH G = true) (C : CX X G RX12 cX12_ages pMd_ages 5 none n0) (htab : ∀ z ∈ X.2.2.2.2.2.2.2.2.exceptionTable.toList, False) {M : Mm} {n : Nat} : ∀ (fu : Nat) (x1 : Int32) (x2 : Int32) (x3 : Int32) (σ : Sg), JS X G 5 300 0 n0 (EM X G n0 5 300 (eS rvU M n)) (fMd_ages_l8 fu x1 x2 x3 σ) (σ, M, n) 8 [(0, .inr (.inl (some (gM G)))), (1, .inl x1), (2, .inl x2), (3, .inl x3)] [] := by
  intro fu
  induction fu with
  | zero => intro x1 x2 x3 σ; exact s_none
  | succ fu ih => intro x1 x2 x3 σ; exact wMd_ages_b8 hG C htab (fMd_ages_l8 fu) ih _ _ _ _
def fMd_ages (x1 : Int32) (x2 : Int32) (σ : Sg) : Option (Unit × Sg) :=
  bdR (fMd_endOf x1 σ) fun v1 =>
  fMd_ages_l8 FU x1 x2 (v1 - 1) σ
theorem wMd_ages {X : MC} {G : GE} {n0 : Nat} (hG : gH G = true) (C : CX X G RX12 cX12_ages pMd_ages 5 none n0) (htab : ∀ z ∈ X.2.2.2.2.2.2.2.2.exceptionTable.toList, False) {M : Mm} {n : Nat} (x1 : Int32) (x2 : Int32) (σ : Sg) : JS X G 5 300 0 n0 (EM X G n0 5 300 (eS rvU M n)) (fMd_ages x1 x2 σ) (σ, M, n) 0 [(0, .inr (.inl (some (gM G)))), (1, .inl x1), (2, .inl x2)] [] := by
  unfold fMd_ages
  refine s_blk C 0 2 [0, 1, 2] (pc' := 2) (lv' := [(0, .inr (.inl (some (gM G)))), (1, .inl x1), (2, .inl x2)]) (st' := [.inl x1, .inr (.inl (some (gM G)))]) rfl ?_
  refine s_RI (CE_EM _ _ _ _ _ _) (st := []) (fun o ho => j_callV (As := [.inl x1]) (st := []) (b := gM G) C 2 rfl mf_Md_endOf ml_X12_219 rfl (recv_M hG C) (by decide) (by decide) (Nat.le_refl _) rfl (cMd_endOf (CX_tr C) hG σ M n x1 o ho)) (fun v1 => ?_)
  refine s_blk C 3 3 [0, 1, 2, 3] (pc' := 8) (lv' := [(0, .inr (.inl (some (gM G)))), (1, .inl x1), (2, .inl x2), (3, .inl (v1 - 1))]) (st' := []) rfl ?_
  exact wMd_ages_l8 hG C htab FU _ _ _ _
theorem cMd_ages {l : Launch} {G : GE} (htr : l.stackTraces = false) (hG : gH G = true) (σ : Sg) (M : Mm) (n : Nat) (x1 : Int32) (x2 : Int32) : ∀ o, fMd_ages x1 x2 σ = some o → MetX l G yX12_ages cX12_ages 5 none 5 300 [.inr (.inl (some (gM G))), .inl x1, .inl x2] (σ, M, n) ((eS rvU M n) o) :=
  c_ofX (by decide) kMd_ages htr rfl rfl fun X _ _ C htab => wMd_ages hG C htab x1 x2 _
def pMd_isGood : List BR := [(0, .aload_n 0, 1, 0, 1), (1, .getfield 59, 3, 0, 4), (4, .iconst 5, 1, 5, 5), (5, .iload_n 1, 1, 0, 6), (6, .imul, 1, 0, 7), (7, .iload_n 2, 1, 0, 8), (8, .iadd, 1, 0, 9), (9, .iaload, 1, 0, 10), (10, .iconst (-1), 1, -1, 11), (11, .if_icmp .eq (20), 3, 0, 31), (14, .aload_n 0, 1, 0, 15), (15, .getfield 65, 3, 0, 18), (18, .iconst 5, 1, 5, 19), (19, .iload_n 1, 1, 0, 20), (20, .imul, 1, 0, 21), (21, .iload_n 2, 1, 0, 22), (22, .iadd, 1, 0, 23), (23, .baload, 1, 0, 24), (24, .ifCond .ne (7), 3, 0, 31), (27, .iconst 1, 1, 1, 28), (28, .goto (4), 3, 0, 32), (31, .iconst 0, 1, 0, 32), (32, .ireturn, 1, 0, 33)]
theorem kMd_isGood : bOK cX12_isGood 3 pMd_isGood = true := by decide +kernel
def fMd_isGood (x1 : Int32) (x2 : Int32) (σ : Sg) : Option (Int32) :=
  mgA 23 ((5 * x1) + x2) σ fun v1 =>
  if v1 = (-1) then
    rZ 0 (some 0)
  else
    mgA 25 ((5 * x1) + x2) σ fun v2 =>
    if v2 = 0 then
      rZ 1 (some 1)
    else
      rZ 0 (some 0)
theorem wMd_isGood {X : MC} {G : GE} {n0 : Nat} (hG : gH G = true) (C : CX X G RX12 cX12_isGood pMd_isGood 3 (some .boolean) n0) (htab : ∀ z ∈ X.2.2.2.2.2.2.2.2.exceptionTable.toList, False) {σ : Sg} {M : Mm} {n : Nat} (x1 : Int32) (x2 : Int32) : JS X G 3 300 0 n0 (EM X G n0 2 300 (eR rvI σ M n)) (fMd_isGood x1 x2 σ) (σ, M, n) 0 [(0, .inr (.inl (some (gM G)))), (1, .inl x1), (2, .inl x2)] [] := by
  unfold fMd_isGood
  refine s_blk C 0 1 [0, 1, 2] (pc' := 1) (lv' := [(0, .inr (.inl (some (gM G)))), (1, .inl x1), (2, .inl x2)]) (st' := [.inr (.inl (some (gM G)))]) rfl ?_
  refine s_mR hG C 1 rfl 23 fl_X12_59 rfl ?_
  refine s_blk C 2 5 [0, 1, 2] (pc' := 9) (lv' := [(0, .inr (.inl (some (gM G)))), (1, .inl x1), (2, .inl x2)]) (st' := [.inl ((5 * x1) + x2), .inr (.inl (some (gA G 23)))]) rfl ?_
  refine s_mldI hG C 7 rfl rfl rfl (fun v1 => ?_)
  refine s_blk C 8 1 [0, 1, 2] (pc' := 11) (lv' := [(0, .inr (.inl (some (gM G)))), (1, .inl x1), (2, .inl x2)]) (st' := [.inl (-1), .inl v1]) rfl ?_
  refine s_iceq C 9 rfl (fun _ => ?_) (fun _ => ?_)
  · refine s_blk C 21 1 [] (pc' := 32) (lv' := []) (st' := [.inl 0]) rfl ?_
    exact s_zret C 22 rfl rfl
  refine s_blk C 10 1 [1, 2] (pc' := 15) (lv' := [(1, .inl x1), (2, .inl x2)]) (st' := [.inr (.inl (some (gM G)))]) rfl ?_
  refine s_mR hG C 11 rfl 25 fl_X12_65 rfl ?_
  refine s_blk C 12 5 [] (pc' := 23) (lv' := []) (st' := [.inl ((5 * x1) + x2), .inr (.inl (some (gA G 25)))]) rfl ?_
  refine s_mldZ hG C 17 rfl rfl rfl (fun v2 => ?_)
  refine s_ine C 18 rfl (fun _ => ?_) (fun _ => ?_)
  · refine s_blk C 19 2 [] (pc' := 32) (lv' := []) (st' := [.inl 1]) rfl ?_
    exact s_zret C 22 rfl rfl
  refine s_blk C 21 1 [] (pc' := 32) (lv' := []) (st' := [.inl 0]) rfl ?_
  exact s_zret C 22 rfl rfl
theorem cMd_isGood {l : Launch} {G : GE} (htr : l.stackTraces = false) (hG : gH G = true) (σ : Sg) (M : Mm) (n : Nat) (x1 : Int32) (x2 : Int32) : ∀ o, fMd_isGood x1 x2 σ = some o → MetX l G yX12_isGood cX12_isGood 3 (some .boolean) 2 300 [.inr (.inl (some (gM G))), .inl x1, .inl x2] (σ, M, n) ((eR rvI σ M n) o) :=
  c_ofX (by decide) kMd_isGood htr rfl rfl fun X _ _ C htab => wMd_isGood hG C htab x1 x2
def pMd_goodMany : List BR := [(0, .iconst 0, 1, 0, 1), (1, .istore_n 2, 1, 0, 2), (2, .iconst 0, 1, 0, 3), (3, .istore_n 3, 1, 0, 4), (4, .iload_n 3, 1, 0, 5), (5, .iconst 5, 1, 5, 6), (6, .if_icmp .ge (26), 3, 0, 32), (9, .iload_n 2, 1, 0, 10), (10, .aload_n 0, 1, 0, 11), (11, .iload_n 1, 1, 0, 12), (12, .iload_n 3, 1, 0, 13), (13, .invokevirtual 196, 3, 0, 16), (16, .ifCond .eq (7), 3, 0, 23), (19, .iconst 1, 1, 1, 20), (20, .goto (4), 3, 0, 24), (23, .iconst 0, 1, 0, 24), (24, .iadd, 1, 0, 25), (25, .istore_n 2, 1, 0, 26), (26, .iinc 3 (1), 3, 1, 29), (29, .goto (-25), 3, 0, 4), (32, .iload_n 2, 1, 0, 33), (33, .ireturn, 1, 0, 34)]
theorem kMd_goodMany : bOK cX12_goodMany 4 pMd_goodMany = true := by decide +kernel
def fMd_goodMany_j24 (k4 : Int32 → Int32 → Int32 → Sg → Option (Int32)) (x1 : Int32) (x3 : Int32) (s0 : Int32) (s1 : Int32) (σ : Sg) : Option (Int32) :=
  k4 x1 (s1 + s0) (x3 + 1) σ
theorem wMd_goodMany_j24 {X : MC} {G : GE} {n0 : Nat} (hG : gH G = true) (C : CX X G RX12 cX12_goodMany pMd_goodMany 4 (some .int) n0) (htab : ∀ z ∈ X.2.2.2.2.2.2.2.2.exceptionTable.toList, False) {σ : Sg} {M : Mm} {n : Nat} (k4 : Int32 → Int32 → Int32 → Sg → Option (Int32)) (H4 : ∀ (x1 : Int32) (x2 : Int32) (x3 : Int32), JS X G 4 300 0 n0 (EM X G n0 3 300 (eR rvI σ M n)) (k4 x1 x2 x3 σ) (σ, M, n) 4 [(0, .inr (.inl (some (gM G)))), (1, .inl x1), (2, .inl x2), (3, .inl x3)] []) (x1 : Int32) (x3 : Int32) (s0 : Int32) (s1 : Int32) : JS X G 4 300 0 n0 (EM X G n0 3 300 (eR rvI σ M n)) (fMd_goodMany_j24 k4 x1 x3 s0 s1 σ) (σ, M, n) 24 [(0, .inr (.inl (some (gM G)))), (1, .inl x1), (3, .inl x3)] [.inl s0, .inl s1] := by
  unfold fMd_goodMany_j24
  refine s_blk C 16 4 [0, 1, 2, 3] (pc' := 4) (lv' := [(0, .inr (.inl (some (gM G)))), (1, .inl x1), (2, .inl (s1 + s0)), (3, .inl (x3 + 1))]) (st' := []) rfl ?_
  exact H4 _ _ _
def fMd_goodMany_b4 (k4 : Int32 → Int32 → Int32 → Sg → Option (Int32)) (x1 : Int32) (x2 : Int32) (x3 : Int32) (σ : Sg) : Option (Int32) :=
  if 5 ≤ x3 then
    some x2
  else
    bdR (fMd_isGood x1 x3 σ) fun v1 =>
    if v1 = 0 then
      fMd_goodMany_j24 k4 x1 x3 0 x2 σ
    else
      fMd_goodMany_j24 k4 x1 x3 1 x2 σ
theorem wMd_goodMany_b4 {X : MC} {G : GE} {n0 : Nat} (hG : gH G = true) (C : CX X G RX12 cX12_goodMany pMd_goodMany 4 (some .int) n0) (htab : ∀ z ∈ X.2.2.2.2.2.2.2.2.exceptionTable.toList, False) {σ : Sg} {M : Mm} {n : Nat} (k4 : Int32 → Int32 → Int32 → Sg → Option (Int32)) (H4 : ∀ (x1 : Int32) (x2 : Int32) (x3 : Int32), JS X G 4 300 0 n0 (EM X G n0 3 300 (eR rvI σ M n)) (k4 x1 x2 x3 σ) (σ, M, n) 4 [(0, .inr (.inl (some (gM G)))), (1, .inl x1), (2, .inl x2), (3, .inl x3)] []) (x1 : Int32) (x2 : Int32) (x3 : Int32) : JS X G 4 300 0 n0 (EM X G n0 3 300 (eR rvI σ M n)) (fMd_goodMany_b4 k4 x1 x2 x3 σ) (σ, M, n) 4 [(0, .inr (.inl (some (gM G)))), (1, .inl x1), (2, .inl x2), (3, .inl x3)] [] := by
  unfold fMd_goodMany_b4
  refine s_blk C 4 2 [0, 1, 2, 3] (pc' := 6) (lv' := [(0, .inr (.inl (some (gM G)))), (1, .inl x1), (2, .inl x2), (3, .inl x3)]) (st' := [.inl 5, .inl x3]) rfl ?_
  refine s_icge C 6 rfl (fun _ => ?_) (fun _ => ?_)
  · refine s_blk C 20 1 [] (pc' := 33) (lv' := []) (st' := [.inl x2]) rfl ?_
    exact s_iret C 21 rfl rfl
  refine s_blk C 7 4 [0, 1, 3] (pc' := 13) (lv' := [(0, .inr (.inl (some (gM G)))), (1, .inl x1), (3, .inl x3)]) (st' := [.inl x3, .inl x1, .inr (.inl (some (gM G))), .inl x2]) rfl ?_
  refine s_RI (CE_EM _ _ _ _ _ _) (st := [.inl x2]) (fun o ho => j_callV (As := [.inl x1, .inl x3]) (st := [.inl x2]) (b := gM G) C 11 rfl mf_Md_isGood ml_X12_196 rfl (recv_M hG C) (by decide) (by decide) (Nat.le_refl _) rfl (cMd_isGood (CX_tr C) hG σ M n x1 x3 o ho)) (fun v1 => ?_)
  refine s_ieq C 12 rfl (fun _ => ?_) (fun _ => ?_)
  · refine s_blk C 15 1 [0, 1, 3] (pc' := 24) (lv' := [(0, .inr (.inl (some (gM G)))), (1, .inl x1), (3, .inl x3)]) (st' := [.inl 0, .inl x2]) rfl ?_
    exact wMd_goodMany_j24 hG C htab k4 H4 _ _ _ _
  refine s_blk C 13 2 [0, 1, 3] (pc' := 24) (lv' := [(0, .inr (.inl (some (gM G)))), (1, .inl x1), (3, .inl x3)]) (st' := [.inl 1, .inl x2]) rfl ?_
  exact wMd_goodMany_j24 hG C htab k4 H4 _ _ _ _
def fMd_goodMany_l4 (fu : Nat) : Int32 → Int32 → Int32 → Sg → Option (Int32) := Nat.rec (fun x1 x2 x3 σ => none) (fun _ k => fMd_goodMany_b4 k) fu
theorem wMd_goodMany_l4 {X : MC} {G : GE} {n0 : Nat} (hG : gH G = true) (C : CX X G RX12 cX12_goodMany pMd_goodMany 4 (some .int) n0) (htab : ∀ z ∈ X.2.2.2.2.2.2.2.2.exceptionTable.toList, False) {σ : Sg} {M : Mm} {n : Nat} : ∀ (fu : Nat) (x1 : Int32) (x2 : Int32) (x3 : Int32), JS X G 4 300 0 n0 (EM X G n0 3 300 (eR rvI σ M n)) (fMd_goodMany_l4 fu x1 x2 x3 σ) (σ, M, n) 4 [(0, .inr (.inl (some (gM G)))), (1, .inl x1), (2, .inl x2), (3, .inl x3)] [] := by
  intro fu
  induction fu with
  | zero => intro x1 x2 x3; exact s_none
  | succ fu ih => intro x1 x2 x3; exact wMd_goodMany_b4 hG C htab (fMd_goodMany_l4 fu) ih _ _ _
def fMd_goodMany (x1 : Int32) (σ : Sg) : Option (Int32) :=
  fMd_goodMany_l4 FU x1 0 0 σ
theorem wMd_goodMany {X : MC} {G : GE} {n0 : Nat} (hG : gH G = true) (C : CX X G RX12 cX12_goodMany pMd_goodMany 4 (some .int) n0) (htab : ∀ z ∈ X.2.2.2.2.2.2.2.2.exceptionTable.toList, False) {σ : Sg} {M : Mm} {n : Nat} (x1 : Int32) : JS X G 4 300 0 n0 (EM X G n0 3 300 (eR rvI σ M n)) (fMd_goodMany x1 σ) (σ, M, n) 0 [(0, .inr (.inl (some (gM G)))), (1, .inl x1)] [] := by
  unfold fMd_goodMany
  refine s_blk C 0 4 [0, 1, 2, 3] (pc' := 4) (lv' := [(0, .inr (.inl (some (gM G)))), (1, .inl x1), (2, .inl 0), (3, .inl 0)]) (st' := []) rfl ?_
  exact wMd_goodMany_l4 hG C htab FU _ _ _
theorem cMd_goodMany {l : Launch} {G : GE} (htr : l.stackTraces = false) (hG : gH G = true) (σ : Sg) (M : Mm) (n : Nat) (x1 : Int32) : ∀ o, fMd_goodMany x1 σ = some o → MetX l G yX12_goodMany cX12_goodMany 4 (some .int) 3 300 [.inr (.inl (some (gM G))), .inl x1] (σ, M, n) ((eR rvI σ M n) o) :=
  c_ofX (by decide) kMd_goodMany htr rfl rfl fun X _ _ C htab => wMd_goodMany hG C htab x1
def pMd_weight : List BR := [(0, .iload_n 0, 1, 0, 1), (1, .iconst 3, 1, 3, 2), (2, .if_icmp .ge (16), 3, 0, 18), (5, .iload_n 0, 1, 0, 6), (6, .iload_n 1, 1, 0, 7), (7, .if_icmp .ne (7), 3, 0, 14), (10, .iconst 1, 1, 1, 11), (11, .goto (19), 3, 0, 30), (14, .iconst 0, 1, 0, 15), (15, .goto (15), 3, 0, 30), (18, .iload_n 0, 1, 0, 19), (19, .iconst 3, 1, 3, 20), (20, .if_icmp .ne (7), 3, 0, 27), (23, .iconst 1, 1, 1, 24), (24, .goto (6), 3, 0, 30), (27, .iconst 1, 1, 1, 28), (28, .iload_n 1, 1, 0, 29), (29, .ishl, 1, 0, 30), (30, .ireturn, 1, 0, 31)]
theorem kMd_weight : bOK cX12_weight 2 pMd_weight = true := by decide +kernel
def fMd_weight (x0 : Int32) (x1 : Int32) : Option (Int32) :=
  if 3 ≤ x0 then
    if x0 = 3 then
      some 1
    else
      some (1 <<< (x1 &&& 31))
  else
    if x0 = x1 then
      some 1
    else
      some 0
theorem wMd_weight {X : MC} {G : GE} {n0 : Nat} (hG : gH G = true) (C : CX X G RX12 cX12_weight pMd_weight 2 (some .int) n0) (htab : ∀ z ∈ X.2.2.2.2.2.2.2.2.exceptionTable.toList, False) {σ : Sg} {M : Mm} {n : Nat} (x0 : Int32) (x1 : Int32) : JS X G 2 300 0 n0 (EM X G n0 2 300 (eR rvI σ M n)) (fMd_weight x0 x1) (σ, M, n) 0 [(0, .inl x0), (1, .inl x1)] [] := by
  unfold fMd_weight
  refine s_blk C 0 2 [0, 1] (pc' := 2) (lv' := [(0, .inl x0), (1, .inl x1)]) (st' := [.inl 3, .inl x0]) rfl ?_
  refine s_icge C 2 rfl (fun _ => ?_) (fun _ => ?_)
  · refine s_blk C 10 2 [1] (pc' := 20) (lv' := [(1, .inl x1)]) (st' := [.inl 3, .inl x0]) rfl ?_
    refine s_icne C 12 rfl (fun _ => ?_) (fun _ => ?_)
    · refine s_blk C 13 2 [] (pc' := 30) (lv' := []) (st' := [.inl 1]) rfl ?_
      exact s_iret C 18 rfl rfl
    refine s_blk C 15 3 [] (pc' := 30) (lv' := []) (st' := [.inl (1 <<< (x1 &&& 31))]) rfl ?_
    exact s_iret C 18 rfl rfl
  refine s_blk C 3 2 [] (pc' := 7) (lv' := []) (st' := [.inl x1, .inl x0]) rfl ?_
  refine s_icne C 5 rfl (fun _ => ?_) (fun _ => ?_)
  · refine s_blk C 6 2 [] (pc' := 30) (lv' := []) (st' := [.inl 1]) rfl ?_
    exact s_iret C 18 rfl rfl
  refine s_blk C 8 2 [] (pc' := 30) (lv' := []) (st' := [.inl 0]) rfl ?_
  exact s_iret C 18 rfl rfl
theorem cMd_weight {l : Launch} {G : GE} (htr : l.stackTraces = false) (hG : gH G = true) (σ : Sg) (M : Mm) (n : Nat) (x0 : Int32) (x1 : Int32) : ∀ o, fMd_weight x0 x1 = some o → MetX l G yX12_weight cX12_weight 2 (some .int) 2 300 [.inl x0, .inl x1] (σ, M, n) ((eR rvI σ M n) o) :=
  c_ofX (by decide) kMd_weight htr rfl rfl fun X _ _ C htab => wMd_weight hG C htab x0 x1

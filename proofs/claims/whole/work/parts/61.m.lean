def pMd_pieced : List BR := [(0, .iconst 0, 1, 0, 1), (1, .istore_n 2, 1, 0, 2), (2, .iconst 0, 1, 0, 3), (3, .istore_n 3, 1, 0, 4), (4, .iload_n 3, 1, 0, 5), (5, .bipush 9, 2, 9, 7), (7, .if_icmp .ge (23), 3, 0, 30), (10, .iload_n 2, 1, 0, 11), (11, .aload_n 0, 1, 0, 12), (12, .getfield 119, 3, 0, 15), (15, .bipush 9, 2, 9, 17), (17, .iload_n 1, 1, 0, 18), (18, .imul, 1, 0, 19), (19, .iload_n 3, 1, 0, 20), (20, .iadd, 1, 0, 21), (21, .iaload, 1, 0, 22), (22, .iadd, 1, 0, 23), (23, .istore_n 2, 1, 0, 24), (24, .iinc 3 (1), 3, 1, 27), (27, .goto (-23), 3, 0, 4), (30, .iload_n 2, 1, 0, 31), (31, .ireturn, 1, 0, 32)]
theorem kMd_pieced : bOK cX12_pieced 4 pMd_pieced = true := by decide +kernel
def fMd_pieced_b4 (k4 : Int32 → Int32 → Int32 → Sg → Option (Int32)) (x1 : Int32) (x2 : Int32) (x3 : Int32) (σ : Sg) : Option (Int32) :=
  if 9 ≤ x3 then
    some x2
  else
    mgA 44 ((9 * x1) + x3) σ fun v1 =>
    k4 x1 (x2 + v1) (x3 + 1) σ
theorem wMd_pieced_b4 {X : MC} {G : GE} {n0 : Nat} (hG : gH G = true) (C : CX X G RX12 cX12_pieced pMd_pieced 4 (some .int) n0) (htab : ∀ z ∈ X.2.2.2.2.2.2.2.2.exceptionTable.toList, False) {σ : Sg} {M : Mm} {n : Nat} (k4 : Int32 → Int32 → Int32 → Sg → Option (Int32)) (H4 : ∀ (x1 : Int32) (x2 : Int32) (x3 : Int32), JS X G 4 300 0 n0 (EM X G n0 2 300 (eR rvI σ M n)) (k4 x1 x2 x3 σ) (σ, M, n) 4 [(0, .inr (.inl (some (gM G)))), (1, .inl x1), (2, .inl x2), (3, .inl x3)] []) (x1 : Int32) (x2 : Int32) (x3 : Int32) : JS X G 4 300 0 n0 (EM X G n0 2 300 (eR rvI σ M n)) (fMd_pieced_b4 k4 x1 x2 x3 σ) (σ, M, n) 4 [(0, .inr (.inl (some (gM G)))), (1, .inl x1), (2, .inl x2), (3, .inl x3)] [] := by
  unfold fMd_pieced_b4
  refine s_blk C 4 2 [0, 1, 2, 3] (pc' := 7) (lv' := [(0, .inr (.inl (some (gM G)))), (1, .inl x1), (2, .inl x2), (3, .inl x3)]) (st' := [.inl 9, .inl x3]) rfl ?_
  refine s_icge C 6 rfl (fun _ => ?_) (fun _ => ?_)
  · refine s_blk C 20 1 [] (pc' := 31) (lv' := []) (st' := [.inl x2]) rfl ?_
    exact s_iret C 21 rfl rfl
  refine s_blk C 7 2 [0, 1, 3] (pc' := 12) (lv' := [(0, .inr (.inl (some (gM G)))), (1, .inl x1), (3, .inl x3)]) (st' := [.inr (.inl (some (gM G))), .inl x2]) rfl ?_
  refine s_mR hG C 9 rfl 44 fl_X12_119 rfl ?_
  refine s_blk C 10 5 [0, 1, 3] (pc' := 21) (lv' := [(0, .inr (.inl (some (gM G)))), (1, .inl x1), (3, .inl x3)]) (st' := [.inl ((9 * x1) + x3), .inr (.inl (some (gA G 44))), .inl x2]) rfl ?_
  refine s_mldI hG C 15 rfl rfl rfl (fun v1 => ?_)
  refine s_blk C 16 4 [0, 1, 2, 3] (pc' := 4) (lv' := [(0, .inr (.inl (some (gM G)))), (1, .inl x1), (2, .inl (x2 + v1)), (3, .inl (x3 + 1))]) (st' := []) rfl ?_
  exact H4 _ _ _
def fMd_pieced_l4 (fu : Nat) : Int32 → Int32 → Int32 → Sg → Option (Int32) := Nat.rec (fun x1 x2 x3 σ => none) (fun _ k => fMd_pieced_b4 k) fu
theorem wMd_pieced_l4 {X : MC} {G : GE} {n0 : Nat} (hG : gH G = true) (C : CX X G RX12 cX12_pieced pMd_pieced 4 (some .int) n0) (htab : ∀ z ∈ X.2.2.2.2.2.2.2.2.exceptionTable.toList, False) {σ : Sg} {M : Mm} {n : Nat} : ∀ (fu : Nat) (x1 : Int32) (x2 : Int32) (x3 : Int32), JS X G 4 300 0 n0 (EM X G n0 2 300 (eR rvI σ M n)) (fMd_pieced_l4 fu x1 x2 x3 σ) (σ, M, n) 4 [(0, .inr (.inl (some (gM G)))), (1, .inl x1), (2, .inl x2), (3, .inl x3)] [] := by
  intro fu
  induction fu with
  | zero => intro x1 x2 x3; exact s_none
  | succ fu ih => intro x1 x2 x3; exact wMd_pieced_b4 hG C htab (fMd_pieced_l4 fu) ih _ _ _
def fMd_pieced (x1 : Int32) (σ : Sg) : Option (Int32) :=
  fMd_pieced_l4 FU x1 0 0 σ
theorem wMd_pieced {X : MC} {G : GE} {n0 : Nat} (hG : gH G = true) (C : CX X G RX12 cX12_pieced pMd_pieced 4 (some .int) n0) (htab : ∀ z ∈ X.2.2.2.2.2.2.2.2.exceptionTable.toList, False) {σ : Sg} {M : Mm} {n : Nat} (x1 : Int32) : JS X G 4 300 0 n0 (EM X G n0 2 300 (eR rvI σ M n)) (fMd_pieced x1 σ) (σ, M, n) 0 [(0, .inr (.inl (some (gM G)))), (1, .inl x1)] [] := by
  unfold fMd_pieced
  refine s_blk C 0 4 [0, 1, 2, 3] (pc' := 4) (lv' := [(0, .inr (.inl (some (gM G)))), (1, .inl x1), (2, .inl 0), (3, .inl 0)]) (st' := []) rfl ?_
  exact wMd_pieced_l4 hG C htab FU _ _ _
theorem cMd_pieced {l : Launch} {G : GE} (htr : l.stackTraces = false) (hG : gH G = true) (σ : Sg) (M : Mm) (n : Nat) (x1 : Int32) : ∀ o, fMd_pieced x1 σ = some o → MetX l G yX12_pieced cX12_pieced 4 (some .int) 2 300 [.inr (.inl (some (gM G))), .inl x1] (σ, M, n) ((eR rvI σ M n) o) :=
  c_ofX (by decide) kMd_pieced htr rfl rfl fun X _ _ C htab => wMd_pieced hG C htab x1
def pMd_piece_0 : List BR := [(0, .aload_n 0, 1, 0, 1), (1, .iload_n 1, 1, 0, 2), (2, .invokevirtual 286, 3, 0, 5), (5, .istore_n 3, 1, 0, 6), (6, .iload_n 2, 1, 0, 7), (7, .iconst 1, 1, 1, 8), (8, .bipush 9, 2, 9, 10), (10, .invokestatic 132, 3, 0, 13), (13, .istore 4, 2, 0, 15), (15, .iload_n 3, 1, 0, 16), (16, .ifCond .eq (30), 3, 0, 46), (19, .iload 4, 2, 0, 21), (21, .ifCond .eq (25), 3, 0, 46), (24, .aload_n 0, 1, 0, 25), (25, .iload_n 1, 1, 0, 26), (26, .invokevirtual 289, 3, 0, 29), (29, .aload_n 0, 1, 0, 30), (30, .getfield 119, 3, 0, 33), (33, .bipush 9, 2, 9, 35), (35, .iload_n 1, 1, 0, 36), (36, .imul, 1, 0, 37), (37, .iload_n 2, 1, 0, 38), (38, .iadd, 1, 0, 39), (39, .iconst 1, 1, 1, 40), (40, .isub, 1, 0, 41), (41, .iaload, 1, 0, 42), (42, .isub, 1, 0, 43), (43, .goto (4), 3, 0, 47), (46, .iconst 0, 1, 0, 47), (47, .istore 5, 2, 0, 49), (49, .aload_n 0, 1, 0, 50), (50, .iload_n 3, 1, 0, 51), (51, .ifCond .ne (7), 3, 0, 58), (54, .iconst 1, 1, 1, 55), (55, .goto (36), 3, 0, 91), (58, .iload 4, 2, 0, 60), (60, .ifCond .ne (7), 3, 0, 67), (63, .iconst 2, 1, 2, 64), (64, .goto (27), 3, 0, 91), (67, .aload_n 0, 1, 0, 68)]
theorem kMd_piece_0 : bOK cX12_piece 8 pMd_piece_0 = true := by decide +kernel
def pMd_piece_1 : List BR := [(68, .getfield 147, 3, 0, 71), (71, .ifCond .eq (15), 3, 0, 86), (74, .iload 5, 2, 0, 76), (76, .aload_n 0, 1, 0, 77), (77, .getfield 147, 3, 0, 80), (80, .iadd, 1, 0, 81), (81, .bipush 40, 2, 40, 83), (83, .if_icmp .le (7), 3, 0, 90), (86, .iconst 3, 1, 3, 87), (87, .goto (4), 3, 0, 91), (90, .iconst 0, 1, 0, 91), (91, .invokevirtual 150, 3, 0, 94), (94, .ifCond .ne (5), 3, 0, 99), (97, .iconst 0, 1, 0, 98), (98, .ireturn, 1, 0, 99), (99, .bipush 9, 2, 9, 101), (101, .iload_n 1, 1, 0, 102), (102, .imul, 1, 0, 103), (103, .iload_n 2, 1, 0, 104), (104, .iadd, 1, 0, 105), (105, .iconst 1, 1, 1, 106), (106, .isub, 1, 0, 107), (107, .istore 6, 2, 0, 109), (109, .aload_n 0, 1, 0, 110), (110, .getfield 119, 3, 0, 113), (113, .iload 6, 2, 0, 115), (115, .aload_n 0, 1, 0, 116), (116, .getfield 147, 3, 0, 119), (119, .iastore, 1, 0, 120), (120, .iconst 0, 1, 0, 121), (121, .istore 7, 2, 0, 123), (123, .iload 7, 2, 0, 125), (125, .aload_n 0, 1, 0, 126), (126, .getfield 147, 3, 0, 129), (129, .if_icmp .ge (29), 3, 0, 158), (132, .aload_n 0, 1, 0, 133), (133, .getfield 122, 3, 0, 136), (136, .bipush 40, 2, 40, 138), (138, .iload 6, 2, 0, 140), (140, .imul, 1, 0, 141)]
theorem kMd_piece_1 : bOK cX12_piece 8 pMd_piece_1 = true := by decide +kernel
def pMd_piece_2 : List BR := [(141, .iload 7, 2, 0, 143), (143, .iadd, 1, 0, 144), (144, .aload_n 0, 1, 0, 145), (145, .getfield 7, 3, 0, 148), (148, .iload 7, 2, 0, 150), (150, .iaload, 1, 0, 151), (151, .iastore, 1, 0, 152), (152, .iinc 7 (1), 3, 1, 155), (155, .goto (-32), 3, 0, 123), (158, .aload_n 0, 1, 0, 159), (159, .iconst 0, 1, 0, 160), (160, .putfield 147, 3, 0, 163), (163, .aload_n 0, 1, 0, 164), (164, .iload_n 1, 1, 0, 165), (165, .invokevirtual 289, 3, 0, 168), (168, .ireturn, 1, 0, 169)]
theorem kMd_piece_2 : bOK cX12_piece 8 pMd_piece_2 = true := by decide +kernel
def pMd_piece : List BR := (pMd_piece_0 ++ (pMd_piece_1 ++ pMd_piece_2))
theorem kMd_piece : bOK cX12_piece 8 pMd_piece = true := (bOK_app kMd_piece_0 (bOK_app kMd_piece_1 kMd_piece_2))
def fMd_piece_b123 (k123 : Int32 → Int32 → Int32 → Sg → Option (Int32 × Sg)) (x1 : Int32) (x6 : Int32) (x7 : Int32) (σ : Sg) : Option (Int32 × Sg) :=
  mgF 1 σ fun v1 =>
  if v1 ≤ x7 then
    mpF 1 0 σ fun σ2 =>
    bdR (fMd_pieced x1 σ2) fun v3 =>
    some (v3, σ2)
  else
    mgA 2 x7 σ fun v4 =>
    mpA 45 ((40 * x6) + x7) v4 σ fun σ5 =>
    k123 x1 x6 (x7 + 1) σ5
theorem wMd_piece_b123 {X : MC} {G : GE} {n0 : Nat} (hG : gH G = true) (C : CX X G RX12 cX12_piece pMd_piece 8 (some .int) n0) (htab : ∀ z ∈ X.2.2.2.2.2.2.2.2.exceptionTable.toList, False) {M : Mm} {n : Nat} (k123 : Int32 → Int32 → Int32 → Sg → Option (Int32 × Sg)) (H123 : ∀ (x1 : Int32) (x6 : Int32) (x7 : Int32) (σ : Sg), JS X G 8 300 0 n0 (EM X G n0 4 300 (eS rvI M n)) (k123 x1 x6 x7 σ) (σ, M, n) 123 [(0, .inr (.inl (some (gM G)))), (1, .inl x1), (6, .inl x6), (7, .inl x7)] []) (x1 : Int32) (x6 : Int32) (x7 : Int32) (σ : Sg) : JS X G 8 300 0 n0 (EM X G n0 4 300 (eS rvI M n)) (fMd_piece_b123 k123 x1 x6 x7 σ) (σ, M, n) 123 [(0, .inr (.inl (some (gM G)))), (1, .inl x1), (6, .inl x6), (7, .inl x7)] [] := by
  unfold fMd_piece_b123
  refine s_blk C 71 2 [0, 1, 6, 7] (pc' := 126) (lv' := [(0, .inr (.inl (some (gM G)))), (1, .inl x1), (6, .inl x6), (7, .inl x7)]) (st' := [.inr (.inl (some (gM G))), .inl x7]) rfl ?_
  refine s_mF hG C 73 rfl fl_X12_147 rfl (fun v1 => ?_)
  refine s_icge C 74 rfl (fun _ => ?_) (fun _ => ?_)
  · refine s_blk C 89 2 [0, 1] (pc' := 160) (lv' := [(0, .inr (.inl (some (gM G)))), (1, .inl x1)]) (st' := [.inl 0, .inr (.inl (some (gM G)))]) rfl ?_
    refine s_mpF hG C 91 rfl fl_X12_147 fp_X12_13_1 rfl (fun σ2 _ => ?_)
    refine s_blk C 92 2 [] (pc' := 165) (lv' := []) (st' := [.inl x1, .inr (.inl (some (gM G)))]) rfl ?_
    refine s_RI (CE_EM _ _ _ _ _ _) (st := []) (fun o ho => j_callV (As := [.inl x1]) (st := []) (b := gM G) C 94 rfl mf_Md_pieced ml_X12_289 rfl (recv_M hG C) (by decide) (by decide) (Nat.le_refl _) rfl (cMd_pieced (CX_tr C) hG σ2 M n x1 o ho)) (fun v3 => ?_)
    exact s_iret C 95 rfl rfl
  refine s_blk C 75 1 [0, 1, 6, 7] (pc' := 133) (lv' := [(0, .inr (.inl (some (gM G)))), (1, .inl x1), (6, .inl x6), (7, .inl x7)]) (st' := [.inr (.inl (some (gM G)))]) rfl ?_
  refine s_mR hG C 76 rfl 45 fl_X12_122 rfl ?_
  refine s_blk C 77 6 [0, 1, 6, 7] (pc' := 145) (lv' := [(0, .inr (.inl (some (gM G)))), (1, .inl x1), (6, .inl x6), (7, .inl x7)]) (st' := [.inr (.inl (some (gM G))), .inl ((40 * x6) + x7), .inr (.inl (some (gA G 45)))]) rfl ?_
  refine s_mR hG C 83 rfl 2 fl_X12_7 rfl ?_
  refine s_blk C 84 1 [0, 1, 6, 7] (pc' := 150) (lv' := [(0, .inr (.inl (some (gM G)))), (1, .inl x1), (6, .inl x6), (7, .inl x7)]) (st' := [.inl x7, .inr (.inl (some (gA G 2))), .inl ((40 * x6) + x7), .inr (.inl (some (gA G 45)))]) rfl ?_
  refine s_mldI hG C 85 rfl rfl rfl (fun v4 => ?_)
  refine s_mstI hG C 86 rfl rfl rfl (fun σ5 _ => ?_)
  refine s_blk C 87 2 [0, 1, 6, 7] (pc' := 123) (lv' := [(0, .inr (.inl (some (gM G)))), (1, .inl x1), (6, .inl x6), (7, .inl (x7 + 1))]) (st' := []) rfl ?_
  exact H123 _ _ _ _
def fMd_piece_l123 (fu : Nat) : Int32 → Int32 → Int32 → Sg → Option (Int32 × Sg) := Nat.rec (fun x1 x6 x7 σ => none) (fun _ k => fMd_piece_b123 k) fu
theorem wMd_piece_l123 {X : MC} {G : GE} {n0 : Nat} (hG : gH G = true) (C : CX X G RX12 cX12_piece pMd_piece 8 (some .int) n0) (htab : ∀ z ∈ X.2.2.2.2.2.2.2.2.exceptionTable.toList, False) {M : Mm} {n : Nat} : ∀ (fu : Nat) (x1 : Int32) (x6 : Int32) (x7 : Int32) (σ : Sg), JS X G 8 300 0 n0 (EM X G n0 4 300 (eS rvI M n)) (fMd_piece_l123 fu x1 x6 x7 σ) (σ, M, n) 123 [(0, .inr (.inl (some (gM G)))), (1, .inl x1), (6, .inl x6), (7, .inl x7)] [] := by
  intro fu
  induction fu with
  | zero => intro x1 x6 x7 σ; exact s_none
  | succ fu ih => intro x1 x6 x7 σ; exact wMd_piece_b123 hG C htab (fMd_piece_l123 fu) ih _ _ _ _
def fMd_piece_j91 (x1 : Int32) (x2 : Int32) (s0 : Int32) (σ : Sg) : Option (Int32 × Sg) :=
  bdW (fMd_holds s0 σ) fun v1 σ2 =>
  if v1 = 0 then
    some (0, σ2)
  else
    mgF 1 σ2 fun v3 =>
    mpA 44 (((9 * x1) + x2) - 1) v3 σ2 fun σ4 =>
    fMd_piece_l123 FU x1 (((9 * x1) + x2) - 1) 0 σ4
theorem wMd_piece_j91 {X : MC} {G : GE} {n0 : Nat} (hG : gH G = true) (C : CX X G RX12 cX12_piece pMd_piece 8 (some .int) n0) (htab : ∀ z ∈ X.2.2.2.2.2.2.2.2.exceptionTable.toList, False) {M : Mm} {n : Nat} (x1 : Int32) (x2 : Int32) (s0 : Int32) (σ : Sg) : JS X G 8 300 0 n0 (EM X G n0 4 300 (eS rvI M n)) (fMd_piece_j91 x1 x2 s0 σ) (σ, M, n) 91 [(0, .inr (.inl (some (gM G)))), (1, .inl x1), (2, .inl x2)] [.inl s0, .inr (.inl (some (gM G)))] := by
  unfold fMd_piece_j91
  refine s_SI (CE_EM _ _ _ _ _ _) (st := []) (fun o ho => j_callV (As := [.inl s0]) (st := []) (b := gM G) C 51 rfl mf_Md_holds ml_X12_150 rfl (recv_M hG C) (by decide) (by decide) (Nat.le_refl _) rfl (cMd_holds (CX_tr C) hG σ M n s0 o ho)) (fun v1 σ2 => ?_)
  refine s_ine C 52 rfl (fun _ => ?_) (fun _ => ?_)
  · refine s_blk C 53 1 [] (pc' := 98) (lv' := []) (st' := [.inl 0]) rfl ?_
    exact s_iret C 54 rfl rfl
  refine s_blk C 55 9 [0, 1, 6] (pc' := 110) (lv' := [(0, .inr (.inl (some (gM G)))), (1, .inl x1), (6, .inl (((9 * x1) + x2) - 1))]) (st' := [.inr (.inl (some (gM G)))]) rfl ?_
  refine s_mR hG C 64 rfl 44 fl_X12_119 rfl ?_
  refine s_blk C 65 2 [0, 1, 6] (pc' := 116) (lv' := [(0, .inr (.inl (some (gM G)))), (1, .inl x1), (6, .inl (((9 * x1) + x2) - 1))]) (st' := [.inr (.inl (some (gM G))), .inl (((9 * x1) + x2) - 1), .inr (.inl (some (gA G 44)))]) rfl ?_
  refine s_mF hG C 67 rfl fl_X12_147 rfl (fun v3 => ?_)
  refine s_mstI hG C 68 rfl rfl rfl (fun σ4 _ => ?_)
  refine s_blk C 69 2 [0, 1, 6, 7] (pc' := 123) (lv' := [(0, .inr (.inl (some (gM G)))), (1, .inl x1), (6, .inl (((9 * x1) + x2) - 1)), (7, .inl 0)]) (st' := []) rfl ?_
  exact wMd_piece_l123 hG C htab FU _ _ _ _
def fMd_piece_j86 (x1 : Int32) (x2 : Int32) (σ : Sg) : Option (Int32 × Sg) :=
  fMd_piece_j91 x1 x2 3 σ
theorem wMd_piece_j86 {X : MC} {G : GE} {n0 : Nat} (hG : gH G = true) (C : CX X G RX12 cX12_piece pMd_piece 8 (some .int) n0) (htab : ∀ z ∈ X.2.2.2.2.2.2.2.2.exceptionTable.toList, False) {M : Mm} {n : Nat} (x1 : Int32) (x2 : Int32) (σ : Sg) : JS X G 8 300 0 n0 (EM X G n0 4 300 (eS rvI M n)) (fMd_piece_j86 x1 x2 σ) (σ, M, n) 86 [(0, .inr (.inl (some (gM G)))), (1, .inl x1), (2, .inl x2)] [.inr (.inl (some (gM G)))] := by
  unfold fMd_piece_j86
  refine s_blk C 48 2 [0, 1, 2] (pc' := 91) (lv' := [(0, .inr (.inl (some (gM G)))), (1, .inl x1), (2, .inl x2)]) (st' := [.inl 3, .inr (.inl (some (gM G)))]) rfl ?_
  exact wMd_piece_j91 hG C htab _ _ _ _
def fMd_piece_j47 (x1 : Int32) (x2 : Int32) (x3 : Int32) (x4 : Int32) (s0 : Int32) (σ : Sg) : Option (Int32 × Sg) :=
  if x3 = 0 then
    fMd_piece_j91 x1 x2 1 σ
  else
    if x4 = 0 then
      fMd_piece_j91 x1 x2 2 σ
    else
      mgF 1 σ fun v1 =>
      if v1 = 0 then
        fMd_piece_j86 x1 x2 σ
      else
        mgF 1 σ fun v2 =>
        if (s0 + v2) ≤ 40 then
          fMd_piece_j91 x1 x2 0 σ
        else
          fMd_piece_j86 x1 x2 σ
theorem wMd_piece_j47 {X : MC} {G : GE} {n0 : Nat} (hG : gH G = true) (C : CX X G RX12 cX12_piece pMd_piece 8 (some .int) n0) (htab : ∀ z ∈ X.2.2.2.2.2.2.2.2.exceptionTable.toList, False) {M : Mm} {n : Nat} (x1 : Int32) (x2 : Int32) (x3 : Int32) (x4 : Int32) (s0 : Int32) (σ : Sg) : JS X G 8 300 0 n0 (EM X G n0 4 300 (eS rvI M n)) (fMd_piece_j47 x1 x2 x3 x4 s0 σ) (σ, M, n) 47 [(0, .inr (.inl (some (gM G)))), (1, .inl x1), (2, .inl x2), (3, .inl x3), (4, .inl x4)] [.inl s0] := by
  unfold fMd_piece_j47
  refine s_blk C 29 3 [0, 1, 2, 4, 5] (pc' := 51) (lv' := [(0, .inr (.inl (some (gM G)))), (1, .inl x1), (2, .inl x2), (4, .inl x4), (5, .inl s0)]) (st' := [.inl x3, .inr (.inl (some (gM G)))]) rfl ?_
  refine s_ine C 32 rfl (fun _ => ?_) (fun _ => ?_)
  · refine s_blk C 33 2 [0, 1, 2] (pc' := 91) (lv' := [(0, .inr (.inl (some (gM G)))), (1, .inl x1), (2, .inl x2)]) (st' := [.inl 1, .inr (.inl (some (gM G)))]) rfl ?_
    exact wMd_piece_j91 hG C htab _ _ _ _
  refine s_blk C 35 1 [0, 1, 2, 5] (pc' := 60) (lv' := [(0, .inr (.inl (some (gM G)))), (1, .inl x1), (2, .inl x2), (5, .inl s0)]) (st' := [.inl x4, .inr (.inl (some (gM G)))]) rfl ?_
  refine s_ine C 36 rfl (fun _ => ?_) (fun _ => ?_)
  · refine s_blk C 37 2 [0, 1, 2] (pc' := 91) (lv' := [(0, .inr (.inl (some (gM G)))), (1, .inl x1), (2, .inl x2)]) (st' := [.inl 2, .inr (.inl (some (gM G)))]) rfl ?_
    exact wMd_piece_j91 hG C htab _ _ _ _
  refine s_blk C 39 1 [0, 1, 2, 5] (pc' := 68) (lv' := [(0, .inr (.inl (some (gM G)))), (1, .inl x1), (2, .inl x2), (5, .inl s0)]) (st' := [.inr (.inl (some (gM G))), .inr (.inl (some (gM G)))]) rfl ?_
  refine s_mF hG C 40 rfl fl_X12_147 rfl (fun v1 => ?_)
  refine s_ieq C 41 rfl (fun _ => ?_) (fun _ => ?_)
  · refine s_blk C 0 0 [0, 1, 2] (pc' := 86) (lv' := [(0, .inr (.inl (some (gM G)))), (1, .inl x1), (2, .inl x2)]) (st' := [.inr (.inl (some (gM G)))]) rfl ?_
    exact wMd_piece_j86 hG C htab _ _ _
  refine s_blk C 42 2 [0, 1, 2] (pc' := 77) (lv' := [(0, .inr (.inl (some (gM G)))), (1, .inl x1), (2, .inl x2)]) (st' := [.inr (.inl (some (gM G))), .inl s0, .inr (.inl (some (gM G)))]) rfl ?_
  refine s_mF hG C 44 rfl fl_X12_147 rfl (fun v2 => ?_)
  refine s_blk C 45 2 [0, 1, 2] (pc' := 83) (lv' := [(0, .inr (.inl (some (gM G)))), (1, .inl x1), (2, .inl x2)]) (st' := [.inl 40, .inl (s0 + v2), .inr (.inl (some (gM G)))]) rfl ?_
  refine s_icle C 47 rfl (fun _ => ?_) (fun _ => ?_)
  · refine s_blk C 50 1 [0, 1, 2] (pc' := 91) (lv' := [(0, .inr (.inl (some (gM G)))), (1, .inl x1), (2, .inl x2)]) (st' := [.inl 0, .inr (.inl (some (gM G)))]) rfl ?_
    exact wMd_piece_j91 hG C htab _ _ _ _
  exact wMd_piece_j86 hG C htab _ _ _
def fMd_piece_j46 (x1 : Int32) (x2 : Int32) (x3 : Int32) (x4 : Int32) (σ : Sg) : Option (Int32 × Sg) :=
  fMd_piece_j47 x1 x2 x3 x4 0 σ
theorem wMd_piece_j46 {X : MC} {G : GE} {n0 : Nat} (hG : gH G = true) (C : CX X G RX12 cX12_piece pMd_piece 8 (some .int) n0) (htab : ∀ z ∈ X.2.2.2.2.2.2.2.2.exceptionTable.toList, False) {M : Mm} {n : Nat} (x1 : Int32) (x2 : Int32) (x3 : Int32) (x4 : Int32) (σ : Sg) : JS X G 8 300 0 n0 (EM X G n0 4 300 (eS rvI M n)) (fMd_piece_j46 x1 x2 x3 x4 σ) (σ, M, n) 46 [(0, .inr (.inl (some (gM G)))), (1, .inl x1), (2, .inl x2), (3, .inl x3), (4, .inl x4)] [] := by
  unfold fMd_piece_j46
  refine s_blk C 28 1 [0, 1, 2, 3, 4] (pc' := 47) (lv' := [(0, .inr (.inl (some (gM G)))), (1, .inl x1), (2, .inl x2), (3, .inl x3), (4, .inl x4)]) (st' := [.inl 0]) rfl ?_
  exact wMd_piece_j47 hG C htab _ _ _ _ _ _
def fMd_piece (x1 : Int32) (x2 : Int32) (σ : Sg) : Option (Int32 × Sg) :=
  bdR (fMd_isUpload x1 σ) fun v1 =>
  bdR (fMd_isIn x2 1 9) fun v2 =>
  if v1 = 0 then
    fMd_piece_j46 x1 x2 v1 v2 σ
  else
    if v2 = 0 then
      fMd_piece_j46 x1 x2 v1 v2 σ
    else
      bdR (fMd_pieced x1 σ) fun v3 =>
      mgA 44 (((9 * x1) + x2) - 1) σ fun v4 =>
      fMd_piece_j47 x1 x2 v1 v2 (v3 - v4) σ
theorem wMd_piece {X : MC} {G : GE} {n0 : Nat} (hG : gH G = true) (C : CX X G RX12 cX12_piece pMd_piece 8 (some .int) n0) (htab : ∀ z ∈ X.2.2.2.2.2.2.2.2.exceptionTable.toList, False) {M : Mm} {n : Nat} (x1 : Int32) (x2 : Int32) (σ : Sg) : JS X G 8 300 0 n0 (EM X G n0 4 300 (eS rvI M n)) (fMd_piece x1 x2 σ) (σ, M, n) 0 [(0, .inr (.inl (some (gM G)))), (1, .inl x1), (2, .inl x2)] [] := by
  unfold fMd_piece
  refine s_blk C 0 2 [0, 1, 2] (pc' := 2) (lv' := [(0, .inr (.inl (some (gM G)))), (1, .inl x1), (2, .inl x2)]) (st' := [.inl x1, .inr (.inl (some (gM G)))]) rfl ?_
  refine s_RI (CE_EM _ _ _ _ _ _) (st := []) (fun o ho => j_callV (As := [.inl x1]) (st := []) (b := gM G) C 2 rfl mf_Md_isUpload ml_X12_286 rfl (recv_M hG C) (by decide) (by decide) (Nat.le_refl _) rfl (cMd_isUpload (CX_tr C) hG σ M n x1 o ho)) (fun v1 => ?_)
  refine s_blk C 3 4 [0, 1, 2, 3] (pc' := 10) (lv' := [(0, .inr (.inl (some (gM G)))), (1, .inl x1), (2, .inl x2), (3, .inl v1)]) (st' := [.inl 9, .inl 1, .inl x2]) rfl ?_
  refine s_RI (CE_EM _ _ _ _ _ _) (st := []) (fun o ho => j_callS (As := [.inl x2, .inl 1, .inl 9]) (st := []) C 7 rfl mf_Md_isIn ml_X12_132 rfl (by decide) (by decide) (Nat.le_refl _) rfl (cMd_isIn (CX_tr C) hG σ M n x2 1 9 o ho)) (fun v2 => ?_)
  refine s_blk C 8 2 [0, 1, 2, 3, 4] (pc' := 16) (lv' := [(0, .inr (.inl (some (gM G)))), (1, .inl x1), (2, .inl x2), (3, .inl v1), (4, .inl v2)]) (st' := [.inl v1]) rfl ?_
  refine s_ieq C 10 rfl (fun _ => ?_) (fun _ => ?_)
  · exact wMd_piece_j46 hG C htab _ _ _ _ _
  refine s_blk C 11 1 [0, 1, 2, 3, 4] (pc' := 21) (lv' := [(0, .inr (.inl (some (gM G)))), (1, .inl x1), (2, .inl x2), (3, .inl v1), (4, .inl v2)]) (st' := [.inl v2]) rfl ?_
  refine s_ieq C 12 rfl (fun _ => ?_) (fun _ => ?_)
  · exact wMd_piece_j46 hG C htab _ _ _ _ _
  refine s_blk C 13 2 [0, 1, 2, 3, 4] (pc' := 26) (lv' := [(0, .inr (.inl (some (gM G)))), (1, .inl x1), (2, .inl x2), (3, .inl v1), (4, .inl v2)]) (st' := [.inl x1, .inr (.inl (some (gM G)))]) rfl ?_
  refine s_RI (CE_EM _ _ _ _ _ _) (st := []) (fun o ho => j_callV (As := [.inl x1]) (st := []) (b := gM G) C 15 rfl mf_Md_pieced ml_X12_289 rfl (recv_M hG C) (by decide) (by decide) (Nat.le_refl _) rfl (cMd_pieced (CX_tr C) hG σ M n x1 o ho)) (fun v3 => ?_)
  refine s_blk C 16 1 [0, 1, 2, 3, 4] (pc' := 30) (lv' := [(0, .inr (.inl (some (gM G)))), (1, .inl x1), (2, .inl x2), (3, .inl v1), (4, .inl v2)]) (st' := [.inr (.inl (some (gM G))), .inl v3]) rfl ?_
  refine s_mR hG C 17 rfl 44 fl_X12_119 rfl ?_
  refine s_blk C 18 7 [0, 1, 2, 3, 4] (pc' := 41) (lv' := [(0, .inr (.inl (some (gM G)))), (1, .inl x1), (2, .inl x2), (3, .inl v1), (4, .inl v2)]) (st' := [.inl (((9 * x1) + x2) - 1), .inr (.inl (some (gA G 44))), .inl v3]) rfl ?_
  refine s_mldI hG C 25 rfl rfl rfl (fun v4 => ?_)
  refine s_blk C 26 2 [0, 1, 2, 3, 4] (pc' := 47) (lv' := [(0, .inr (.inl (some (gM G)))), (1, .inl x1), (2, .inl x2), (3, .inl v1), (4, .inl v2)]) (st' := [.inl (v3 - v4)]) rfl ?_
  exact wMd_piece_j47 hG C htab _ _ _ _ _ _
theorem cMd_piece {l : Launch} {G : GE} (htr : l.stackTraces = false) (hG : gH G = true) (σ : Sg) (M : Mm) (n : Nat) (x1 : Int32) (x2 : Int32) : ∀ o, fMd_piece x1 x2 σ = some o → MetX l G yX12_piece cX12_piece 8 (some .int) 4 300 [.inr (.inl (some (gM G))), .inl x1, .inl x2] (σ, M, n) ((eS rvI M n) o) :=
  c_ofX (by decide) kMd_piece htr rfl rfl fun X _ _ C htab => wMd_piece hG C htab x1 x2 _

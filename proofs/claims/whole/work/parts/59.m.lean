def pMd_mend : List BR := [(0, .aload_n 0, 1, 0, 1), (1, .iload_n 1, 1, 0, 2), (2, .invokestatic 225, 3, 0, 5), (5, .ifCond .ne (7), 3, 0, 12), (8, .iconst 1, 1, 1, 9), (9, .goto (18), 3, 0, 27), (12, .iload_n 2, 1, 0, 13), (13, .iconst 1, 1, 1, 14), (14, .bipush 99, 2, 99, 16), (16, .invokestatic 132, 3, 0, 19), (19, .ifCond .eq (7), 3, 0, 26), (22, .iconst 0, 1, 0, 23), (23, .goto (4), 3, 0, 27), (26, .iconst 2, 1, 2, 27), (27, .invokevirtual 150, 3, 0, 30), (30, .ifCond .ne (5), 3, 0, 35), (33, .iconst 0, 1, 0, 34), (34, .ireturn, 1, 0, 35), (35, .iconst 0, 1, 0, 36), (36, .istore_n 3, 1, 0, 37), (37, .iload_n 3, 1, 0, 38), (38, .iload_n 2, 1, 0, 39), (39, .if_icmp .ge (17), 3, 0, 56), (42, .aload_n 0, 1, 0, 43), (43, .iload_n 1, 1, 0, 44), (44, .invokevirtual 312, 3, 0, 47), (47, .ifCond .eq (9), 3, 0, 56), (50, .iinc 3 (1), 3, 1, 53), (53, .goto (-16), 3, 0, 37), (56, .iload_n 3, 1, 0, 57), (57, .ireturn, 1, 0, 58)]
theorem kMd_mend : bOK cX12_mend 4 pMd_mend = true := by decide +kernel
def fMd_mend_b37 (k37 : Int32 → Int32 → Int32 → Sg → Option (Int32 × Sg)) (x1 : Int32) (x2 : Int32) (x3 : Int32) (σ : Sg) : Option (Int32 × Sg) :=
  if x2 ≤ x3 then
    some (x3, σ)
  else
    bdW (fMd_mends x1 σ) fun v1 σ2 =>
    if v1 = 0 then
      some (x3, σ2)
    else
      k37 x1 x2 (x3 + 1) σ2
theorem wMd_mend_b37 {X : MC} {G : GE} {n0 : Nat} (hG : gH G = true) (C : CX X G RX12 cX12_mend pMd_mend 4 (some .int) n0) (htab : ∀ z ∈ X.2.2.2.2.2.2.2.2.exceptionTable.toList, False) {M : Mm} {n : Nat} (k37 : Int32 → Int32 → Int32 → Sg → Option (Int32 × Sg)) (H37 : ∀ (x1 : Int32) (x2 : Int32) (x3 : Int32) (σ : Sg), JS X G 4 300 0 n0 (EM X G n0 7 300 (eS rvI M n)) (k37 x1 x2 x3 σ) (σ, M, n) 37 [(0, .inr (.inl (some (gM G)))), (1, .inl x1), (2, .inl x2), (3, .inl x3)] []) (x1 : Int32) (x2 : Int32) (x3 : Int32) (σ : Sg) : JS X G 4 300 0 n0 (EM X G n0 7 300 (eS rvI M n)) (fMd_mend_b37 k37 x1 x2 x3 σ) (σ, M, n) 37 [(0, .inr (.inl (some (gM G)))), (1, .inl x1), (2, .inl x2), (3, .inl x3)] [] := by
  unfold fMd_mend_b37
  refine s_blk C 20 2 [0, 1, 2, 3] (pc' := 39) (lv' := [(0, .inr (.inl (some (gM G)))), (1, .inl x1), (2, .inl x2), (3, .inl x3)]) (st' := [.inl x2, .inl x3]) rfl ?_
  refine s_icge C 22 rfl (fun _ => ?_) (fun _ => ?_)
  · refine s_blk C 29 1 [] (pc' := 57) (lv' := []) (st' := [.inl x3]) rfl ?_
    exact s_iret C 30 rfl rfl
  refine s_blk C 23 2 [0, 1, 2, 3] (pc' := 44) (lv' := [(0, .inr (.inl (some (gM G)))), (1, .inl x1), (2, .inl x2), (3, .inl x3)]) (st' := [.inl x1, .inr (.inl (some (gM G)))]) rfl ?_
  refine s_SI (CE_EM _ _ _ _ _ _) (st := []) (fun o ho => j_callV (As := [.inl x1]) (st := []) (b := gM G) C 25 rfl mf_Md_mends ml_X12_312 rfl (recv_M hG C) (by decide) (by decide) (Nat.le_refl _) rfl (cMd_mends (CX_tr C) hG σ M n x1 o ho)) (fun v1 σ2 => ?_)
  refine s_ieq C 26 rfl (fun _ => ?_) (fun _ => ?_)
  · refine s_blk C 29 1 [] (pc' := 57) (lv' := []) (st' := [.inl x3]) rfl ?_
    exact s_iret C 30 rfl rfl
  refine s_blk C 27 2 [0, 1, 2, 3] (pc' := 37) (lv' := [(0, .inr (.inl (some (gM G)))), (1, .inl x1), (2, .inl x2), (3, .inl (x3 + 1))]) (st' := []) rfl ?_
  exact H37 _ _ _ _
def fMd_mend_l37 (fu : Nat) : Int32 → Int32 → Int32 → Sg → Option (Int32 × Sg) := Nat.rec (fun x1 x2 x3 σ => none) (fun _ k => fMd_mend_b37 k) fu
theorem wMd_mend_l37 {X : MC} {G : GE} {n0 : Nat} (hG : gH G = true) (C : CX X G RX12 cX12_mend pMd_mend 4 (some .int) n0) (htab : ∀ z ∈ X.2.2.2.2.2.2.2.2.exceptionTable.toList, False) {M : Mm} {n : Nat} : ∀ (fu : Nat) (x1 : Int32) (x2 : Int32) (x3 : Int32) (σ : Sg), JS X G 4 300 0 n0 (EM X G n0 7 300 (eS rvI M n)) (fMd_mend_l37 fu x1 x2 x3 σ) (σ, M, n) 37 [(0, .inr (.inl (some (gM G)))), (1, .inl x1), (2, .inl x2), (3, .inl x3)] [] := by
  intro fu
  induction fu with
  | zero => intro x1 x2 x3 σ; exact s_none
  | succ fu ih => intro x1 x2 x3 σ; exact wMd_mend_b37 hG C htab (fMd_mend_l37 fu) ih _ _ _ _
def fMd_mend_j27 (x1 : Int32) (x2 : Int32) (s0 : Int32) (σ : Sg) : Option (Int32 × Sg) :=
  bdW (fMd_holds s0 σ) fun v1 σ2 =>
  if v1 = 0 then
    some (0, σ2)
  else
    fMd_mend_l37 FU x1 x2 0 σ2
theorem wMd_mend_j27 {X : MC} {G : GE} {n0 : Nat} (hG : gH G = true) (C : CX X G RX12 cX12_mend pMd_mend 4 (some .int) n0) (htab : ∀ z ∈ X.2.2.2.2.2.2.2.2.exceptionTable.toList, False) {M : Mm} {n : Nat} (x1 : Int32) (x2 : Int32) (s0 : Int32) (σ : Sg) : JS X G 4 300 0 n0 (EM X G n0 7 300 (eS rvI M n)) (fMd_mend_j27 x1 x2 s0 σ) (σ, M, n) 27 [(0, .inr (.inl (some (gM G)))), (1, .inl x1), (2, .inl x2)] [.inl s0, .inr (.inl (some (gM G)))] := by
  unfold fMd_mend_j27
  refine s_SI (CE_EM _ _ _ _ _ _) (st := []) (fun o ho => j_callV (As := [.inl s0]) (st := []) (b := gM G) C 14 rfl mf_Md_holds ml_X12_150 rfl (recv_M hG C) (by decide) (by decide) (Nat.le_refl _) rfl (cMd_holds (CX_tr C) hG σ M n s0 o ho)) (fun v1 σ2 => ?_)
  refine s_ine C 15 rfl (fun _ => ?_) (fun _ => ?_)
  · refine s_blk C 16 1 [] (pc' := 34) (lv' := []) (st' := [.inl 0]) rfl ?_
    exact s_iret C 17 rfl rfl
  refine s_blk C 18 2 [0, 1, 2, 3] (pc' := 37) (lv' := [(0, .inr (.inl (some (gM G)))), (1, .inl x1), (2, .inl x2), (3, .inl 0)]) (st' := []) rfl ?_
  exact wMd_mend_l37 hG C htab FU _ _ _ _
def fMd_mend (x1 : Int32) (x2 : Int32) (σ : Sg) : Option (Int32 × Sg) :=
  bdR (fMd_isRegion x1) fun v1 =>
  if v1 = 0 then
    fMd_mend_j27 x1 x2 1 σ
  else
    bdR (fMd_isIn x2 1 99) fun v2 =>
    if v2 = 0 then
      fMd_mend_j27 x1 x2 2 σ
    else
      fMd_mend_j27 x1 x2 0 σ
theorem wMd_mend {X : MC} {G : GE} {n0 : Nat} (hG : gH G = true) (C : CX X G RX12 cX12_mend pMd_mend 4 (some .int) n0) (htab : ∀ z ∈ X.2.2.2.2.2.2.2.2.exceptionTable.toList, False) {M : Mm} {n : Nat} (x1 : Int32) (x2 : Int32) (σ : Sg) : JS X G 4 300 0 n0 (EM X G n0 7 300 (eS rvI M n)) (fMd_mend x1 x2 σ) (σ, M, n) 0 [(0, .inr (.inl (some (gM G)))), (1, .inl x1), (2, .inl x2)] [] := by
  unfold fMd_mend
  refine s_blk C 0 2 [0, 1, 2] (pc' := 2) (lv' := [(0, .inr (.inl (some (gM G)))), (1, .inl x1), (2, .inl x2)]) (st' := [.inl x1, .inr (.inl (some (gM G)))]) rfl ?_
  refine s_RI (CE_EM _ _ _ _ _ _) (st := [.inr (.inl (some (gM G)))]) (fun o ho => j_callS (As := [.inl x1]) (st := [.inr (.inl (some (gM G)))]) C 2 rfl mf_Md_isRegion ml_X12_225 rfl (by decide) (by decide) (Nat.le_refl _) rfl (cMd_isRegion (CX_tr C) hG σ M n x1 o ho)) (fun v1 => ?_)
  refine s_ine C 3 rfl (fun _ => ?_) (fun _ => ?_)
  · refine s_blk C 4 2 [0, 1, 2] (pc' := 27) (lv' := [(0, .inr (.inl (some (gM G)))), (1, .inl x1), (2, .inl x2)]) (st' := [.inl 1, .inr (.inl (some (gM G)))]) rfl ?_
    exact wMd_mend_j27 hG C htab _ _ _ _
  refine s_blk C 6 3 [0, 1, 2] (pc' := 16) (lv' := [(0, .inr (.inl (some (gM G)))), (1, .inl x1), (2, .inl x2)]) (st' := [.inl 99, .inl 1, .inl x2, .inr (.inl (some (gM G)))]) rfl ?_
  refine s_RI (CE_EM _ _ _ _ _ _) (st := [.inr (.inl (some (gM G)))]) (fun o ho => j_callS (As := [.inl x2, .inl 1, .inl 99]) (st := [.inr (.inl (some (gM G)))]) C 9 rfl mf_Md_isIn ml_X12_132 rfl (by decide) (by decide) (Nat.le_refl _) rfl (cMd_isIn (CX_tr C) hG σ M n x2 1 99 o ho)) (fun v2 => ?_)
  refine s_ieq C 10 rfl (fun _ => ?_) (fun _ => ?_)
  · refine s_blk C 13 1 [0, 1, 2] (pc' := 27) (lv' := [(0, .inr (.inl (some (gM G)))), (1, .inl x1), (2, .inl x2)]) (st' := [.inl 2, .inr (.inl (some (gM G)))]) rfl ?_
    exact wMd_mend_j27 hG C htab _ _ _ _
  refine s_blk C 11 2 [0, 1, 2] (pc' := 27) (lv' := [(0, .inr (.inl (some (gM G)))), (1, .inl x1), (2, .inl x2)]) (st' := [.inl 0, .inr (.inl (some (gM G)))]) rfl ?_
  exact wMd_mend_j27 hG C htab _ _ _ _
theorem cMd_mend {l : Launch} {G : GE} (htr : l.stackTraces = false) (hG : gH G = true) (σ : Sg) (M : Mm) (n : Nat) (x1 : Int32) (x2 : Int32) : ∀ o, fMd_mend x1 x2 σ = some o → MetX l G yX12_mend cX12_mend 4 (some .int) 7 300 [.inr (.inl (some (gM G))), .inl x1, .inl x2] (σ, M, n) ((eS rvI M n) o) :=
  c_ofX (by decide) kMd_mend htr rfl rfl fun X _ _ C htab => wMd_mend hG C htab x1 x2 _
def pMd_node_0 : List BR := [(0, .iload_n 1, 1, 0, 1), (1, .invokestatic 225, 3, 0, 4), (4, .ifCond .eq (16), 3, 0, 20), (7, .iload_n 2, 1, 0, 8), (8, .iconst 0, 1, 0, 9), (9, .iconst 5, 1, 5, 10), (10, .invokestatic 132, 3, 0, 13), (13, .ifCond .eq (7), 3, 0, 20), (16, .iconst 1, 1, 1, 17), (17, .goto (4), 3, 0, 21), (20, .iconst 0, 1, 0, 21), (21, .istore 4, 2, 0, 23), (23, .aload_n 0, 1, 0, 24), (24, .iload 4, 2, 0, 26), (26, .ifCond .ne (7), 3, 0, 33), (29, .iconst 1, 1, 1, 30), (30, .goto (23), 3, 0, 53), (33, .aload_n 0, 1, 0, 34), (34, .getfield 40, 3, 0, 37), (37, .bipush 6, 2, 6, 39), (39, .iload_n 1, 1, 0, 40), (40, .imul, 1, 0, 41), (41, .iload_n 2, 1, 0, 42), (42, .iadd, 1, 0, 43), (43, .baload, 1, 0, 44), (44, .iload_n 3, 1, 0, 45), (45, .if_icmp .eq (7), 3, 0, 52), (48, .iconst 2, 1, 2, 49), (49, .goto (4), 3, 0, 53), (52, .iconst 0, 1, 0, 53), (53, .invokevirtual 150, 3, 0, 56), (56, .ifCond .ne (5), 3, 0, 61), (59, .iconst 0, 1, 0, 60), (60, .ireturn, 1, 0, 61), (61, .aload_n 0, 1, 0, 62), (62, .getfield 40, 3, 0, 65), (65, .bipush 6, 2, 6, 67), (67, .iload_n 1, 1, 0, 68), (68, .imul, 1, 0, 69), (69, .iload_n 2, 1, 0, 70)]
theorem kMd_node_0 : bOK cX12_node 8 pMd_node_0 = true := by decide +kernel
def pMd_node_1 : List BR := [(70, .iadd, 1, 0, 71), (71, .iload_n 3, 1, 0, 72), (72, .ifCond .ne (7), 3, 0, 79), (75, .iconst 1, 1, 1, 76), (76, .goto (4), 3, 0, 80), (79, .iconst 0, 1, 0, 80), (80, .bastore, 1, 0, 81), (81, .iconst 0, 1, 0, 82), (82, .istore 5, 2, 0, 84), (84, .sipush 450, 3, 450, 87), (87, .iload_n 1, 1, 0, 88), (88, .imul, 1, 0, 89), (89, .istore 6, 2, 0, 91), (91, .iload 6, 2, 0, 93), (93, .iconst 5, 1, 5, 94), (94, .bipush 90, 2, 90, 96), (96, .iload_n 1, 1, 0, 97), (97, .imul, 1, 0, 98), (98, .aload_n 0, 1, 0, 99), (99, .getfield 44, 3, 0, 102), (102, .iload_n 1, 1, 0, 103), (103, .iaload, 1, 0, 104), (104, .iadd, 1, 0, 105), (105, .imul, 1, 0, 106), (106, .if_icmp .ge (108), 3, 0, 214), (109, .iload_n 3, 1, 0, 110), (110, .ifCond .ne (104), 3, 0, 214), (113, .aload_n 0, 1, 0, 114), (114, .getfield 47, 3, 0, 117), (117, .iload 6, 2, 0, 119), (119, .iconst 5, 1, 5, 120), (120, .idiv, 1, 0, 121), (121, .baload, 1, 0, 122), (122, .ifCond .ne (18), 3, 0, 140), (125, .aload_n 0, 1, 0, 126), (126, .getfield 59, 3, 0, 129), (129, .iload 6, 2, 0, 131), (131, .iaload, 1, 0, 132), (132, .iload_n 2, 1, 0, 133), (133, .if_icmp .ne (7), 3, 0, 140)]
theorem kMd_node_1 : bOK cX12_node 8 pMd_node_1 = true := by decide +kernel
def pMd_node_2 : List BR := [(136, .iconst 1, 1, 1, 137), (137, .goto (4), 3, 0, 141), (140, .iconst 0, 1, 0, 141), (141, .istore 7, 2, 0, 143), (143, .aload_n 0, 1, 0, 144), (144, .getfield 59, 3, 0, 147), (147, .iload 6, 2, 0, 149), (149, .iload 7, 2, 0, 151), (151, .ifCond .eq (7), 3, 0, 158), (154, .iconst (-1), 1, -1, 155), (155, .goto (10), 3, 0, 165), (158, .aload_n 0, 1, 0, 159), (159, .getfield 59, 3, 0, 162), (162, .iload 6, 2, 0, 164), (164, .iaload, 1, 0, 165), (165, .iastore, 1, 0, 166), (166, .aload_n 0, 1, 0, 167), (167, .getfield 65, 3, 0, 170), (170, .iload 6, 2, 0, 172), (172, .aload_n 0, 1, 0, 173), (173, .getfield 65, 3, 0, 176), (176, .iload 6, 2, 0, 178), (178, .baload, 1, 0, 179), (179, .ifCond .eq (12), 3, 0, 191), (182, .iload 7, 2, 0, 184), (184, .ifCond .ne (7), 3, 0, 191), (187, .iconst 1, 1, 1, 188), (188, .goto (4), 3, 0, 192), (191, .iconst 0, 1, 0, 192), (192, .bastore, 1, 0, 193), (193, .iload 5, 2, 0, 195), (195, .iload 7, 2, 0, 197), (197, .ifCond .eq (7), 3, 0, 204), (200, .iconst 1, 1, 1, 201), (201, .goto (4), 3, 0, 205), (204, .iconst 0, 1, 0, 205), (205, .iadd, 1, 0, 206), (206, .istore 5, 2, 0, 208), (208, .iinc 6 (1), 3, 1, 211), (211, .goto (-120), 3, 0, 91)]
theorem kMd_node_2 : bOK cX12_node 8 pMd_node_2 = true := by decide +kernel
def pMd_node_3 : List BR := [(214, .iload 5, 2, 0, 216), (216, .ireturn, 1, 0, 217)]
theorem kMd_node_3 : bOK cX12_node 8 pMd_node_3 = true := by decide +kernel
def pMd_node : List BR := (pMd_node_0 ++ (pMd_node_1 ++ (pMd_node_2 ++ pMd_node_3)))
theorem kMd_node : bOK cX12_node 8 pMd_node = true := (bOK_app kMd_node_0 (bOK_app kMd_node_1 (bOK_app kMd_node_2 kMd_node_3)))
def fMd_node_j205 (k91 : Int32 → Int32 → Int32 → Int32 → Int32 → Sg → Option (Int32 × Sg)) (x1 : Int32) (x2 : Int32) (x3 : Int32) (x6 : Int32) (s0 : Int32) (s1 : Int32) (σ : Sg) : Option (Int32 × Sg) :=
  k91 x1 x2 x3 (s1 + s0) (x6 + 1) σ
theorem wMd_node_j205 {X : MC} {G : GE} {n0 : Nat} (hG : gH G = true) (C : CX X G RX12 cX12_node pMd_node 8 (some .int) n0) (htab : ∀ z ∈ X.2.2.2.2.2.2.2.2.exceptionTable.toList, False) {M : Mm} {n : Nat} (k91 : Int32 → Int32 → Int32 → Int32 → Int32 → Sg → Option (Int32 × Sg)) (H91 : ∀ (x1 : Int32) (x2 : Int32) (x3 : Int32) (x5 : Int32) (x6 : Int32) (σ : Sg), JS X G 8 300 0 n0 (EM X G n0 4 300 (eS rvI M n)) (k91 x1 x2 x3 x5 x6 σ) (σ, M, n) 91 [(0, .inr (.inl (some (gM G)))), (1, .inl x1), (2, .inl x2), (3, .inl x3), (5, .inl x5), (6, .inl x6)] []) (x1 : Int32) (x2 : Int32) (x3 : Int32) (x6 : Int32) (s0 : Int32) (s1 : Int32) (σ : Sg) : JS X G 8 300 0 n0 (EM X G n0 4 300 (eS rvI M n)) (fMd_node_j205 k91 x1 x2 x3 x6 s0 s1 σ) (σ, M, n) 205 [(0, .inr (.inl (some (gM G)))), (1, .inl x1), (2, .inl x2), (3, .inl x3), (6, .inl x6)] [.inl s0, .inl s1] := by
  unfold fMd_node_j205
  refine s_blk C 116 4 [0, 1, 2, 3, 5, 6] (pc' := 91) (lv' := [(0, .inr (.inl (some (gM G)))), (1, .inl x1), (2, .inl x2), (3, .inl x3), (5, .inl (s1 + s0)), (6, .inl (x6 + 1))]) (st' := []) rfl ?_
  exact H91 _ _ _ _ _ _
def fMd_node_j192 (k91 : Int32 → Int32 → Int32 → Int32 → Int32 → Sg → Option (Int32 × Sg)) (x1 : Int32) (x2 : Int32) (x3 : Int32) (x5 : Int32) (x6 : Int32) (x7 : Int32) (s0 : Int32) (s1 : Int32) (σ : Sg) : Option (Int32 × Sg) :=
  mpZ 25 s1 s0 σ fun σ1 =>
  if x7 = 0 then
    fMd_node_j205 k91 x1 x2 x3 x6 0 x5 σ1
  else
    fMd_node_j205 k91 x1 x2 x3 x6 1 x5 σ1
theorem wMd_node_j192 {X : MC} {G : GE} {n0 : Nat} (hG : gH G = true) (C : CX X G RX12 cX12_node pMd_node 8 (some .int) n0) (htab : ∀ z ∈ X.2.2.2.2.2.2.2.2.exceptionTable.toList, False) {M : Mm} {n : Nat} (k91 : Int32 → Int32 → Int32 → Int32 → Int32 → Sg → Option (Int32 × Sg)) (H91 : ∀ (x1 : Int32) (x2 : Int32) (x3 : Int32) (x5 : Int32) (x6 : Int32) (σ : Sg), JS X G 8 300 0 n0 (EM X G n0 4 300 (eS rvI M n)) (k91 x1 x2 x3 x5 x6 σ) (σ, M, n) 91 [(0, .inr (.inl (some (gM G)))), (1, .inl x1), (2, .inl x2), (3, .inl x3), (5, .inl x5), (6, .inl x6)] []) (x1 : Int32) (x2 : Int32) (x3 : Int32) (x5 : Int32) (x6 : Int32) (x7 : Int32) (s0 : Int32) (s1 : Int32) (σ : Sg) : JS X G 8 300 0 n0 (EM X G n0 4 300 (eS rvI M n)) (fMd_node_j192 k91 x1 x2 x3 x5 x6 x7 s0 s1 σ) (σ, M, n) 192 [(0, .inr (.inl (some (gM G)))), (1, .inl x1), (2, .inl x2), (3, .inl x3), (5, .inl x5), (6, .inl x6), (7, .inl x7)] [.inl s0, .inl s1, .inr (.inl (some (gA G 25)))] := by
  unfold fMd_node_j192
  refine s_mstZ hG C 109 rfl rfl rfl (fun σ1 _ => ?_)
  refine s_blk C 110 2 [0, 1, 2, 3, 6] (pc' := 197) (lv' := [(0, .inr (.inl (some (gM G)))), (1, .inl x1), (2, .inl x2), (3, .inl x3), (6, .inl x6)]) (st' := [.inl x7, .inl x5]) rfl ?_
  refine s_ieq C 112 rfl (fun _ => ?_) (fun _ => ?_)
  · refine s_blk C 115 1 [0, 1, 2, 3, 6] (pc' := 205) (lv' := [(0, .inr (.inl (some (gM G)))), (1, .inl x1), (2, .inl x2), (3, .inl x3), (6, .inl x6)]) (st' := [.inl 0, .inl x5]) rfl ?_
    exact wMd_node_j205 hG C htab k91 H91 _ _ _ _ _ _ _
  refine s_blk C 113 2 [0, 1, 2, 3, 6] (pc' := 205) (lv' := [(0, .inr (.inl (some (gM G)))), (1, .inl x1), (2, .inl x2), (3, .inl x3), (6, .inl x6)]) (st' := [.inl 1, .inl x5]) rfl ?_
  exact wMd_node_j205 hG C htab k91 H91 _ _ _ _ _ _ _
def fMd_node_j191 (k91 : Int32 → Int32 → Int32 → Int32 → Int32 → Sg → Option (Int32 × Sg)) (x1 : Int32) (x2 : Int32) (x3 : Int32) (x5 : Int32) (x6 : Int32) (x7 : Int32) (s0 : Int32) (σ : Sg) : Option (Int32 × Sg) :=
  fMd_node_j192 k91 x1 x2 x3 x5 x6 x7 0 s0 σ
theorem wMd_node_j191 {X : MC} {G : GE} {n0 : Nat} (hG : gH G = true) (C : CX X G RX12 cX12_node pMd_node 8 (some .int) n0) (htab : ∀ z ∈ X.2.2.2.2.2.2.2.2.exceptionTable.toList, False) {M : Mm} {n : Nat} (k91 : Int32 → Int32 → Int32 → Int32 → Int32 → Sg → Option (Int32 × Sg)) (H91 : ∀ (x1 : Int32) (x2 : Int32) (x3 : Int32) (x5 : Int32) (x6 : Int32) (σ : Sg), JS X G 8 300 0 n0 (EM X G n0 4 300 (eS rvI M n)) (k91 x1 x2 x3 x5 x6 σ) (σ, M, n) 91 [(0, .inr (.inl (some (gM G)))), (1, .inl x1), (2, .inl x2), (3, .inl x3), (5, .inl x5), (6, .inl x6)] []) (x1 : Int32) (x2 : Int32) (x3 : Int32) (x5 : Int32) (x6 : Int32) (x7 : Int32) (s0 : Int32) (σ : Sg) : JS X G 8 300 0 n0 (EM X G n0 4 300 (eS rvI M n)) (fMd_node_j191 k91 x1 x2 x3 x5 x6 x7 s0 σ) (σ, M, n) 191 [(0, .inr (.inl (some (gM G)))), (1, .inl x1), (2, .inl x2), (3, .inl x3), (5, .inl x5), (6, .inl x6), (7, .inl x7)] [.inl s0, .inr (.inl (some (gA G 25)))] := by
  unfold fMd_node_j191
  refine s_blk C 108 1 [0, 1, 2, 3, 5, 6, 7] (pc' := 192) (lv' := [(0, .inr (.inl (some (gM G)))), (1, .inl x1), (2, .inl x2), (3, .inl x3), (5, .inl x5), (6, .inl x6), (7, .inl x7)]) (st' := [.inl 0, .inl s0, .inr (.inl (some (gA G 25)))]) rfl ?_
  exact wMd_node_j192 hG C htab k91 H91 _ _ _ _ _ _ _ _ _
def fMd_node_j165 (k91 : Int32 → Int32 → Int32 → Int32 → Int32 → Sg → Option (Int32 × Sg)) (x1 : Int32) (x2 : Int32) (x3 : Int32) (x5 : Int32) (x6 : Int32) (x7 : Int32) (s0 : Int32) (s1 : Int32) (σ : Sg) : Option (Int32 × Sg) :=
  mpA 23 s1 s0 σ fun σ1 =>
  mgA 25 x6 σ1 fun v2 =>
  if v2 = 0 then
    fMd_node_j191 k91 x1 x2 x3 x5 x6 x7 x6 σ1
  else
    if x7 = 0 then
      fMd_node_j192 k91 x1 x2 x3 x5 x6 x7 1 x6 σ1
    else
      fMd_node_j191 k91 x1 x2 x3 x5 x6 x7 x6 σ1
theorem wMd_node_j165 {X : MC} {G : GE} {n0 : Nat} (hG : gH G = true) (C : CX X G RX12 cX12_node pMd_node 8 (some .int) n0) (htab : ∀ z ∈ X.2.2.2.2.2.2.2.2.exceptionTable.toList, False) {M : Mm} {n : Nat} (k91 : Int32 → Int32 → Int32 → Int32 → Int32 → Sg → Option (Int32 × Sg)) (H91 : ∀ (x1 : Int32) (x2 : Int32) (x3 : Int32) (x5 : Int32) (x6 : Int32) (σ : Sg), JS X G 8 300 0 n0 (EM X G n0 4 300 (eS rvI M n)) (k91 x1 x2 x3 x5 x6 σ) (σ, M, n) 91 [(0, .inr (.inl (some (gM G)))), (1, .inl x1), (2, .inl x2), (3, .inl x3), (5, .inl x5), (6, .inl x6)] []) (x1 : Int32) (x2 : Int32) (x3 : Int32) (x5 : Int32) (x6 : Int32) (x7 : Int32) (s0 : Int32) (s1 : Int32) (σ : Sg) : JS X G 8 300 0 n0 (EM X G n0 4 300 (eS rvI M n)) (fMd_node_j165 k91 x1 x2 x3 x5 x6 x7 s0 s1 σ) (σ, M, n) 165 [(0, .inr (.inl (some (gM G)))), (1, .inl x1), (2, .inl x2), (3, .inl x3), (5, .inl x5), (6, .inl x6), (7, .inl x7)] [.inl s0, .inl s1, .inr (.inl (some (gA G 23)))] := by
  unfold fMd_node_j165
  refine s_mstI hG C 95 rfl rfl rfl (fun σ1 _ => ?_)
  refine s_blk C 96 1 [0, 1, 2, 3, 5, 6, 7] (pc' := 167) (lv' := [(0, .inr (.inl (some (gM G)))), (1, .inl x1), (2, .inl x2), (3, .inl x3), (5, .inl x5), (6, .inl x6), (7, .inl x7)]) (st' := [.inr (.inl (some (gM G)))]) rfl ?_
  refine s_mR hG C 97 rfl 25 fl_X12_65 rfl ?_
  refine s_blk C 98 2 [0, 1, 2, 3, 5, 6, 7] (pc' := 173) (lv' := [(0, .inr (.inl (some (gM G)))), (1, .inl x1), (2, .inl x2), (3, .inl x3), (5, .inl x5), (6, .inl x6), (7, .inl x7)]) (st' := [.inr (.inl (some (gM G))), .inl x6, .inr (.inl (some (gA G 25)))]) rfl ?_
  refine s_mR hG C 100 rfl 25 fl_X12_65 rfl ?_
  refine s_blk C 101 1 [0, 1, 2, 3, 5, 6, 7] (pc' := 178) (lv' := [(0, .inr (.inl (some (gM G)))), (1, .inl x1), (2, .inl x2), (3, .inl x3), (5, .inl x5), (6, .inl x6), (7, .inl x7)]) (st' := [.inl x6, .inr (.inl (some (gA G 25))), .inl x6, .inr (.inl (some (gA G 25)))]) rfl ?_
  refine s_mldZ hG C 102 rfl rfl rfl (fun v2 => ?_)
  refine s_ieq C 103 rfl (fun _ => ?_) (fun _ => ?_)
  · exact wMd_node_j191 hG C htab k91 H91 _ _ _ _ _ _ _ _
  refine s_blk C 104 1 [0, 1, 2, 3, 5, 6, 7] (pc' := 184) (lv' := [(0, .inr (.inl (some (gM G)))), (1, .inl x1), (2, .inl x2), (3, .inl x3), (5, .inl x5), (6, .inl x6), (7, .inl x7)]) (st' := [.inl x7, .inl x6, .inr (.inl (some (gA G 25)))]) rfl ?_
  refine s_ine C 105 rfl (fun _ => ?_) (fun _ => ?_)
  · refine s_blk C 106 2 [0, 1, 2, 3, 5, 6, 7] (pc' := 192) (lv' := [(0, .inr (.inl (some (gM G)))), (1, .inl x1), (2, .inl x2), (3, .inl x3), (5, .inl x5), (6, .inl x6), (7, .inl x7)]) (st' := [.inl 1, .inl x6, .inr (.inl (some (gA G 25)))]) rfl ?_
    exact wMd_node_j192 hG C htab k91 H91 _ _ _ _ _ _ _ _ _
  exact wMd_node_j191 hG C htab k91 H91 _ _ _ _ _ _ _ _
def fMd_node_j141 (k91 : Int32 → Int32 → Int32 → Int32 → Int32 → Sg → Option (Int32 × Sg)) (x1 : Int32) (x2 : Int32) (x3 : Int32) (x5 : Int32) (x6 : Int32) (s0 : Int32) (σ : Sg) : Option (Int32 × Sg) :=
  if s0 = 0 then
    mgA 23 x6 σ fun v1 =>
    fMd_node_j165 k91 x1 x2 x3 x5 x6 s0 v1 x6 σ
  else
    fMd_node_j165 k91 x1 x2 x3 x5 x6 s0 (-1) x6 σ
theorem wMd_node_j141 {X : MC} {G : GE} {n0 : Nat} (hG : gH G = true) (C : CX X G RX12 cX12_node pMd_node 8 (some .int) n0) (htab : ∀ z ∈ X.2.2.2.2.2.2.2.2.exceptionTable.toList, False) {M : Mm} {n : Nat} (k91 : Int32 → Int32 → Int32 → Int32 → Int32 → Sg → Option (Int32 × Sg)) (H91 : ∀ (x1 : Int32) (x2 : Int32) (x3 : Int32) (x5 : Int32) (x6 : Int32) (σ : Sg), JS X G 8 300 0 n0 (EM X G n0 4 300 (eS rvI M n)) (k91 x1 x2 x3 x5 x6 σ) (σ, M, n) 91 [(0, .inr (.inl (some (gM G)))), (1, .inl x1), (2, .inl x2), (3, .inl x3), (5, .inl x5), (6, .inl x6)] []) (x1 : Int32) (x2 : Int32) (x3 : Int32) (x5 : Int32) (x6 : Int32) (s0 : Int32) (σ : Sg) : JS X G 8 300 0 n0 (EM X G n0 4 300 (eS rvI M n)) (fMd_node_j141 k91 x1 x2 x3 x5 x6 s0 σ) (σ, M, n) 141 [(0, .inr (.inl (some (gM G)))), (1, .inl x1), (2, .inl x2), (3, .inl x3), (5, .inl x5), (6, .inl x6)] [.inl s0] := by
  unfold fMd_node_j141
  refine s_blk C 83 2 [0, 1, 2, 3, 5, 6, 7] (pc' := 144) (lv' := [(0, .inr (.inl (some (gM G)))), (1, .inl x1), (2, .inl x2), (3, .inl x3), (5, .inl x5), (6, .inl x6), (7, .inl s0)]) (st' := [.inr (.inl (some (gM G)))]) rfl ?_
  refine s_mR hG C 85 rfl 23 fl_X12_59 rfl ?_
  refine s_blk C 86 2 [0, 1, 2, 3, 5, 6, 7] (pc' := 151) (lv' := [(0, .inr (.inl (some (gM G)))), (1, .inl x1), (2, .inl x2), (3, .inl x3), (5, .inl x5), (6, .inl x6), (7, .inl s0)]) (st' := [.inl s0, .inl x6, .inr (.inl (some (gA G 23)))]) rfl ?_
  refine s_ieq C 88 rfl (fun _ => ?_) (fun _ => ?_)
  · refine s_blk C 91 1 [0, 1, 2, 3, 5, 6, 7] (pc' := 159) (lv' := [(0, .inr (.inl (some (gM G)))), (1, .inl x1), (2, .inl x2), (3, .inl x3), (5, .inl x5), (6, .inl x6), (7, .inl s0)]) (st' := [.inr (.inl (some (gM G))), .inl x6, .inr (.inl (some (gA G 23)))]) rfl ?_
    refine s_mR hG C 92 rfl 23 fl_X12_59 rfl ?_
    refine s_blk C 93 1 [0, 1, 2, 3, 5, 6, 7] (pc' := 164) (lv' := [(0, .inr (.inl (some (gM G)))), (1, .inl x1), (2, .inl x2), (3, .inl x3), (5, .inl x5), (6, .inl x6), (7, .inl s0)]) (st' := [.inl x6, .inr (.inl (some (gA G 23))), .inl x6, .inr (.inl (some (gA G 23)))]) rfl ?_
    refine s_mldI hG C 94 rfl rfl rfl (fun v1 => ?_)
    exact wMd_node_j165 hG C htab k91 H91 _ _ _ _ _ _ _ _ _
  refine s_blk C 89 2 [0, 1, 2, 3, 5, 6, 7] (pc' := 165) (lv' := [(0, .inr (.inl (some (gM G)))), (1, .inl x1), (2, .inl x2), (3, .inl x3), (5, .inl x5), (6, .inl x6), (7, .inl s0)]) (st' := [.inl (-1), .inl x6, .inr (.inl (some (gA G 23)))]) rfl ?_
  exact wMd_node_j165 hG C htab k91 H91 _ _ _ _ _ _ _ _ _
def fMd_node_j140 (k91 : Int32 → Int32 → Int32 → Int32 → Int32 → Sg → Option (Int32 × Sg)) (x1 : Int32) (x2 : Int32) (x3 : Int32) (x5 : Int32) (x6 : Int32) (σ : Sg) : Option (Int32 × Sg) :=
  fMd_node_j141 k91 x1 x2 x3 x5 x6 0 σ
theorem wMd_node_j140 {X : MC} {G : GE} {n0 : Nat} (hG : gH G = true) (C : CX X G RX12 cX12_node pMd_node 8 (some .int) n0) (htab : ∀ z ∈ X.2.2.2.2.2.2.2.2.exceptionTable.toList, False) {M : Mm} {n : Nat} (k91 : Int32 → Int32 → Int32 → Int32 → Int32 → Sg → Option (Int32 × Sg)) (H91 : ∀ (x1 : Int32) (x2 : Int32) (x3 : Int32) (x5 : Int32) (x6 : Int32) (σ : Sg), JS X G 8 300 0 n0 (EM X G n0 4 300 (eS rvI M n)) (k91 x1 x2 x3 x5 x6 σ) (σ, M, n) 91 [(0, .inr (.inl (some (gM G)))), (1, .inl x1), (2, .inl x2), (3, .inl x3), (5, .inl x5), (6, .inl x6)] []) (x1 : Int32) (x2 : Int32) (x3 : Int32) (x5 : Int32) (x6 : Int32) (σ : Sg) : JS X G 8 300 0 n0 (EM X G n0 4 300 (eS rvI M n)) (fMd_node_j140 k91 x1 x2 x3 x5 x6 σ) (σ, M, n) 140 [(0, .inr (.inl (some (gM G)))), (1, .inl x1), (2, .inl x2), (3, .inl x3), (5, .inl x5), (6, .inl x6)] [] := by
  unfold fMd_node_j140
  refine s_blk C 82 1 [0, 1, 2, 3, 5, 6] (pc' := 141) (lv' := [(0, .inr (.inl (some (gM G)))), (1, .inl x1), (2, .inl x2), (3, .inl x3), (5, .inl x5), (6, .inl x6)]) (st' := [.inl 0]) rfl ?_
  exact wMd_node_j141 hG C htab k91 H91 _ _ _ _ _ _ _
def fMd_node_b91 (k91 : Int32 → Int32 → Int32 → Int32 → Int32 → Sg → Option (Int32 × Sg)) (x1 : Int32) (x2 : Int32) (x3 : Int32) (x5 : Int32) (x6 : Int32) (σ : Sg) : Option (Int32 × Sg) :=
  mgA 18 x1 σ fun v1 =>
  if (5 * ((90 * x1) + v1)) ≤ x6 then
    some (x5, σ)
  else
    if x3 = 0 then
      mgA 19 (x6 / 5) σ fun v2 =>
      if v2 = 0 then
        mgA 23 x6 σ fun v3 =>
        if v3 = x2 then
          fMd_node_j141 k91 x1 x2 x3 x5 x6 1 σ
        else
          fMd_node_j140 k91 x1 x2 x3 x5 x6 σ
      else
        fMd_node_j140 k91 x1 x2 x3 x5 x6 σ
    else
      some (x5, σ)
theorem wMd_node_b91 {X : MC} {G : GE} {n0 : Nat} (hG : gH G = true) (C : CX X G RX12 cX12_node pMd_node 8 (some .int) n0) (htab : ∀ z ∈ X.2.2.2.2.2.2.2.2.exceptionTable.toList, False) {M : Mm} {n : Nat} (k91 : Int32 → Int32 → Int32 → Int32 → Int32 → Sg → Option (Int32 × Sg)) (H91 : ∀ (x1 : Int32) (x2 : Int32) (x3 : Int32) (x5 : Int32) (x6 : Int32) (σ : Sg), JS X G 8 300 0 n0 (EM X G n0 4 300 (eS rvI M n)) (k91 x1 x2 x3 x5 x6 σ) (σ, M, n) 91 [(0, .inr (.inl (some (gM G)))), (1, .inl x1), (2, .inl x2), (3, .inl x3), (5, .inl x5), (6, .inl x6)] []) (x1 : Int32) (x2 : Int32) (x3 : Int32) (x5 : Int32) (x6 : Int32) (σ : Sg) : JS X G 8 300 0 n0 (EM X G n0 4 300 (eS rvI M n)) (fMd_node_b91 k91 x1 x2 x3 x5 x6 σ) (σ, M, n) 91 [(0, .inr (.inl (some (gM G)))), (1, .inl x1), (2, .inl x2), (3, .inl x3), (5, .inl x5), (6, .inl x6)] [] := by
  unfold fMd_node_b91
  refine s_blk C 53 6 [0, 1, 2, 3, 5, 6] (pc' := 99) (lv' := [(0, .inr (.inl (some (gM G)))), (1, .inl x1), (2, .inl x2), (3, .inl x3), (5, .inl x5), (6, .inl x6)]) (st' := [.inr (.inl (some (gM G))), .inl (90 * x1), .inl 5, .inl x6]) rfl ?_
  refine s_mR hG C 59 rfl 18 fl_X12_44 rfl ?_
  refine s_blk C 60 1 [0, 1, 2, 3, 5, 6] (pc' := 103) (lv' := [(0, .inr (.inl (some (gM G)))), (1, .inl x1), (2, .inl x2), (3, .inl x3), (5, .inl x5), (6, .inl x6)]) (st' := [.inl x1, .inr (.inl (some (gA G 18))), .inl (90 * x1), .inl 5, .inl x6]) rfl ?_
  refine s_mldI hG C 61 rfl rfl rfl (fun v1 => ?_)
  refine s_blk C 62 2 [0, 1, 2, 3, 5, 6] (pc' := 106) (lv' := [(0, .inr (.inl (some (gM G)))), (1, .inl x1), (2, .inl x2), (3, .inl x3), (5, .inl x5), (6, .inl x6)]) (st' := [.inl (5 * ((90 * x1) + v1)), .inl x6]) rfl ?_
  refine s_icge C 64 rfl (fun _ => ?_) (fun _ => ?_)
  · refine s_blk C 120 1 [] (pc' := 216) (lv' := []) (st' := [.inl x5]) rfl ?_
    exact s_iret C 121 rfl rfl
  refine s_blk C 65 1 [0, 1, 2, 3, 5, 6] (pc' := 110) (lv' := [(0, .inr (.inl (some (gM G)))), (1, .inl x1), (2, .inl x2), (3, .inl x3), (5, .inl x5), (6, .inl x6)]) (st' := [.inl x3]) rfl ?_
  refine s_ine C 66 rfl (fun _ => ?_) (fun _ => ?_)
  · refine s_blk C 67 1 [0, 1, 2, 3, 5, 6] (pc' := 114) (lv' := [(0, .inr (.inl (some (gM G)))), (1, .inl x1), (2, .inl x2), (3, .inl x3), (5, .inl x5), (6, .inl x6)]) (st' := [.inr (.inl (some (gM G)))]) rfl ?_
    refine s_mR hG C 68 rfl 19 fl_X12_47 rfl ?_
    refine s_blk C 69 2 [0, 1, 2, 3, 5, 6] (pc' := 120) (lv' := [(0, .inr (.inl (some (gM G)))), (1, .inl x1), (2, .inl x2), (3, .inl x3), (5, .inl x5), (6, .inl x6)]) (st' := [.inl 5, .inl x6, .inr (.inl (some (gA G 19)))]) rfl ?_
    refine s_idiv C 71 rfl (by decide) ?_
    refine s_mldZ hG C 72 rfl rfl rfl (fun v2 => ?_)
    refine s_ine C 73 rfl (fun _ => ?_) (fun _ => ?_)
    · refine s_blk C 74 1 [0, 1, 2, 3, 5, 6] (pc' := 126) (lv' := [(0, .inr (.inl (some (gM G)))), (1, .inl x1), (2, .inl x2), (3, .inl x3), (5, .inl x5), (6, .inl x6)]) (st' := [.inr (.inl (some (gM G)))]) rfl ?_
      refine s_mR hG C 75 rfl 23 fl_X12_59 rfl ?_
      refine s_blk C 76 1 [0, 1, 2, 3, 5, 6] (pc' := 131) (lv' := [(0, .inr (.inl (some (gM G)))), (1, .inl x1), (2, .inl x2), (3, .inl x3), (5, .inl x5), (6, .inl x6)]) (st' := [.inl x6, .inr (.inl (some (gA G 23)))]) rfl ?_
      refine s_mldI hG C 77 rfl rfl rfl (fun v3 => ?_)
      refine s_blk C 78 1 [0, 1, 2, 3, 5, 6] (pc' := 133) (lv' := [(0, .inr (.inl (some (gM G)))), (1, .inl x1), (2, .inl x2), (3, .inl x3), (5, .inl x5), (6, .inl x6)]) (st' := [.inl x2, .inl v3]) rfl ?_
      refine s_icne C 79 rfl (fun _ => ?_) (fun _ => ?_)
      · refine s_blk C 80 2 [0, 1, 2, 3, 5, 6] (pc' := 141) (lv' := [(0, .inr (.inl (some (gM G)))), (1, .inl x1), (2, .inl x2), (3, .inl x3), (5, .inl x5), (6, .inl x6)]) (st' := [.inl 1]) rfl ?_
        exact wMd_node_j141 hG C htab k91 H91 _ _ _ _ _ _ _
      exact wMd_node_j140 hG C htab k91 H91 _ _ _ _ _ _
    exact wMd_node_j140 hG C htab k91 H91 _ _ _ _ _ _
  refine s_blk C 120 1 [] (pc' := 216) (lv' := []) (st' := [.inl x5]) rfl ?_
  exact s_iret C 121 rfl rfl
def fMd_node_l91 (fu : Nat) : Int32 → Int32 → Int32 → Int32 → Int32 → Sg → Option (Int32 × Sg) := Nat.rec (fun x1 x2 x3 x5 x6 σ => none) (fun _ k => fMd_node_b91 k) fu
theorem wMd_node_l91 {X : MC} {G : GE} {n0 : Nat} (hG : gH G = true) (C : CX X G RX12 cX12_node pMd_node 8 (some .int) n0) (htab : ∀ z ∈ X.2.2.2.2.2.2.2.2.exceptionTable.toList, False) {M : Mm} {n : Nat} : ∀ (fu : Nat) (x1 : Int32) (x2 : Int32) (x3 : Int32) (x5 : Int32) (x6 : Int32) (σ : Sg), JS X G 8 300 0 n0 (EM X G n0 4 300 (eS rvI M n)) (fMd_node_l91 fu x1 x2 x3 x5 x6 σ) (σ, M, n) 91 [(0, .inr (.inl (some (gM G)))), (1, .inl x1), (2, .inl x2), (3, .inl x3), (5, .inl x5), (6, .inl x6)] [] := by
  intro fu
  induction fu with
  | zero => intro x1 x2 x3 x5 x6 σ; exact s_none
  | succ fu ih => intro x1 x2 x3 x5 x6 σ; exact wMd_node_b91 hG C htab (fMd_node_l91 fu) ih _ _ _ _ _ _
def fMd_node_j80 (x1 : Int32) (x2 : Int32) (x3 : Int32) (s0 : Int32) (s1 : Int32) (σ : Sg) : Option (Int32 × Sg) :=
  mpZ 17 s1 s0 σ fun σ1 =>
  fMd_node_l91 FU x1 x2 x3 0 (450 * x1) σ1
theorem wMd_node_j80 {X : MC} {G : GE} {n0 : Nat} (hG : gH G = true) (C : CX X G RX12 cX12_node pMd_node 8 (some .int) n0) (htab : ∀ z ∈ X.2.2.2.2.2.2.2.2.exceptionTable.toList, False) {M : Mm} {n : Nat} (x1 : Int32) (x2 : Int32) (x3 : Int32) (s0 : Int32) (s1 : Int32) (σ : Sg) : JS X G 8 300 0 n0 (EM X G n0 4 300 (eS rvI M n)) (fMd_node_j80 x1 x2 x3 s0 s1 σ) (σ, M, n) 80 [(0, .inr (.inl (some (gM G)))), (1, .inl x1), (2, .inl x2), (3, .inl x3)] [.inl s0, .inl s1, .inr (.inl (some (gA G 17)))] := by
  unfold fMd_node_j80
  refine s_mstZ hG C 46 rfl rfl rfl (fun σ1 _ => ?_)
  refine s_blk C 47 6 [0, 1, 2, 3, 5, 6] (pc' := 91) (lv' := [(0, .inr (.inl (some (gM G)))), (1, .inl x1), (2, .inl x2), (3, .inl x3), (5, .inl 0), (6, .inl (450 * x1))]) (st' := []) rfl ?_
  exact wMd_node_l91 hG C htab FU _ _ _ _ _ _
def fMd_node_j53 (x1 : Int32) (x2 : Int32) (x3 : Int32) (s0 : Int32) (σ : Sg) : Option (Int32 × Sg) :=
  bdW (fMd_holds s0 σ) fun v1 σ2 =>
  if v1 = 0 then
    some (0, σ2)
  else
    if x3 = 0 then
      fMd_node_j80 x1 x2 x3 1 ((6 * x1) + x2) σ2
    else
      fMd_node_j80 x1 x2 x3 0 ((6 * x1) + x2) σ2
theorem wMd_node_j53 {X : MC} {G : GE} {n0 : Nat} (hG : gH G = true) (C : CX X G RX12 cX12_node pMd_node 8 (some .int) n0) (htab : ∀ z ∈ X.2.2.2.2.2.2.2.2.exceptionTable.toList, False) {M : Mm} {n : Nat} (x1 : Int32) (x2 : Int32) (x3 : Int32) (s0 : Int32) (σ : Sg) : JS X G 8 300 0 n0 (EM X G n0 4 300 (eS rvI M n)) (fMd_node_j53 x1 x2 x3 s0 σ) (σ, M, n) 53 [(0, .inr (.inl (some (gM G)))), (1, .inl x1), (2, .inl x2), (3, .inl x3)] [.inl s0, .inr (.inl (some (gM G)))] := by
  unfold fMd_node_j53
  refine s_SI (CE_EM _ _ _ _ _ _) (st := []) (fun o ho => j_callV (As := [.inl s0]) (st := []) (b := gM G) C 30 rfl mf_Md_holds ml_X12_150 rfl (recv_M hG C) (by decide) (by decide) (Nat.le_refl _) rfl (cMd_holds (CX_tr C) hG σ M n s0 o ho)) (fun v1 σ2 => ?_)
  refine s_ine C 31 rfl (fun _ => ?_) (fun _ => ?_)
  · refine s_blk C 32 1 [] (pc' := 60) (lv' := []) (st' := [.inl 0]) rfl ?_
    exact s_iret C 33 rfl rfl
  refine s_blk C 34 1 [0, 1, 2, 3] (pc' := 62) (lv' := [(0, .inr (.inl (some (gM G)))), (1, .inl x1), (2, .inl x2), (3, .inl x3)]) (st' := [.inr (.inl (some (gM G)))]) rfl ?_
  refine s_mR hG C 35 rfl 17 fl_X12_40 rfl ?_
  refine s_blk C 36 6 [0, 1, 2, 3] (pc' := 72) (lv' := [(0, .inr (.inl (some (gM G)))), (1, .inl x1), (2, .inl x2), (3, .inl x3)]) (st' := [.inl x3, .inl ((6 * x1) + x2), .inr (.inl (some (gA G 17)))]) rfl ?_
  refine s_ine C 42 rfl (fun _ => ?_) (fun _ => ?_)
  · refine s_blk C 43 2 [0, 1, 2, 3] (pc' := 80) (lv' := [(0, .inr (.inl (some (gM G)))), (1, .inl x1), (2, .inl x2), (3, .inl x3)]) (st' := [.inl 1, .inl ((6 * x1) + x2), .inr (.inl (some (gA G 17)))]) rfl ?_
    exact wMd_node_j80 hG C htab _ _ _ _ _ _
  refine s_blk C 45 1 [0, 1, 2, 3] (pc' := 80) (lv' := [(0, .inr (.inl (some (gM G)))), (1, .inl x1), (2, .inl x2), (3, .inl x3)]) (st' := [.inl 0, .inl ((6 * x1) + x2), .inr (.inl (some (gA G 17)))]) rfl ?_
  exact wMd_node_j80 hG C htab _ _ _ _ _ _
def fMd_node_j21 (x1 : Int32) (x2 : Int32) (x3 : Int32) (s0 : Int32) (σ : Sg) : Option (Int32 × Sg) :=
  if s0 = 0 then
    fMd_node_j53 x1 x2 x3 1 σ
  else
    mgA 17 ((6 * x1) + x2) σ fun v1 =>
    if v1 = x3 then
      fMd_node_j53 x1 x2 x3 0 σ
    else
      fMd_node_j53 x1 x2 x3 2 σ
theorem wMd_node_j21 {X : MC} {G : GE} {n0 : Nat} (hG : gH G = true) (C : CX X G RX12 cX12_node pMd_node 8 (some .int) n0) (htab : ∀ z ∈ X.2.2.2.2.2.2.2.2.exceptionTable.toList, False) {M : Mm} {n : Nat} (x1 : Int32) (x2 : Int32) (x3 : Int32) (s0 : Int32) (σ : Sg) : JS X G 8 300 0 n0 (EM X G n0 4 300 (eS rvI M n)) (fMd_node_j21 x1 x2 x3 s0 σ) (σ, M, n) 21 [(0, .inr (.inl (some (gM G)))), (1, .inl x1), (2, .inl x2), (3, .inl x3)] [.inl s0] := by
  unfold fMd_node_j21
  refine s_blk C 11 3 [0, 1, 2, 3] (pc' := 26) (lv' := [(0, .inr (.inl (some (gM G)))), (1, .inl x1), (2, .inl x2), (3, .inl x3)]) (st' := [.inl s0, .inr (.inl (some (gM G)))]) rfl ?_
  refine s_ine C 14 rfl (fun _ => ?_) (fun _ => ?_)
  · refine s_blk C 15 2 [0, 1, 2, 3] (pc' := 53) (lv' := [(0, .inr (.inl (some (gM G)))), (1, .inl x1), (2, .inl x2), (3, .inl x3)]) (st' := [.inl 1, .inr (.inl (some (gM G)))]) rfl ?_
    exact wMd_node_j53 hG C htab _ _ _ _ _
  refine s_blk C 17 1 [0, 1, 2, 3] (pc' := 34) (lv' := [(0, .inr (.inl (some (gM G)))), (1, .inl x1), (2, .inl x2), (3, .inl x3)]) (st' := [.inr (.inl (some (gM G))), .inr (.inl (some (gM G)))]) rfl ?_
  refine s_mR hG C 18 rfl 17 fl_X12_40 rfl ?_
  refine s_blk C 19 5 [0, 1, 2, 3] (pc' := 43) (lv' := [(0, .inr (.inl (some (gM G)))), (1, .inl x1), (2, .inl x2), (3, .inl x3)]) (st' := [.inl ((6 * x1) + x2), .inr (.inl (some (gA G 17))), .inr (.inl (some (gM G)))]) rfl ?_
  refine s_mldZ hG C 24 rfl rfl rfl (fun v1 => ?_)
  refine s_blk C 25 1 [0, 1, 2, 3] (pc' := 45) (lv' := [(0, .inr (.inl (some (gM G)))), (1, .inl x1), (2, .inl x2), (3, .inl x3)]) (st' := [.inl x3, .inl v1, .inr (.inl (some (gM G)))]) rfl ?_
  refine s_iceq C 26 rfl (fun _ => ?_) (fun _ => ?_)
  · refine s_blk C 29 1 [0, 1, 2, 3] (pc' := 53) (lv' := [(0, .inr (.inl (some (gM G)))), (1, .inl x1), (2, .inl x2), (3, .inl x3)]) (st' := [.inl 0, .inr (.inl (some (gM G)))]) rfl ?_
    exact wMd_node_j53 hG C htab _ _ _ _ _
  refine s_blk C 27 2 [0, 1, 2, 3] (pc' := 53) (lv' := [(0, .inr (.inl (some (gM G)))), (1, .inl x1), (2, .inl x2), (3, .inl x3)]) (st' := [.inl 2, .inr (.inl (some (gM G)))]) rfl ?_
  exact wMd_node_j53 hG C htab _ _ _ _ _
def fMd_node_j20 (x1 : Int32) (x2 : Int32) (x3 : Int32) (σ : Sg) : Option (Int32 × Sg) :=
  fMd_node_j21 x1 x2 x3 0 σ
theorem wMd_node_j20 {X : MC} {G : GE} {n0 : Nat} (hG : gH G = true) (C : CX X G RX12 cX12_node pMd_node 8 (some .int) n0) (htab : ∀ z ∈ X.2.2.2.2.2.2.2.2.exceptionTable.toList, False) {M : Mm} {n : Nat} (x1 : Int32) (x2 : Int32) (x3 : Int32) (σ : Sg) : JS X G 8 300 0 n0 (EM X G n0 4 300 (eS rvI M n)) (fMd_node_j20 x1 x2 x3 σ) (σ, M, n) 20 [(0, .inr (.inl (some (gM G)))), (1, .inl x1), (2, .inl x2), (3, .inl x3)] [] := by
  unfold fMd_node_j20
  refine s_blk C 10 1 [0, 1, 2, 3] (pc' := 21) (lv' := [(0, .inr (.inl (some (gM G)))), (1, .inl x1), (2, .inl x2), (3, .inl x3)]) (st' := [.inl 0]) rfl ?_
  exact wMd_node_j21 hG C htab _ _ _ _ _
def fMd_node (x1 : Int32) (x2 : Int32) (x3 : Int32) (σ : Sg) : Option (Int32 × Sg) :=
  bdR (fMd_isRegion x1) fun v1 =>
  if v1 = 0 then
    fMd_node_j20 x1 x2 x3 σ
  else
    bdR (fMd_isIn x2 0 5) fun v2 =>
    if v2 = 0 then
      fMd_node_j20 x1 x2 x3 σ
    else
      fMd_node_j21 x1 x2 x3 1 σ
theorem wMd_node {X : MC} {G : GE} {n0 : Nat} (hG : gH G = true) (C : CX X G RX12 cX12_node pMd_node 8 (some .int) n0) (htab : ∀ z ∈ X.2.2.2.2.2.2.2.2.exceptionTable.toList, False) {M : Mm} {n : Nat} (x1 : Int32) (x2 : Int32) (x3 : Int32) (σ : Sg) : JS X G 8 300 0 n0 (EM X G n0 4 300 (eS rvI M n)) (fMd_node x1 x2 x3 σ) (σ, M, n) 0 [(0, .inr (.inl (some (gM G)))), (1, .inl x1), (2, .inl x2), (3, .inl x3)] [] := by
  unfold fMd_node
  refine s_blk C 0 1 [0, 1, 2, 3] (pc' := 1) (lv' := [(0, .inr (.inl (some (gM G)))), (1, .inl x1), (2, .inl x2), (3, .inl x3)]) (st' := [.inl x1]) rfl ?_
  refine s_RI (CE_EM _ _ _ _ _ _) (st := []) (fun o ho => j_callS (As := [.inl x1]) (st := []) C 1 rfl mf_Md_isRegion ml_X12_225 rfl (by decide) (by decide) (Nat.le_refl _) rfl (cMd_isRegion (CX_tr C) hG σ M n x1 o ho)) (fun v1 => ?_)
  refine s_ieq C 2 rfl (fun _ => ?_) (fun _ => ?_)
  · exact wMd_node_j20 hG C htab _ _ _ _
  refine s_blk C 3 3 [0, 1, 2, 3] (pc' := 10) (lv' := [(0, .inr (.inl (some (gM G)))), (1, .inl x1), (2, .inl x2), (3, .inl x3)]) (st' := [.inl 5, .inl 0, .inl x2]) rfl ?_
  refine s_RI (CE_EM _ _ _ _ _ _) (st := []) (fun o ho => j_callS (As := [.inl x2, .inl 0, .inl 5]) (st := []) C 6 rfl mf_Md_isIn ml_X12_132 rfl (by decide) (by decide) (Nat.le_refl _) rfl (cMd_isIn (CX_tr C) hG σ M n x2 0 5 o ho)) (fun v2 => ?_)
  refine s_ieq C 7 rfl (fun _ => ?_) (fun _ => ?_)
  · exact wMd_node_j20 hG C htab _ _ _ _
  refine s_blk C 8 2 [0, 1, 2, 3] (pc' := 21) (lv' := [(0, .inr (.inl (some (gM G)))), (1, .inl x1), (2, .inl x2), (3, .inl x3)]) (st' := [.inl 1]) rfl ?_
  exact wMd_node_j21 hG C htab _ _ _ _ _
theorem cMd_node {l : Launch} {G : GE} (htr : l.stackTraces = false) (hG : gH G = true) (σ : Sg) (M : Mm) (n : Nat) (x1 : Int32) (x2 : Int32) (x3 : Int32) : ∀ o, fMd_node x1 x2 x3 σ = some o → MetX l G yX12_node cX12_node 8 (some .int) 4 300 [.inr (.inl (some (gM G))), .inl x1, .inl x2, .inl x3] (σ, M, n) ((eS rvI M n) o) :=
  c_ofX (by decide) kMd_node htr rfl rfl fun X _ _ C htab => wMd_node hG C htab x1 x2 x3 _

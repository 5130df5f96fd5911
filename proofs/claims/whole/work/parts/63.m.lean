def pMd_rot_0 : List BR := [(0, .aload_n 0, 1, 0, 1), (1, .aload_n 0, 1, 0, 2), (2, .iload_n 1, 1, 0, 3), (3, .iload_n 2, 1, 0, 4), (4, .invokevirtual 303, 3, 0, 7), (7, .ifCond .ne (7), 3, 0, 14), (10, .iconst 1, 1, 1, 11), (11, .goto (17), 3, 0, 28), (14, .iload_n 3, 1, 0, 15), (15, .iconst 0, 1, 0, 16), (16, .iconst 4, 1, 4, 17), (17, .invokestatic 132, 3, 0, 20), (20, .ifCond .eq (7), 3, 0, 27), (23, .iconst 0, 1, 0, 24), (24, .goto (4), 3, 0, 28), (27, .iconst 2, 1, 2, 28), (28, .invokevirtual 150, 3, 0, 31), (31, .ifCond .ne (5), 3, 0, 36), (34, .iconst 0, 1, 0, 35), (35, .ireturn, 1, 0, 36), (36, .bipush 90, 2, 90, 38), (38, .iload_n 1, 1, 0, 39), (39, .imul, 1, 0, 40), (40, .iload_n 2, 1, 0, 41), (41, .iadd, 1, 0, 42), (42, .istore 4, 2, 0, 44), (44, .aload_n 0, 1, 0, 45), (45, .iload 4, 2, 0, 47), (47, .iload_n 3, 1, 0, 48), (48, .invokevirtual 196, 3, 0, 51), (51, .istore 5, 2, 0, 53), (53, .aload_n 0, 1, 0, 54), (54, .getfield 65, 3, 0, 57), (57, .iconst 5, 1, 5, 58), (58, .iload 4, 2, 0, 60), (60, .imul, 1, 0, 61), (61, .iload_n 3, 1, 0, 62), (62, .iadd, 1, 0, 63), (63, .aload_n 0, 1, 0, 64), (64, .getfield 59, 3, 0, 67)]
theorem kMd_rot_0 : bOK cX12_rot 6 pMd_rot_0 = true := by decide +kernel
def pMd_rot_1 : List BR := [(67, .iconst 5, 1, 5, 68), (68, .iload 4, 2, 0, 70), (70, .imul, 1, 0, 71), (71, .iload_n 3, 1, 0, 72), (72, .iadd, 1, 0, 73), (73, .iaload, 1, 0, 74), (74, .iconst (-1), 1, -1, 75), (75, .if_icmp .eq (7), 3, 0, 82), (78, .iconst 1, 1, 1, 79), (79, .goto (4), 3, 0, 83), (82, .iconst 0, 1, 0, 83), (83, .bastore, 1, 0, 84), (84, .iload 5, 2, 0, 86), (86, .ireturn, 1, 0, 87)]
theorem kMd_rot_1 : bOK cX12_rot 6 pMd_rot_1 = true := by decide +kernel
def pMd_rot : List BR := (pMd_rot_0 ++ pMd_rot_1)
theorem kMd_rot : bOK cX12_rot 6 pMd_rot = true := (bOK_app kMd_rot_0 kMd_rot_1)
def fMd_rot_j83 (x5 : Int32) (s0 : Int32) (s1 : Int32) (σ : Sg) : Option (Int32 × Sg) :=
  mpZ 25 s1 s0 σ fun σ1 =>
  rZ x5 (some (x5, σ1))
theorem wMd_rot_j83 {X : MC} {G : GE} {n0 : Nat} (hG : gH G = true) (C : CX X G RX12 cX12_rot pMd_rot 6 (some .boolean) n0) (htab : ∀ z ∈ X.2.2.2.2.2.2.2.2.exceptionTable.toList, False) {M : Mm} {n : Nat} (x5 : Int32) (s0 : Int32) (s1 : Int32) (σ : Sg) : JS X G 6 300 0 n0 (EM X G n0 5 300 (eS rvI M n)) (fMd_rot_j83 x5 s0 s1 σ) (σ, M, n) 83 [(5, .inl x5)] [.inl s0, .inl s1, .inr (.inl (some (gA G 25)))] := by
  unfold fMd_rot_j83
  refine s_mstZ hG C 51 rfl rfl rfl (fun σ1 _ => ?_)
  refine s_blk C 52 1 [] (pc' := 86) (lv' := []) (st' := [.inl x5]) rfl ?_
  exact s_zret C 53 rfl rfl
def fMd_rot_j28 (x1 : Int32) (x2 : Int32) (x3 : Int32) (s0 : Int32) (σ : Sg) : Option (Int32 × Sg) :=
  bdW (fMd_holds s0 σ) fun v1 σ2 =>
  if v1 = 0 then
    rZ 0 (some (0, σ2))
  else
    bdR (fMd_isGood ((90 * x1) + x2) x3 σ2) fun v3 =>
    mgA 23 ((5 * ((90 * x1) + x2)) + x3) σ2 fun v4 =>
    if v4 = (-1) then
      fMd_rot_j83 v3 0 ((5 * ((90 * x1) + x2)) + x3) σ2
    else
      fMd_rot_j83 v3 1 ((5 * ((90 * x1) + x2)) + x3) σ2
theorem wMd_rot_j28 {X : MC} {G : GE} {n0 : Nat} (hG : gH G = true) (C : CX X G RX12 cX12_rot pMd_rot 6 (some .boolean) n0) (htab : ∀ z ∈ X.2.2.2.2.2.2.2.2.exceptionTable.toList, False) {M : Mm} {n : Nat} (x1 : Int32) (x2 : Int32) (x3 : Int32) (s0 : Int32) (σ : Sg) : JS X G 6 300 0 n0 (EM X G n0 5 300 (eS rvI M n)) (fMd_rot_j28 x1 x2 x3 s0 σ) (σ, M, n) 28 [(0, .inr (.inl (some (gM G)))), (1, .inl x1), (2, .inl x2), (3, .inl x3)] [.inl s0, .inr (.inl (some (gM G)))] := by
  unfold fMd_rot_j28
  refine s_SI (CE_EM _ _ _ _ _ _) (st := []) (fun o ho => j_callV (As := [.inl s0]) (st := []) (b := gM G) C 16 rfl mf_Md_holds ml_X12_150 rfl (recv_M hG C) (by decide) (by decide) (Nat.le_refl _) rfl (cMd_holds (CX_tr C) hG σ M n s0 o ho)) (fun v1 σ2 => ?_)
  refine s_ine C 17 rfl (fun _ => ?_) (fun _ => ?_)
  · refine s_blk C 18 1 [] (pc' := 35) (lv' := []) (st' := [.inl 0]) rfl ?_
    exact s_zret C 19 rfl rfl
  refine s_blk C 20 9 [0, 3, 4] (pc' := 48) (lv' := [(0, .inr (.inl (some (gM G)))), (3, .inl x3), (4, .inl ((90 * x1) + x2))]) (st' := [.inl x3, .inl ((90 * x1) + x2), .inr (.inl (some (gM G)))]) rfl ?_
  refine s_RI (CE_EM _ _ _ _ _ _) (st := []) (fun o ho => j_callV (As := [.inl ((90 * x1) + x2), .inl x3]) (st := []) (b := gM G) C 29 rfl mf_Md_isGood ml_X12_196 rfl (recv_M hG C) (by decide) (by decide) (Nat.le_refl _) rfl (cMd_isGood (CX_tr C) hG σ2 M n ((90 * x1) + x2) x3 o ho)) (fun v3 => ?_)
  refine s_blk C 30 2 [0, 3, 4, 5] (pc' := 54) (lv' := [(0, .inr (.inl (some (gM G)))), (3, .inl x3), (4, .inl ((90 * x1) + x2)), (5, .inl v3)]) (st' := [.inr (.inl (some (gM G)))]) rfl ?_
  refine s_mR hG C 32 rfl 25 fl_X12_65 rfl ?_
  refine s_blk C 33 6 [3, 4, 5] (pc' := 64) (lv' := [(3, .inl x3), (4, .inl ((90 * x1) + x2)), (5, .inl v3)]) (st' := [.inr (.inl (some (gM G))), .inl ((5 * ((90 * x1) + x2)) + x3), .inr (.inl (some (gA G 25)))]) rfl ?_
  refine s_mR hG C 39 rfl 23 fl_X12_59 rfl ?_
  refine s_blk C 40 5 [5] (pc' := 73) (lv' := [(5, .inl v3)]) (st' := [.inl ((5 * ((90 * x1) + x2)) + x3), .inr (.inl (some (gA G 23))), .inl ((5 * ((90 * x1) + x2)) + x3), .inr (.inl (some (gA G 25)))]) rfl ?_
  refine s_mldI hG C 45 rfl rfl rfl (fun v4 => ?_)
  refine s_blk C 46 1 [5] (pc' := 75) (lv' := [(5, .inl v3)]) (st' := [.inl (-1), .inl v4, .inl ((5 * ((90 * x1) + x2)) + x3), .inr (.inl (some (gA G 25)))]) rfl ?_
  refine s_iceq C 47 rfl (fun _ => ?_) (fun _ => ?_)
  · refine s_blk C 50 1 [5] (pc' := 83) (lv' := [(5, .inl v3)]) (st' := [.inl 0, .inl ((5 * ((90 * x1) + x2)) + x3), .inr (.inl (some (gA G 25)))]) rfl ?_
    exact wMd_rot_j83 hG C htab _ _ _ _
  refine s_blk C 48 2 [5] (pc' := 83) (lv' := [(5, .inl v3)]) (st' := [.inl 1, .inl ((5 * ((90 * x1) + x2)) + x3), .inr (.inl (some (gA G 25)))]) rfl ?_
  exact wMd_rot_j83 hG C htab _ _ _ _
def fMd_rot (x1 : Int32) (x2 : Int32) (x3 : Int32) (σ : Sg) : Option (Int32 × Sg) :=
  bdR (fMd_isPart x1 x2 σ) fun v1 =>
  if v1 = 0 then
    fMd_rot_j28 x1 x2 x3 1 σ
  else
    bdR (fMd_isIn x3 0 4) fun v2 =>
    if v2 = 0 then
      fMd_rot_j28 x1 x2 x3 2 σ
    else
      fMd_rot_j28 x1 x2 x3 0 σ
theorem wMd_rot {X : MC} {G : GE} {n0 : Nat} (hG : gH G = true) (C : CX X G RX12 cX12_rot pMd_rot 6 (some .boolean) n0) (htab : ∀ z ∈ X.2.2.2.2.2.2.2.2.exceptionTable.toList, False) {M : Mm} {n : Nat} (x1 : Int32) (x2 : Int32) (x3 : Int32) (σ : Sg) : JS X G 6 300 0 n0 (EM X G n0 5 300 (eS rvI M n)) (fMd_rot x1 x2 x3 σ) (σ, M, n) 0 [(0, .inr (.inl (some (gM G)))), (1, .inl x1), (2, .inl x2), (3, .inl x3)] [] := by
  unfold fMd_rot
  refine s_blk C 0 4 [0, 1, 2, 3] (pc' := 4) (lv' := [(0, .inr (.inl (some (gM G)))), (1, .inl x1), (2, .inl x2), (3, .inl x3)]) (st' := [.inl x2, .inl x1, .inr (.inl (some (gM G))), .inr (.inl (some (gM G)))]) rfl ?_
  refine s_RI (CE_EM _ _ _ _ _ _) (st := [.inr (.inl (some (gM G)))]) (fun o ho => j_callV (As := [.inl x1, .inl x2]) (st := [.inr (.inl (some (gM G)))]) (b := gM G) C 4 rfl mf_Md_isPart ml_X12_303 rfl (recv_M hG C) (by decide) (by decide) (Nat.le_refl _) rfl (cMd_isPart (CX_tr C) hG σ M n x1 x2 o ho)) (fun v1 => ?_)
  refine s_ine C 5 rfl (fun _ => ?_) (fun _ => ?_)
  · refine s_blk C 6 2 [0, 1, 2, 3] (pc' := 28) (lv' := [(0, .inr (.inl (some (gM G)))), (1, .inl x1), (2, .inl x2), (3, .inl x3)]) (st' := [.inl 1, .inr (.inl (some (gM G)))]) rfl ?_
    exact wMd_rot_j28 hG C htab _ _ _ _ _
  refine s_blk C 8 3 [0, 1, 2, 3] (pc' := 17) (lv' := [(0, .inr (.inl (some (gM G)))), (1, .inl x1), (2, .inl x2), (3, .inl x3)]) (st' := [.inl 4, .inl 0, .inl x3, .inr (.inl (some (gM G)))]) rfl ?_
  refine s_RI (CE_EM _ _ _ _ _ _) (st := [.inr (.inl (some (gM G)))]) (fun o ho => j_callS (As := [.inl x3, .inl 0, .inl 4]) (st := [.inr (.inl (some (gM G)))]) C 11 rfl mf_Md_isIn ml_X12_132 rfl (by decide) (by decide) (Nat.le_refl _) rfl (cMd_isIn (CX_tr C) hG σ M n x3 0 4 o ho)) (fun v2 => ?_)
  refine s_ieq C 12 rfl (fun _ => ?_) (fun _ => ?_)
  · refine s_blk C 15 1 [0, 1, 2, 3] (pc' := 28) (lv' := [(0, .inr (.inl (some (gM G)))), (1, .inl x1), (2, .inl x2), (3, .inl x3)]) (st' := [.inl 2, .inr (.inl (some (gM G)))]) rfl ?_
    exact wMd_rot_j28 hG C htab _ _ _ _ _
  refine s_blk C 13 2 [0, 1, 2, 3] (pc' := 28) (lv' := [(0, .inr (.inl (some (gM G)))), (1, .inl x1), (2, .inl x2), (3, .inl x3)]) (st' := [.inl 0, .inr (.inl (some (gM G)))]) rfl ?_
  exact wMd_rot_j28 hG C htab _ _ _ _ _
theorem cMd_rot {l : Launch} {G : GE} (htr : l.stackTraces = false) (hG : gH G = true) (σ : Sg) (M : Mm) (n : Nat) (x1 : Int32) (x2 : Int32) (x3 : Int32) : ∀ o, fMd_rot x1 x2 x3 σ = some o → MetX l G yX12_rot cX12_rot 6 (some .boolean) 5 300 [.inr (.inl (some (gM G))), .inl x1, .inl x2, .inl x3] (σ, M, n) ((eS rvI M n) o) :=
  c_ofX (by decide) kMd_rot htr rfl rfl fun X _ _ C htab => wMd_rot hG C htab x1 x2 x3 _
def pMd_rule_0 : List BR := [(0, .iload_n 1, 1, 0, 1), (1, .ifCond .eq (10), 3, 0, 11), (4, .iload_n 1, 1, 0, 5), (5, .invokestatic 228, 3, 0, 8), (8, .ifCond .eq (26), 3, 0, 34), (11, .iload_n 2, 1, 0, 12), (12, .iconst 0, 1, 0, 13), (13, .bipush 99, 2, 99, 15), (15, .invokestatic 132, 3, 0, 18), (18, .ifCond .eq (16), 3, 0, 34), (21, .iload_n 3, 1, 0, 22), (22, .iconst 1, 1, 1, 23), (23, .iconst 3, 1, 3, 24), (24, .invokestatic 132, 3, 0, 27), (27, .ifCond .eq (7), 3, 0, 34), (30, .iconst 1, 1, 1, 31), (31, .goto (4), 3, 0, 35), (34, .iconst 0, 1, 0, 35), (35, .istore 4, 2, 0, 37), (37, .aload_n 0, 1, 0, 38), (38, .iload 4, 2, 0, 40), (40, .ifCond .ne (7), 3, 0, 47), (43, .iconst 1, 1, 1, 44), (44, .goto (17), 3, 0, 61), (47, .aload_n 0, 1, 0, 48), (48, .getfield 315, 3, 0, 51), (51, .bipush 6, 2, 6, 53), (53, .if_icmp .ne (7), 3, 0, 60), (56, .iconst 2, 1, 2, 57), (57, .goto (4), 3, 0, 61), (60, .iconst 0, 1, 0, 61), (61, .invokevirtual 150, 3, 0, 64), (64, .ifCond .ne (5), 3, 0, 69), (67, .iconst 0, 1, 0, 68), (68, .ireturn, 1, 0, 69), (69, .aload_n 0, 1, 0, 70), (70, .getfield 31, 3, 0, 73), (73, .aload_n 0, 1, 0, 74), (74, .getfield 315, 3, 0, 77), (77, .iload_n 1, 1, 0, 78)]
theorem kMd_rule_0 : bOK cX12_rule 5 pMd_rule_0 = true := by decide +kernel
def pMd_rule_1 : List BR := [(78, .iastore, 1, 0, 79), (79, .aload_n 0, 1, 0, 80), (80, .getfield 34, 3, 0, 83), (83, .aload_n 0, 1, 0, 84), (84, .getfield 315, 3, 0, 87), (87, .iload_n 2, 1, 0, 88), (88, .iastore, 1, 0, 89), (89, .aload_n 0, 1, 0, 90), (90, .getfield 37, 3, 0, 93), (93, .aload_n 0, 1, 0, 94), (94, .getfield 315, 3, 0, 97), (97, .iload_n 3, 1, 0, 98), (98, .iastore, 1, 0, 99), (99, .aload_n 0, 1, 0, 100), (100, .dup, 1, 0, 101), (101, .getfield 315, 3, 0, 104), (104, .iconst 1, 1, 1, 105), (105, .iadd, 1, 0, 106), (106, .putfield 315, 3, 0, 109), (109, .aload_n 0, 1, 0, 110), (110, .getfield 315, 3, 0, 113), (113, .ireturn, 1, 0, 114)]
theorem kMd_rule_1 : bOK cX12_rule 5 pMd_rule_1 = true := by decide +kernel
def pMd_rule : List BR := (pMd_rule_0 ++ pMd_rule_1)
theorem kMd_rule : bOK cX12_rule 5 pMd_rule = true := (bOK_app kMd_rule_0 kMd_rule_1)
def fMd_rule_j61 (x1 : Int32) (x2 : Int32) (x3 : Int32) (s0 : Int32) (σ : Sg) : Option (Int32 × Sg) :=
  bdW (fMd_holds s0 σ) fun v1 σ2 =>
  if v1 = 0 then
    some (0, σ2)
  else
    mgF 13 σ2 fun v3 =>
    mpA 14 v3 x1 σ2 fun σ4 =>
    mgF 13 σ4 fun v5 =>
    mpA 15 v5 x2 σ4 fun σ6 =>
    mgF 13 σ6 fun v7 =>
    mpA 16 v7 x3 σ6 fun σ8 =>
    mgF 13 σ8 fun v9 =>
    mpF 13 (v9 + 1) σ8 fun σ10 =>
    mgF 13 σ10 fun v11 =>
    some (v11, σ10)
theorem wMd_rule_j61 {X : MC} {G : GE} {n0 : Nat} (hG : gH G = true) (C : CX X G RX12 cX12_rule pMd_rule 5 (some .int) n0) (htab : ∀ z ∈ X.2.2.2.2.2.2.2.2.exceptionTable.toList, False) {M : Mm} {n : Nat} (x1 : Int32) (x2 : Int32) (x3 : Int32) (s0 : Int32) (σ : Sg) : JS X G 5 300 0 n0 (EM X G n0 4 300 (eS rvI M n)) (fMd_rule_j61 x1 x2 x3 s0 σ) (σ, M, n) 61 [(0, .inr (.inl (some (gM G)))), (1, .inl x1), (2, .inl x2), (3, .inl x3)] [.inl s0, .inr (.inl (some (gM G)))] := by
  unfold fMd_rule_j61
  refine s_SI (CE_EM _ _ _ _ _ _) (st := []) (fun o ho => j_callV (As := [.inl s0]) (st := []) (b := gM G) C 31 rfl mf_Md_holds ml_X12_150 rfl (recv_M hG C) (by decide) (by decide) (Nat.le_refl _) rfl (cMd_holds (CX_tr C) hG σ M n s0 o ho)) (fun v1 σ2 => ?_)
  refine s_ine C 32 rfl (fun _ => ?_) (fun _ => ?_)
  · refine s_blk C 33 1 [] (pc' := 68) (lv' := []) (st' := [.inl 0]) rfl ?_
    exact s_iret C 34 rfl rfl
  refine s_blk C 35 1 [0, 1, 2, 3] (pc' := 70) (lv' := [(0, .inr (.inl (some (gM G)))), (1, .inl x1), (2, .inl x2), (3, .inl x3)]) (st' := [.inr (.inl (some (gM G)))]) rfl ?_
  refine s_mR hG C 36 rfl 14 fl_X12_31 rfl ?_
  refine s_blk C 37 1 [0, 1, 2, 3] (pc' := 74) (lv' := [(0, .inr (.inl (some (gM G)))), (1, .inl x1), (2, .inl x2), (3, .inl x3)]) (st' := [.inr (.inl (some (gM G))), .inr (.inl (some (gA G 14)))]) rfl ?_
  refine s_mF hG C 38 rfl fl_X12_315 rfl (fun v3 => ?_)
  refine s_blk C 39 1 [0, 2, 3] (pc' := 78) (lv' := [(0, .inr (.inl (some (gM G)))), (2, .inl x2), (3, .inl x3)]) (st' := [.inl x1, .inl v3, .inr (.inl (some (gA G 14)))]) rfl ?_
  refine s_mstI hG C 40 rfl rfl rfl (fun σ4 _ => ?_)
  refine s_blk C 41 1 [0, 2, 3] (pc' := 80) (lv' := [(0, .inr (.inl (some (gM G)))), (2, .inl x2), (3, .inl x3)]) (st' := [.inr (.inl (some (gM G)))]) rfl ?_
  refine s_mR hG C 42 rfl 15 fl_X12_34 rfl ?_
  refine s_blk C 43 1 [0, 2, 3] (pc' := 84) (lv' := [(0, .inr (.inl (some (gM G)))), (2, .inl x2), (3, .inl x3)]) (st' := [.inr (.inl (some (gM G))), .inr (.inl (some (gA G 15)))]) rfl ?_
  refine s_mF hG C 44 rfl fl_X12_315 rfl (fun v5 => ?_)
  refine s_blk C 45 1 [0, 3] (pc' := 88) (lv' := [(0, .inr (.inl (some (gM G)))), (3, .inl x3)]) (st' := [.inl x2, .inl v5, .inr (.inl (some (gA G 15)))]) rfl ?_
  refine s_mstI hG C 46 rfl rfl rfl (fun σ6 _ => ?_)
  refine s_blk C 47 1 [0, 3] (pc' := 90) (lv' := [(0, .inr (.inl (some (gM G)))), (3, .inl x3)]) (st' := [.inr (.inl (some (gM G)))]) rfl ?_
  refine s_mR hG C 48 rfl 16 fl_X12_37 rfl ?_
  refine s_blk C 49 1 [0, 3] (pc' := 94) (lv' := [(0, .inr (.inl (some (gM G)))), (3, .inl x3)]) (st' := [.inr (.inl (some (gM G))), .inr (.inl (some (gA G 16)))]) rfl ?_
  refine s_mF hG C 50 rfl fl_X12_315 rfl (fun v7 => ?_)
  refine s_blk C 51 1 [0] (pc' := 98) (lv' := [(0, .inr (.inl (some (gM G))))]) (st' := [.inl x3, .inl v7, .inr (.inl (some (gA G 16)))]) rfl ?_
  refine s_mstI hG C 52 rfl rfl rfl (fun σ8 _ => ?_)
  refine s_blk C 53 2 [0] (pc' := 101) (lv' := [(0, .inr (.inl (some (gM G))))]) (st' := [.inr (.inl (some (gM G))), .inr (.inl (some (gM G)))]) rfl ?_
  refine s_mF hG C 55 rfl fl_X12_315 rfl (fun v9 => ?_)
  refine s_blk C 56 2 [0] (pc' := 106) (lv' := [(0, .inr (.inl (some (gM G))))]) (st' := [.inl (v9 + 1), .inr (.inl (some (gM G)))]) rfl ?_
  refine s_mpF hG C 58 rfl fl_X12_315 fp_X12_13_13 rfl (fun σ10 _ => ?_)
  refine s_blk C 59 1 [] (pc' := 110) (lv' := []) (st' := [.inr (.inl (some (gM G)))]) rfl ?_
  refine s_mF hG C 60 rfl fl_X12_315 rfl (fun v11 => ?_)
  exact s_iret C 61 rfl rfl
def fMd_rule_j35 (x1 : Int32) (x2 : Int32) (x3 : Int32) (s0 : Int32) (σ : Sg) : Option (Int32 × Sg) :=
  if s0 = 0 then
    fMd_rule_j61 x1 x2 x3 1 σ
  else
    mgF 13 σ fun v1 =>
    if v1 = 6 then
      fMd_rule_j61 x1 x2 x3 2 σ
    else
      fMd_rule_j61 x1 x2 x3 0 σ
theorem wMd_rule_j35 {X : MC} {G : GE} {n0 : Nat} (hG : gH G = true) (C : CX X G RX12 cX12_rule pMd_rule 5 (some .int) n0) (htab : ∀ z ∈ X.2.2.2.2.2.2.2.2.exceptionTable.toList, False) {M : Mm} {n : Nat} (x1 : Int32) (x2 : Int32) (x3 : Int32) (s0 : Int32) (σ : Sg) : JS X G 5 300 0 n0 (EM X G n0 4 300 (eS rvI M n)) (fMd_rule_j35 x1 x2 x3 s0 σ) (σ, M, n) 35 [(0, .inr (.inl (some (gM G)))), (1, .inl x1), (2, .inl x2), (3, .inl x3)] [.inl s0] := by
  unfold fMd_rule_j35
  refine s_blk C 18 3 [0, 1, 2, 3] (pc' := 40) (lv' := [(0, .inr (.inl (some (gM G)))), (1, .inl x1), (2, .inl x2), (3, .inl x3)]) (st' := [.inl s0, .inr (.inl (some (gM G)))]) rfl ?_
  refine s_ine C 21 rfl (fun _ => ?_) (fun _ => ?_)
  · refine s_blk C 22 2 [0, 1, 2, 3] (pc' := 61) (lv' := [(0, .inr (.inl (some (gM G)))), (1, .inl x1), (2, .inl x2), (3, .inl x3)]) (st' := [.inl 1, .inr (.inl (some (gM G)))]) rfl ?_
    exact wMd_rule_j61 hG C htab _ _ _ _ _
  refine s_blk C 24 1 [0, 1, 2, 3] (pc' := 48) (lv' := [(0, .inr (.inl (some (gM G)))), (1, .inl x1), (2, .inl x2), (3, .inl x3)]) (st' := [.inr (.inl (some (gM G))), .inr (.inl (some (gM G)))]) rfl ?_
  refine s_mF hG C 25 rfl fl_X12_315 rfl (fun v1 => ?_)
  refine s_blk C 26 1 [0, 1, 2, 3] (pc' := 53) (lv' := [(0, .inr (.inl (some (gM G)))), (1, .inl x1), (2, .inl x2), (3, .inl x3)]) (st' := [.inl 6, .inl v1, .inr (.inl (some (gM G)))]) rfl ?_
  refine s_icne C 27 rfl (fun _ => ?_) (fun _ => ?_)
  · refine s_blk C 28 2 [0, 1, 2, 3] (pc' := 61) (lv' := [(0, .inr (.inl (some (gM G)))), (1, .inl x1), (2, .inl x2), (3, .inl x3)]) (st' := [.inl 2, .inr (.inl (some (gM G)))]) rfl ?_
    exact wMd_rule_j61 hG C htab _ _ _ _ _
  refine s_blk C 30 1 [0, 1, 2, 3] (pc' := 61) (lv' := [(0, .inr (.inl (some (gM G)))), (1, .inl x1), (2, .inl x2), (3, .inl x3)]) (st' := [.inl 0, .inr (.inl (some (gM G)))]) rfl ?_
  exact wMd_rule_j61 hG C htab _ _ _ _ _
def fMd_rule_j34 (x1 : Int32) (x2 : Int32) (x3 : Int32) (σ : Sg) : Option (Int32 × Sg) :=
  fMd_rule_j35 x1 x2 x3 0 σ
theorem wMd_rule_j34 {X : MC} {G : GE} {n0 : Nat} (hG : gH G = true) (C : CX X G RX12 cX12_rule pMd_rule 5 (some .int) n0) (htab : ∀ z ∈ X.2.2.2.2.2.2.2.2.exceptionTable.toList, False) {M : Mm} {n : Nat} (x1 : Int32) (x2 : Int32) (x3 : Int32) (σ : Sg) : JS X G 5 300 0 n0 (EM X G n0 4 300 (eS rvI M n)) (fMd_rule_j34 x1 x2 x3 σ) (σ, M, n) 34 [(0, .inr (.inl (some (gM G)))), (1, .inl x1), (2, .inl x2), (3, .inl x3)] [] := by
  unfold fMd_rule_j34
  refine s_blk C 17 1 [0, 1, 2, 3] (pc' := 35) (lv' := [(0, .inr (.inl (some (gM G)))), (1, .inl x1), (2, .inl x2), (3, .inl x3)]) (st' := [.inl 0]) rfl ?_
  exact wMd_rule_j35 hG C htab _ _ _ _ _
def fMd_rule_j11 (x1 : Int32) (x2 : Int32) (x3 : Int32) (σ : Sg) : Option (Int32 × Sg) :=
  bdR (fMd_isIn x2 0 99) fun v1 =>
  if v1 = 0 then
    fMd_rule_j34 x1 x2 x3 σ
  else
    bdR (fMd_isIn x3 1 3) fun v2 =>
    if v2 = 0 then
      fMd_rule_j34 x1 x2 x3 σ
    else
      fMd_rule_j35 x1 x2 x3 1 σ
theorem wMd_rule_j11 {X : MC} {G : GE} {n0 : Nat} (hG : gH G = true) (C : CX X G RX12 cX12_rule pMd_rule 5 (some .int) n0) (htab : ∀ z ∈ X.2.2.2.2.2.2.2.2.exceptionTable.toList, False) {M : Mm} {n : Nat} (x1 : Int32) (x2 : Int32) (x3 : Int32) (σ : Sg) : JS X G 5 300 0 n0 (EM X G n0 4 300 (eS rvI M n)) (fMd_rule_j11 x1 x2 x3 σ) (σ, M, n) 11 [(0, .inr (.inl (some (gM G)))), (1, .inl x1), (2, .inl x2), (3, .inl x3)] [] := by
  unfold fMd_rule_j11
  refine s_blk C 5 3 [0, 1, 2, 3] (pc' := 15) (lv' := [(0, .inr (.inl (some (gM G)))), (1, .inl x1), (2, .inl x2), (3, .inl x3)]) (st' := [.inl 99, .inl 0, .inl x2]) rfl ?_
  refine s_RI (CE_EM _ _ _ _ _ _) (st := []) (fun o ho => j_callS (As := [.inl x2, .inl 0, .inl 99]) (st := []) C 8 rfl mf_Md_isIn ml_X12_132 rfl (by decide) (by decide) (Nat.le_refl _) rfl (cMd_isIn (CX_tr C) hG σ M n x2 0 99 o ho)) (fun v1 => ?_)
  refine s_ieq C 9 rfl (fun _ => ?_) (fun _ => ?_)
  · exact wMd_rule_j34 hG C htab _ _ _ _
  refine s_blk C 10 3 [0, 1, 2, 3] (pc' := 24) (lv' := [(0, .inr (.inl (some (gM G)))), (1, .inl x1), (2, .inl x2), (3, .inl x3)]) (st' := [.inl 3, .inl 1, .inl x3]) rfl ?_
  refine s_RI (CE_EM _ _ _ _ _ _) (st := []) (fun o ho => j_callS (As := [.inl x3, .inl 1, .inl 3]) (st := []) C 13 rfl mf_Md_isIn ml_X12_132 rfl (by decide) (by decide) (Nat.le_refl _) rfl (cMd_isIn (CX_tr C) hG σ M n x3 1 3 o ho)) (fun v2 => ?_)
  refine s_ieq C 14 rfl (fun _ => ?_) (fun _ => ?_)
  · exact wMd_rule_j34 hG C htab _ _ _ _
  refine s_blk C 15 2 [0, 1, 2, 3] (pc' := 35) (lv' := [(0, .inr (.inl (some (gM G)))), (1, .inl x1), (2, .inl x2), (3, .inl x3)]) (st' := [.inl 1]) rfl ?_
  exact wMd_rule_j35 hG C htab _ _ _ _ _
def fMd_rule (x1 : Int32) (x2 : Int32) (x3 : Int32) (σ : Sg) : Option (Int32 × Sg) :=
  if x1 = 0 then
    fMd_rule_j11 x1 x2 x3 σ
  else
    bdR (fMd_isKey x1) fun v1 =>
    if v1 = 0 then
      fMd_rule_j34 x1 x2 x3 σ
    else
      fMd_rule_j11 x1 x2 x3 σ
theorem wMd_rule {X : MC} {G : GE} {n0 : Nat} (hG : gH G = true) (C : CX X G RX12 cX12_rule pMd_rule 5 (some .int) n0) (htab : ∀ z ∈ X.2.2.2.2.2.2.2.2.exceptionTable.toList, False) {M : Mm} {n : Nat} (x1 : Int32) (x2 : Int32) (x3 : Int32) (σ : Sg) : JS X G 5 300 0 n0 (EM X G n0 4 300 (eS rvI M n)) (fMd_rule x1 x2 x3 σ) (σ, M, n) 0 [(0, .inr (.inl (some (gM G)))), (1, .inl x1), (2, .inl x2), (3, .inl x3)] [] := by
  unfold fMd_rule
  refine s_blk C 0 1 [0, 1, 2, 3] (pc' := 1) (lv' := [(0, .inr (.inl (some (gM G)))), (1, .inl x1), (2, .inl x2), (3, .inl x3)]) (st' := [.inl x1]) rfl ?_
  refine s_ieq C 1 rfl (fun _ => ?_) (fun _ => ?_)
  · exact wMd_rule_j11 hG C htab _ _ _ _
  refine s_blk C 2 1 [0, 1, 2, 3] (pc' := 5) (lv' := [(0, .inr (.inl (some (gM G)))), (1, .inl x1), (2, .inl x2), (3, .inl x3)]) (st' := [.inl x1]) rfl ?_
  refine s_RI (CE_EM _ _ _ _ _ _) (st := []) (fun o ho => j_callS (As := [.inl x1]) (st := []) C 3 rfl mf_Md_isKey ml_X12_228 rfl (by decide) (by decide) (Nat.le_refl _) rfl (cMd_isKey (CX_tr C) hG σ M n x1 o ho)) (fun v1 => ?_)
  refine s_ieq C 4 rfl (fun _ => ?_) (fun _ => ?_)
  · exact wMd_rule_j34 hG C htab _ _ _ _
  exact wMd_rule_j11 hG C htab _ _ _ _
theorem cMd_rule {l : Launch} {G : GE} (htr : l.stackTraces = false) (hG : gH G = true) (σ : Sg) (M : Mm) (n : Nat) (x1 : Int32) (x2 : Int32) (x3 : Int32) : ∀ o, fMd_rule x1 x2 x3 σ = some o → MetX l G yX12_rule cX12_rule 5 (some .int) 4 300 [.inr (.inl (some (gM G))), .inl x1, .inl x2, .inl x3] (σ, M, n) ((eS rvI M n) o) :=
  c_ofX (by decide) kMd_rule htr rfl rfl fun X _ _ C htab => wMd_rule hG C htab x1 x2 x3 _
def pMd_sweep_0 : List BR := [(0, .aload_n 0, 1, 0, 1), (1, .iload_n 1, 1, 0, 2), (2, .invokestatic 225, 3, 0, 5), (5, .ifCond .ne (7), 3, 0, 12), (8, .iconst 1, 1, 1, 9), (9, .goto (18), 3, 0, 27), (12, .iload_n 2, 1, 0, 13), (13, .iconst 1, 1, 1, 14), (14, .bipush 99, 2, 99, 16), (16, .invokestatic 132, 3, 0, 19), (19, .ifCond .eq (7), 3, 0, 26), (22, .iconst 0, 1, 0, 23), (23, .goto (4), 3, 0, 27), (26, .iconst 2, 1, 2, 27), (27, .invokevirtual 150, 3, 0, 30), (30, .ifCond .ne (5), 3, 0, 35), (33, .iconst 0, 1, 0, 34), (34, .ireturn, 1, 0, 35), (35, .iconst 0, 1, 0, 36), (36, .istore_n 3, 1, 0, 37), (37, .iconst 0, 1, 0, 38), (38, .istore 4, 2, 0, 40), (40, .iload 4, 2, 0, 42), (42, .aload_n 0, 1, 0, 43), (43, .getfield 44, 3, 0, 46), (46, .iload_n 1, 1, 0, 47), (47, .iaload, 1, 0, 48), (48, .if_icmp .ge (90), 3, 0, 138), (51, .iload_n 3, 1, 0, 52), (52, .iload_n 2, 1, 0, 53), (53, .if_icmp .ge (85), 3, 0, 138), (56, .bipush 90, 2, 90, 58), (58, .iload_n 1, 1, 0, 59), (59, .imul, 1, 0, 60), (60, .iload 4, 2, 0, 62), (62, .iadd, 1, 0, 63), (63, .istore 5, 2, 0, 65), (65, .aload_n 0, 1, 0, 66), (66, .getfield 47, 3, 0, 69), (69, .iload 5, 2, 0, 71)]
theorem kMd_sweep_0 : bOK cX12_sweep 7 pMd_sweep_0 = true := by decide +kernel
def pMd_sweep_1 : List BR := [(71, .baload, 1, 0, 72), (72, .ifCond .ne (17), 3, 0, 89), (75, .aload_n 0, 1, 0, 76), (76, .getfield 50, 3, 0, 79), (79, .iload 5, 2, 0, 81), (81, .iaload, 1, 0, 82), (82, .ifCond .ne (7), 3, 0, 89), (85, .iconst 1, 1, 1, 86), (86, .goto (4), 3, 0, 90), (89, .iconst 0, 1, 0, 90), (90, .istore 6, 2, 0, 92), (92, .aload_n 0, 1, 0, 93), (93, .getfield 47, 3, 0, 96), (96, .iload 5, 2, 0, 98), (98, .aload_n 0, 1, 0, 99), (99, .getfield 47, 3, 0, 102), (102, .iload 5, 2, 0, 104), (104, .baload, 1, 0, 105), (105, .ifCond .ne (8), 3, 0, 113), (108, .iload 6, 2, 0, 110), (110, .ifCond .eq (7), 3, 0, 117), (113, .iconst 1, 1, 1, 114), (114, .goto (4), 3, 0, 118), (117, .iconst 0, 1, 0, 118), (118, .bastore, 1, 0, 119), (119, .iload_n 3, 1, 0, 120), (120, .iload 6, 2, 0, 122), (122, .ifCond .eq (7), 3, 0, 129), (125, .iconst 1, 1, 1, 126), (126, .goto (4), 3, 0, 130), (129, .iconst 0, 1, 0, 130), (130, .iadd, 1, 0, 131), (131, .istore_n 3, 1, 0, 132), (132, .iinc 4 (1), 3, 1, 135), (135, .goto (-95), 3, 0, 40), (138, .iload_n 3, 1, 0, 139), (139, .ireturn, 1, 0, 140)]
theorem kMd_sweep_1 : bOK cX12_sweep 7 pMd_sweep_1 = true := by decide +kernel
def pMd_sweep : List BR := (pMd_sweep_0 ++ pMd_sweep_1)
theorem kMd_sweep : bOK cX12_sweep 7 pMd_sweep = true := (bOK_app kMd_sweep_0 kMd_sweep_1)
def fMd_sweep_j130 (k40 : Int32 → Int32 → Int32 → Int32 → Sg → Option (Int32 × Sg)) (x1 : Int32) (x2 : Int32) (x4 : Int32) (s0 : Int32) (s1 : Int32) (σ : Sg) : Option (Int32 × Sg) :=
  k40 x1 x2 (s1 + s0) (x4 + 1) σ
theorem wMd_sweep_j130 {X : MC} {G : GE} {n0 : Nat} (hG : gH G = true) (C : CX X G RX12 cX12_sweep pMd_sweep 7 (some .int) n0) (htab : ∀ z ∈ X.2.2.2.2.2.2.2.2.exceptionTable.toList, False) {M : Mm} {n : Nat} (k40 : Int32 → Int32 → Int32 → Int32 → Sg → Option (Int32 × Sg)) (H40 : ∀ (x1 : Int32) (x2 : Int32) (x3 : Int32) (x4 : Int32) (σ : Sg), JS X G 7 300 0 n0 (EM X G n0 4 300 (eS rvI M n)) (k40 x1 x2 x3 x4 σ) (σ, M, n) 40 [(0, .inr (.inl (some (gM G)))), (1, .inl x1), (2, .inl x2), (3, .inl x3), (4, .inl x4)] []) (x1 : Int32) (x2 : Int32) (x4 : Int32) (s0 : Int32) (s1 : Int32) (σ : Sg) : JS X G 7 300 0 n0 (EM X G n0 4 300 (eS rvI M n)) (fMd_sweep_j130 k40 x1 x2 x4 s0 s1 σ) (σ, M, n) 130 [(0, .inr (.inl (some (gM G)))), (1, .inl x1), (2, .inl x2), (4, .inl x4)] [.inl s0, .inl s1] := by
  unfold fMd_sweep_j130
  refine s_blk C 71 4 [0, 1, 2, 3, 4] (pc' := 40) (lv' := [(0, .inr (.inl (some (gM G)))), (1, .inl x1), (2, .inl x2), (3, .inl (s1 + s0)), (4, .inl (x4 + 1))]) (st' := []) rfl ?_
  exact H40 _ _ _ _ _
def fMd_sweep_j118 (k40 : Int32 → Int32 → Int32 → Int32 → Sg → Option (Int32 × Sg)) (x1 : Int32) (x2 : Int32) (x3 : Int32) (x4 : Int32) (x6 : Int32) (s0 : Int32) (s1 : Int32) (σ : Sg) : Option (Int32 × Sg) :=
  mpZ 19 s1 s0 σ fun σ1 =>
  if x6 = 0 then
    fMd_sweep_j130 k40 x1 x2 x4 0 x3 σ1
  else
    fMd_sweep_j130 k40 x1 x2 x4 1 x3 σ1
theorem wMd_sweep_j118 {X : MC} {G : GE} {n0 : Nat} (hG : gH G = true) (C : CX X G RX12 cX12_sweep pMd_sweep 7 (some .int) n0) (htab : ∀ z ∈ X.2.2.2.2.2.2.2.2.exceptionTable.toList, False) {M : Mm} {n : Nat} (k40 : Int32 → Int32 → Int32 → Int32 → Sg → Option (Int32 × Sg)) (H40 : ∀ (x1 : Int32) (x2 : Int32) (x3 : Int32) (x4 : Int32) (σ : Sg), JS X G 7 300 0 n0 (EM X G n0 4 300 (eS rvI M n)) (k40 x1 x2 x3 x4 σ) (σ, M, n) 40 [(0, .inr (.inl (some (gM G)))), (1, .inl x1), (2, .inl x2), (3, .inl x3), (4, .inl x4)] []) (x1 : Int32) (x2 : Int32) (x3 : Int32) (x4 : Int32) (x6 : Int32) (s0 : Int32) (s1 : Int32) (σ : Sg) : JS X G 7 300 0 n0 (EM X G n0 4 300 (eS rvI M n)) (fMd_sweep_j118 k40 x1 x2 x3 x4 x6 s0 s1 σ) (σ, M, n) 118 [(0, .inr (.inl (some (gM G)))), (1, .inl x1), (2, .inl x2), (3, .inl x3), (4, .inl x4), (6, .inl x6)] [.inl s0, .inl s1, .inr (.inl (some (gA G 19)))] := by
  unfold fMd_sweep_j118
  refine s_mstZ hG C 64 rfl rfl rfl (fun σ1 _ => ?_)
  refine s_blk C 65 2 [0, 1, 2, 4] (pc' := 122) (lv' := [(0, .inr (.inl (some (gM G)))), (1, .inl x1), (2, .inl x2), (4, .inl x4)]) (st' := [.inl x6, .inl x3]) rfl ?_
  refine s_ieq C 67 rfl (fun _ => ?_) (fun _ => ?_)
  · refine s_blk C 70 1 [0, 1, 2, 4] (pc' := 130) (lv' := [(0, .inr (.inl (some (gM G)))), (1, .inl x1), (2, .inl x2), (4, .inl x4)]) (st' := [.inl 0, .inl x3]) rfl ?_
    exact wMd_sweep_j130 hG C htab k40 H40 _ _ _ _ _ _
  refine s_blk C 68 2 [0, 1, 2, 4] (pc' := 130) (lv' := [(0, .inr (.inl (some (gM G)))), (1, .inl x1), (2, .inl x2), (4, .inl x4)]) (st' := [.inl 1, .inl x3]) rfl ?_
  exact wMd_sweep_j130 hG C htab k40 H40 _ _ _ _ _ _
def fMd_sweep_j113 (k40 : Int32 → Int32 → Int32 → Int32 → Sg → Option (Int32 × Sg)) (x1 : Int32) (x2 : Int32) (x3 : Int32) (x4 : Int32) (x6 : Int32) (s0 : Int32) (σ : Sg) : Option (Int32 × Sg) :=
  fMd_sweep_j118 k40 x1 x2 x3 x4 x6 1 s0 σ
theorem wMd_sweep_j113 {X : MC} {G : GE} {n0 : Nat} (hG : gH G = true) (C : CX X G RX12 cX12_sweep pMd_sweep 7 (some .int) n0) (htab : ∀ z ∈ X.2.2.2.2.2.2.2.2.exceptionTable.toList, False) {M : Mm} {n : Nat} (k40 : Int32 → Int32 → Int32 → Int32 → Sg → Option (Int32 × Sg)) (H40 : ∀ (x1 : Int32) (x2 : Int32) (x3 : Int32) (x4 : Int32) (σ : Sg), JS X G 7 300 0 n0 (EM X G n0 4 300 (eS rvI M n)) (k40 x1 x2 x3 x4 σ) (σ, M, n) 40 [(0, .inr (.inl (some (gM G)))), (1, .inl x1), (2, .inl x2), (3, .inl x3), (4, .inl x4)] []) (x1 : Int32) (x2 : Int32) (x3 : Int32) (x4 : Int32) (x6 : Int32) (s0 : Int32) (σ : Sg) : JS X G 7 300 0 n0 (EM X G n0 4 300 (eS rvI M n)) (fMd_sweep_j113 k40 x1 x2 x3 x4 x6 s0 σ) (σ, M, n) 113 [(0, .inr (.inl (some (gM G)))), (1, .inl x1), (2, .inl x2), (3, .inl x3), (4, .inl x4), (6, .inl x6)] [.inl s0, .inr (.inl (some (gA G 19)))] := by
  unfold fMd_sweep_j113
  refine s_blk C 61 2 [0, 1, 2, 3, 4, 6] (pc' := 118) (lv' := [(0, .inr (.inl (some (gM G)))), (1, .inl x1), (2, .inl x2), (3, .inl x3), (4, .inl x4), (6, .inl x6)]) (st' := [.inl 1, .inl s0, .inr (.inl (some (gA G 19)))]) rfl ?_
  exact wMd_sweep_j118 hG C htab k40 H40 _ _ _ _ _ _ _ _
def fMd_sweep_j90 (k40 : Int32 → Int32 → Int32 → Int32 → Sg → Option (Int32 × Sg)) (x1 : Int32) (x2 : Int32) (x3 : Int32) (x4 : Int32) (x5 : Int32) (s0 : Int32) (σ : Sg) : Option (Int32 × Sg) :=
  mgA 19 x5 σ fun v1 =>
  if v1 = 0 then
    if s0 = 0 then
      fMd_sweep_j118 k40 x1 x2 x3 x4 s0 0 x5 σ
    else
      fMd_sweep_j113 k40 x1 x2 x3 x4 s0 x5 σ
  else
    fMd_sweep_j113 k40 x1 x2 x3 x4 s0 x5 σ
theorem wMd_sweep_j90 {X : MC} {G : GE} {n0 : Nat} (hG : gH G = true) (C : CX X G RX12 cX12_sweep pMd_sweep 7 (some .int) n0) (htab : ∀ z ∈ X.2.2.2.2.2.2.2.2.exceptionTable.toList, False) {M : Mm} {n : Nat} (k40 : Int32 → Int32 → Int32 → Int32 → Sg → Option (Int32 × Sg)) (H40 : ∀ (x1 : Int32) (x2 : Int32) (x3 : Int32) (x4 : Int32) (σ : Sg), JS X G 7 300 0 n0 (EM X G n0 4 300 (eS rvI M n)) (k40 x1 x2 x3 x4 σ) (σ, M, n) 40 [(0, .inr (.inl (some (gM G)))), (1, .inl x1), (2, .inl x2), (3, .inl x3), (4, .inl x4)] []) (x1 : Int32) (x2 : Int32) (x3 : Int32) (x4 : Int32) (x5 : Int32) (s0 : Int32) (σ : Sg) : JS X G 7 300 0 n0 (EM X G n0 4 300 (eS rvI M n)) (fMd_sweep_j90 k40 x1 x2 x3 x4 x5 s0 σ) (σ, M, n) 90 [(0, .inr (.inl (some (gM G)))), (1, .inl x1), (2, .inl x2), (3, .inl x3), (4, .inl x4), (5, .inl x5)] [.inl s0] := by
  unfold fMd_sweep_j90
  refine s_blk C 50 2 [0, 1, 2, 3, 4, 5, 6] (pc' := 93) (lv' := [(0, .inr (.inl (some (gM G)))), (1, .inl x1), (2, .inl x2), (3, .inl x3), (4, .inl x4), (5, .inl x5), (6, .inl s0)]) (st' := [.inr (.inl (some (gM G)))]) rfl ?_
  refine s_mR hG C 52 rfl 19 fl_X12_47 rfl ?_
  refine s_blk C 53 2 [0, 1, 2, 3, 4, 5, 6] (pc' := 99) (lv' := [(0, .inr (.inl (some (gM G)))), (1, .inl x1), (2, .inl x2), (3, .inl x3), (4, .inl x4), (5, .inl x5), (6, .inl s0)]) (st' := [.inr (.inl (some (gM G))), .inl x5, .inr (.inl (some (gA G 19)))]) rfl ?_
  refine s_mR hG C 55 rfl 19 fl_X12_47 rfl ?_
  refine s_blk C 56 1 [0, 1, 2, 3, 4, 6] (pc' := 104) (lv' := [(0, .inr (.inl (some (gM G)))), (1, .inl x1), (2, .inl x2), (3, .inl x3), (4, .inl x4), (6, .inl s0)]) (st' := [.inl x5, .inr (.inl (some (gA G 19))), .inl x5, .inr (.inl (some (gA G 19)))]) rfl ?_
  refine s_mldZ hG C 57 rfl rfl rfl (fun v1 => ?_)
  refine s_ine C 58 rfl (fun _ => ?_) (fun _ => ?_)
  · refine s_blk C 59 1 [0, 1, 2, 3, 4, 6] (pc' := 110) (lv' := [(0, .inr (.inl (some (gM G)))), (1, .inl x1), (2, .inl x2), (3, .inl x3), (4, .inl x4), (6, .inl s0)]) (st' := [.inl s0, .inl x5, .inr (.inl (some (gA G 19)))]) rfl ?_
    refine s_ieq C 60 rfl (fun _ => ?_) (fun _ => ?_)
    · refine s_blk C 63 1 [0, 1, 2, 3, 4, 6] (pc' := 118) (lv' := [(0, .inr (.inl (some (gM G)))), (1, .inl x1), (2, .inl x2), (3, .inl x3), (4, .inl x4), (6, .inl s0)]) (st' := [.inl 0, .inl x5, .inr (.inl (some (gA G 19)))]) rfl ?_
      exact wMd_sweep_j118 hG C htab k40 H40 _ _ _ _ _ _ _ _
    exact wMd_sweep_j113 hG C htab k40 H40 _ _ _ _ _ _ _
  exact wMd_sweep_j113 hG C htab k40 H40 _ _ _ _ _ _ _
def fMd_sweep_j89 (k40 : Int32 → Int32 → Int32 → Int32 → Sg → Option (Int32 × Sg)) (x1 : Int32) (x2 : Int32) (x3 : Int32) (x4 : Int32) (x5 : Int32) (σ : Sg) : Option (Int32 × Sg) :=
  fMd_sweep_j90 k40 x1 x2 x3 x4 x5 0 σ
theorem wMd_sweep_j89 {X : MC} {G : GE} {n0 : Nat} (hG : gH G = true) (C : CX X G RX12 cX12_sweep pMd_sweep 7 (some .int) n0) (htab : ∀ z ∈ X.2.2.2.2.2.2.2.2.exceptionTable.toList, False) {M : Mm} {n : Nat} (k40 : Int32 → Int32 → Int32 → Int32 → Sg → Option (Int32 × Sg)) (H40 : ∀ (x1 : Int32) (x2 : Int32) (x3 : Int32) (x4 : Int32) (σ : Sg), JS X G 7 300 0 n0 (EM X G n0 4 300 (eS rvI M n)) (k40 x1 x2 x3 x4 σ) (σ, M, n) 40 [(0, .inr (.inl (some (gM G)))), (1, .inl x1), (2, .inl x2), (3, .inl x3), (4, .inl x4)] []) (x1 : Int32) (x2 : Int32) (x3 : Int32) (x4 : Int32) (x5 : Int32) (σ : Sg) : JS X G 7 300 0 n0 (EM X G n0 4 300 (eS rvI M n)) (fMd_sweep_j89 k40 x1 x2 x3 x4 x5 σ) (σ, M, n) 89 [(0, .inr (.inl (some (gM G)))), (1, .inl x1), (2, .inl x2), (3, .inl x3), (4, .inl x4), (5, .inl x5)] [] := by
  unfold fMd_sweep_j89
  refine s_blk C 49 1 [0, 1, 2, 3, 4, 5] (pc' := 90) (lv' := [(0, .inr (.inl (some (gM G)))), (1, .inl x1), (2, .inl x2), (3, .inl x3), (4, .inl x4), (5, .inl x5)]) (st' := [.inl 0]) rfl ?_
  exact wMd_sweep_j90 hG C htab k40 H40 _ _ _ _ _ _ _
def fMd_sweep_b40 (k40 : Int32 → Int32 → Int32 → Int32 → Sg → Option (Int32 × Sg)) (x1 : Int32) (x2 : Int32) (x3 : Int32) (x4 : Int32) (σ : Sg) : Option (Int32 × Sg) :=
  mgA 18 x1 σ fun v1 =>
  if v1 ≤ x4 then
    some (x3, σ)
  else
    if x2 ≤ x3 then
      some (x3, σ)
    else
      mgA 19 ((90 * x1) + x4) σ fun v2 =>
      if v2 = 0 then
        mgA 20 ((90 * x1) + x4) σ fun v3 =>
        if v3 = 0 then
          fMd_sweep_j90 k40 x1 x2 x3 x4 ((90 * x1) + x4) 1 σ
        else
          fMd_sweep_j89 k40 x1 x2 x3 x4 ((90 * x1) + x4) σ
      else
        fMd_sweep_j89 k40 x1 x2 x3 x4 ((90 * x1) + x4) σ
theorem wMd_sweep_b40 {X : MC} {G : GE} {n0 : Nat} (hG : gH G = true) (C : CX X G RX12 cX12_sweep pMd_sweep 7 (some .int) n0) (htab : ∀ z ∈ X.2.2.2.2.2.2.2.2.exceptionTable.toList, False) {M : Mm} {n : Nat} (k40 : Int32 → Int32 → Int32 → Int32 → Sg → Option (Int32 × Sg)) (H40 : ∀ (x1 : Int32) (x2 : Int32) (x3 : Int32) (x4 : Int32) (σ : Sg), JS X G 7 300 0 n0 (EM X G n0 4 300 (eS rvI M n)) (k40 x1 x2 x3 x4 σ) (σ, M, n) 40 [(0, .inr (.inl (some (gM G)))), (1, .inl x1), (2, .inl x2), (3, .inl x3), (4, .inl x4)] []) (x1 : Int32) (x2 : Int32) (x3 : Int32) (x4 : Int32) (σ : Sg) : JS X G 7 300 0 n0 (EM X G n0 4 300 (eS rvI M n)) (fMd_sweep_b40 k40 x1 x2 x3 x4 σ) (σ, M, n) 40 [(0, .inr (.inl (some (gM G)))), (1, .inl x1), (2, .inl x2), (3, .inl x3), (4, .inl x4)] [] := by
  unfold fMd_sweep_b40
  refine s_blk C 22 2 [0, 1, 2, 3, 4] (pc' := 43) (lv' := [(0, .inr (.inl (some (gM G)))), (1, .inl x1), (2, .inl x2), (3, .inl x3), (4, .inl x4)]) (st' := [.inr (.inl (some (gM G))), .inl x4]) rfl ?_
  refine s_mR hG C 24 rfl 18 fl_X12_44 rfl ?_
  refine s_blk C 25 1 [0, 1, 2, 3, 4] (pc' := 47) (lv' := [(0, .inr (.inl (some (gM G)))), (1, .inl x1), (2, .inl x2), (3, .inl x3), (4, .inl x4)]) (st' := [.inl x1, .inr (.inl (some (gA G 18))), .inl x4]) rfl ?_
  refine s_mldI hG C 26 rfl rfl rfl (fun v1 => ?_)
  refine s_icge C 27 rfl (fun _ => ?_) (fun _ => ?_)
  · refine s_blk C 75 1 [] (pc' := 139) (lv' := []) (st' := [.inl x3]) rfl ?_
    exact s_iret C 76 rfl rfl
  refine s_blk C 28 2 [0, 1, 2, 3, 4] (pc' := 53) (lv' := [(0, .inr (.inl (some (gM G)))), (1, .inl x1), (2, .inl x2), (3, .inl x3), (4, .inl x4)]) (st' := [.inl x2, .inl x3]) rfl ?_
  refine s_icge C 30 rfl (fun _ => ?_) (fun _ => ?_)
  · refine s_blk C 75 1 [] (pc' := 139) (lv' := []) (st' := [.inl x3]) rfl ?_
    exact s_iret C 76 rfl rfl
  refine s_blk C 31 7 [0, 1, 2, 3, 4, 5] (pc' := 66) (lv' := [(0, .inr (.inl (some (gM G)))), (1, .inl x1), (2, .inl x2), (3, .inl x3), (4, .inl x4), (5, .inl ((90 * x1) + x4))]) (st' := [.inr (.inl (some (gM G)))]) rfl ?_
  refine s_mR hG C 38 rfl 19 fl_X12_47 rfl ?_
  refine s_blk C 39 1 [0, 1, 2, 3, 4, 5] (pc' := 71) (lv' := [(0, .inr (.inl (some (gM G)))), (1, .inl x1), (2, .inl x2), (3, .inl x3), (4, .inl x4), (5, .inl ((90 * x1) + x4))]) (st' := [.inl ((90 * x1) + x4), .inr (.inl (some (gA G 19)))]) rfl ?_
  refine s_mldZ hG C 40 rfl rfl rfl (fun v2 => ?_)
  refine s_ine C 41 rfl (fun _ => ?_) (fun _ => ?_)
  · refine s_blk C 42 1 [0, 1, 2, 3, 4, 5] (pc' := 76) (lv' := [(0, .inr (.inl (some (gM G)))), (1, .inl x1), (2, .inl x2), (3, .inl x3), (4, .inl x4), (5, .inl ((90 * x1) + x4))]) (st' := [.inr (.inl (some (gM G)))]) rfl ?_
    refine s_mR hG C 43 rfl 20 fl_X12_50 rfl ?_
    refine s_blk C 44 1 [0, 1, 2, 3, 4, 5] (pc' := 81) (lv' := [(0, .inr (.inl (some (gM G)))), (1, .inl x1), (2, .inl x2), (3, .inl x3), (4, .inl x4), (5, .inl ((90 * x1) + x4))]) (st' := [.inl ((90 * x1) + x4), .inr (.inl (some (gA G 20)))]) rfl ?_
    refine s_mldI hG C 45 rfl rfl rfl (fun v3 => ?_)
    refine s_ine C 46 rfl (fun _ => ?_) (fun _ => ?_)
    · refine s_blk C 47 2 [0, 1, 2, 3, 4, 5] (pc' := 90) (lv' := [(0, .inr (.inl (some (gM G)))), (1, .inl x1), (2, .inl x2), (3, .inl x3), (4, .inl x4), (5, .inl ((90 * x1) + x4))]) (st' := [.inl 1]) rfl ?_
      exact wMd_sweep_j90 hG C htab k40 H40 _ _ _ _ _ _ _
    exact wMd_sweep_j89 hG C htab k40 H40 _ _ _ _ _ _
  exact wMd_sweep_j89 hG C htab k40 H40 _ _ _ _ _ _
def fMd_sweep_l40 (fu : Nat) : Int32 → Int32 → Int32 → Int32 → Sg → Option (Int32 × Sg) := Nat.rec (fun x1 x2 x3 x4 σ => none) (fun _ k => fMd_sweep_b40 k) fu
theorem wMd_sweep_l40 {X : MC} {G : GE} {n0 : Nat} (hG : gH G = true) (C : CX X G RX12 cX12_sweep pMd_sweep 7 (some .int) n0) (htab : ∀ z ∈ X.2.2.2.2.2.2.2.2.exceptionTable.toList, False) {M : Mm} {n : Nat} : ∀ (fu : Nat) (x1 : Int32) (x2 : Int32) (x3 : Int32) (x4 : Int32) (σ : Sg), JS X G 7 300 0 n0 (EM X G n0 4 300 (eS rvI M n)) (fMd_sweep_l40 fu x1 x2 x3 x4 σ) (σ, M, n) 40 [(0, .inr (.inl (some (gM G)))), (1, .inl x1), (2, .inl x2), (3, .inl x3), (4, .inl x4)] [] := by
  intro fu
  induction fu with
  | zero => intro x1 x2 x3 x4 σ; exact s_none
  | succ fu ih => intro x1 x2 x3 x4 σ; exact wMd_sweep_b40 hG C htab (fMd_sweep_l40 fu) ih _ _ _ _ _
def fMd_sweep_j27 (x1 : Int32) (x2 : Int32) (s0 : Int32) (σ : Sg) : Option (Int32 × Sg) :=
  bdW (fMd_holds s0 σ) fun v1 σ2 =>
  if v1 = 0 then
    some (0, σ2)
  else
    fMd_sweep_l40 FU x1 x2 0 0 σ2
theorem wMd_sweep_j27 {X : MC} {G : GE} {n0 : Nat} (hG : gH G = true) (C : CX X G RX12 cX12_sweep pMd_sweep 7 (some .int) n0) (htab : ∀ z ∈ X.2.2.2.2.2.2.2.2.exceptionTable.toList, False) {M : Mm} {n : Nat} (x1 : Int32) (x2 : Int32) (s0 : Int32) (σ : Sg) : JS X G 7 300 0 n0 (EM X G n0 4 300 (eS rvI M n)) (fMd_sweep_j27 x1 x2 s0 σ) (σ, M, n) 27 [(0, .inr (.inl (some (gM G)))), (1, .inl x1), (2, .inl x2)] [.inl s0, .inr (.inl (some (gM G)))] := by
  unfold fMd_sweep_j27
  refine s_SI (CE_EM _ _ _ _ _ _) (st := []) (fun o ho => j_callV (As := [.inl s0]) (st := []) (b := gM G) C 14 rfl mf_Md_holds ml_X12_150 rfl (recv_M hG C) (by decide) (by decide) (Nat.le_refl _) rfl (cMd_holds (CX_tr C) hG σ M n s0 o ho)) (fun v1 σ2 => ?_)
  refine s_ine C 15 rfl (fun _ => ?_) (fun _ => ?_)
  · refine s_blk C 16 1 [] (pc' := 34) (lv' := []) (st' := [.inl 0]) rfl ?_
    exact s_iret C 17 rfl rfl
  refine s_blk C 18 4 [0, 1, 2, 3, 4] (pc' := 40) (lv' := [(0, .inr (.inl (some (gM G)))), (1, .inl x1), (2, .inl x2), (3, .inl 0), (4, .inl 0)]) (st' := []) rfl ?_
  exact wMd_sweep_l40 hG C htab FU _ _ _ _ _
def fMd_sweep (x1 : Int32) (x2 : Int32) (σ : Sg) : Option (Int32 × Sg) :=
  bdR (fMd_isRegion x1) fun v1 =>
  if v1 = 0 then
    fMd_sweep_j27 x1 x2 1 σ
  else
    bdR (fMd_isIn x2 1 99) fun v2 =>
    if v2 = 0 then
      fMd_sweep_j27 x1 x2 2 σ
    else
      fMd_sweep_j27 x1 x2 0 σ
theorem wMd_sweep {X : MC} {G : GE} {n0 : Nat} (hG : gH G = true) (C : CX X G RX12 cX12_sweep pMd_sweep 7 (some .int) n0) (htab : ∀ z ∈ X.2.2.2.2.2.2.2.2.exceptionTable.toList, False) {M : Mm} {n : Nat} (x1 : Int32) (x2 : Int32) (σ : Sg) : JS X G 7 300 0 n0 (EM X G n0 4 300 (eS rvI M n)) (fMd_sweep x1 x2 σ) (σ, M, n) 0 [(0, .inr (.inl (some (gM G)))), (1, .inl x1), (2, .inl x2)] [] := by
  unfold fMd_sweep
  refine s_blk C 0 2 [0, 1, 2] (pc' := 2) (lv' := [(0, .inr (.inl (some (gM G)))), (1, .inl x1), (2, .inl x2)]) (st' := [.inl x1, .inr (.inl (some (gM G)))]) rfl ?_
  refine s_RI (CE_EM _ _ _ _ _ _) (st := [.inr (.inl (some (gM G)))]) (fun o ho => j_callS (As := [.inl x1]) (st := [.inr (.inl (some (gM G)))]) C 2 rfl mf_Md_isRegion ml_X12_225 rfl (by decide) (by decide) (Nat.le_refl _) rfl (cMd_isRegion (CX_tr C) hG σ M n x1 o ho)) (fun v1 => ?_)
  refine s_ine C 3 rfl (fun _ => ?_) (fun _ => ?_)
  · refine s_blk C 4 2 [0, 1, 2] (pc' := 27) (lv' := [(0, .inr (.inl (some (gM G)))), (1, .inl x1), (2, .inl x2)]) (st' := [.inl 1, .inr (.inl (some (gM G)))]) rfl ?_
    exact wMd_sweep_j27 hG C htab _ _ _ _
  refine s_blk C 6 3 [0, 1, 2] (pc' := 16) (lv' := [(0, .inr (.inl (some (gM G)))), (1, .inl x1), (2, .inl x2)]) (st' := [.inl 99, .inl 1, .inl x2, .inr (.inl (some (gM G)))]) rfl ?_
  refine s_RI (CE_EM _ _ _ _ _ _) (st := [.inr (.inl (some (gM G)))]) (fun o ho => j_callS (As := [.inl x2, .inl 1, .inl 99]) (st := [.inr (.inl (some (gM G)))]) C 9 rfl mf_Md_isIn ml_X12_132 rfl (by decide) (by decide) (Nat.le_refl _) rfl (cMd_isIn (CX_tr C) hG σ M n x2 1 99 o ho)) (fun v2 => ?_)
  refine s_ieq C 10 rfl (fun _ => ?_) (fun _ => ?_)
  · refine s_blk C 13 1 [0, 1, 2] (pc' := 27) (lv' := [(0, .inr (.inl (some (gM G)))), (1, .inl x1), (2, .inl x2)]) (st' := [.inl 2, .inr (.inl (some (gM G)))]) rfl ?_
    exact wMd_sweep_j27 hG C htab _ _ _ _
  refine s_blk C 11 2 [0, 1, 2] (pc' := 27) (lv' := [(0, .inr (.inl (some (gM G)))), (1, .inl x1), (2, .inl x2)]) (st' := [.inl 0, .inr (.inl (some (gM G)))]) rfl ?_
  exact wMd_sweep_j27 hG C htab _ _ _ _
theorem cMd_sweep {l : Launch} {G : GE} (htr : l.stackTraces = false) (hG : gH G = true) (σ : Sg) (M : Mm) (n : Nat) (x1 : Int32) (x2 : Int32) : ∀ o, fMd_sweep x1 x2 σ = some o → MetX l G yX12_sweep cX12_sweep 7 (some .int) 4 300 [.inr (.inl (some (gM G))), .inl x1, .inl x2] (σ, M, n) ((eS rvI M n) o) :=
  c_ofX (by decide) kMd_sweep htr rfl rfl fun X _ _ C htab => wMd_sweep hG C htab x1 x2 _
def pMd_thrown : List BR := [(0, .aload_n 0, 1, 0, 1), (1, .getfield 128, 3, 0, 4), (4, .ireturn, 1, 0, 5)]
theorem kMd_thrown : bOK cX12_thrown 1 pMd_thrown = true := by decide +kernel
def fMd_thrown (σ : Sg) : Option (Int32) :=
  mgF 0 σ fun v1 =>
  some v1
theorem wMd_thrown {X : MC} {G : GE} {n0 : Nat} (hG : gH G = true) (C : CX X G RX12 cX12_thrown pMd_thrown 1 (some .int) n0) (htab : ∀ z ∈ X.2.2.2.2.2.2.2.2.exceptionTable.toList, False) {σ : Sg} {M : Mm} {n : Nat} : JS X G 1 300 0 n0 (EM X G n0 2 300 (eR rvI σ M n)) (fMd_thrown σ) (σ, M, n) 0 [(0, .inr (.inl (some (gM G))))] [] := by
  unfold fMd_thrown
  refine s_blk C 0 1 [] (pc' := 1) (lv' := []) (st' := [.inr (.inl (some (gM G)))]) rfl ?_
  refine s_mF hG C 1 rfl fl_X12_128 rfl (fun v1 => ?_)
  exact s_iret C 2 rfl rfl
theorem cMd_thrown {l : Launch} {G : GE} (htr : l.stackTraces = false) (hG : gH G = true) (σ : Sg) (M : Mm) (n : Nat) : ∀ o, fMd_thrown σ = some o → MetX l G yX12_thrown cX12_thrown 1 (some .int) 2 300 [.inr (.inl (some (gM G)))] (σ, M, n) ((eR rvI σ M n) o) :=
  c_ofX (by decide) kMd_thrown htr rfl rfl fun X _ _ C htab => wMd_thrown hG C htab

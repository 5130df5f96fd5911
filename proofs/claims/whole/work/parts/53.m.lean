def pMd_drop : List BR := [(0, .aload_n 0, 1, 0, 1), (1, .iload_n 1, 1, 0, 2), (2, .iload_n 2, 1, 0, 3), (3, .iload_n 3, 1, 0, 4), (4, .invokevirtual 262, 3, 0, 7), (7, .istore 4, 2, 0, 9), (9, .aload_n 0, 1, 0, 10), (10, .iload 4, 2, 0, 12), (12, .ifCond .ne (7), 3, 0, 19), (15, .iconst 1, 1, 1, 16), (16, .goto (22), 3, 0, 38), (19, .aload_n 0, 1, 0, 20), (20, .aload_n 0, 1, 0, 21), (21, .iload_n 1, 1, 0, 22), (22, .iload_n 2, 1, 0, 23), (23, .iload_n 3, 1, 0, 24), (24, .invokevirtual 231, 3, 0, 27), (27, .invokevirtual 265, 3, 0, 30), (30, .ifCond .eq (7), 3, 0, 37), (33, .iconst 3, 1, 3, 34), (34, .goto (4), 3, 0, 38), (37, .iconst 0, 1, 0, 38), (38, .invokevirtual 150, 3, 0, 41), (41, .ifCond .ne (5), 3, 0, 46), (44, .iconst 0, 1, 0, 45), (45, .ireturn, 1, 0, 46), (46, .aload_n 0, 1, 0, 47), (47, .iload_n 1, 1, 0, 48), (48, .aload_n 0, 1, 0, 49), (49, .iload_n 1, 1, 0, 50), (50, .iload_n 2, 1, 0, 51), (51, .iload_n 3, 1, 0, 52), (52, .invokevirtual 231, 3, 0, 55), (55, .invokevirtual 268, 3, 0, 58), (58, .aload_n 0, 1, 0, 59), (59, .iload_n 1, 1, 0, 60), (60, .iload_n 2, 1, 0, 61), (61, .invokevirtual 271, 3, 0, 64), (64, .ireturn, 1, 0, 65)]
theorem kMd_drop : bOK cX12_drop 5 pMd_drop = true := by decide +kernel
def fMd_drop_j38 (x1 : Int32) (x2 : Int32) (x3 : Int32) (s0 : Int32) (σ : Sg) : Option (Int32 × Sg) :=
  bdW (fMd_holds s0 σ) fun v1 σ2 =>
  if v1 = 0 then
    some (0, σ2)
  else
    bdR (fMd_versionAt x1 x2 x3 σ2) fun v3 =>
    bdW (fMd_goes x1 v3 σ2) fun v4 σ5 =>
    bdR (fMd_manyOf x1 x2 σ5) fun v6 =>
    some (v6, σ5)
theorem wMd_drop_j38 {X : MC} {G : GE} {n0 : Nat} (hG : gH G = true) (C : CX X G RX12 cX12_drop pMd_drop 5 (some .int) n0) (htab : ∀ z ∈ X.2.2.2.2.2.2.2.2.exceptionTable.toList, False) {M : Mm} {n : Nat} (x1 : Int32) (x2 : Int32) (x3 : Int32) (s0 : Int32) (σ : Sg) : JS X G 5 300 0 n0 (EM X G n0 5 300 (eS rvI M n)) (fMd_drop_j38 x1 x2 x3 s0 σ) (σ, M, n) 38 [(0, .inr (.inl (some (gM G)))), (1, .inl x1), (2, .inl x2), (3, .inl x3)] [.inl s0, .inr (.inl (some (gM G)))] := by
  unfold fMd_drop_j38
  refine s_SI (CE_EM _ _ _ _ _ _) (st := []) (fun o ho => j_callV (As := [.inl s0]) (st := []) (b := gM G) C 22 rfl mf_Md_holds ml_X12_150 rfl (recv_M hG C) (by decide) (by decide) (Nat.le_refl _) rfl (cMd_holds (CX_tr C) hG σ M n s0 o ho)) (fun v1 σ2 => ?_)
  refine s_ine C 23 rfl (fun _ => ?_) (fun _ => ?_)
  · refine s_blk C 24 1 [] (pc' := 45) (lv' := []) (st' := [.inl 0]) rfl ?_
    exact s_iret C 25 rfl rfl
  refine s_blk C 26 6 [0, 1, 2] (pc' := 52) (lv' := [(0, .inr (.inl (some (gM G)))), (1, .inl x1), (2, .inl x2)]) (st' := [.inl x3, .inl x2, .inl x1, .inr (.inl (some (gM G))), .inl x1, .inr (.inl (some (gM G)))]) rfl ?_
  refine s_RI (CE_EM _ _ _ _ _ _) (st := [.inl x1, .inr (.inl (some (gM G)))]) (fun o ho => j_callV (As := [.inl x1, .inl x2, .inl x3]) (st := [.inl x1, .inr (.inl (some (gM G)))]) (b := gM G) C 32 rfl mf_Md_versionAt ml_X12_231 rfl (recv_M hG C) (by decide) (by decide) (Nat.le_refl _) rfl (cMd_versionAt (CX_tr C) hG σ2 M n x1 x2 x3 o ho)) (fun v3 => ?_)
  refine s_SU (CE_EM _ _ _ _ _ _) (st := []) (fun o ho => j_callV (As := [.inl x1, .inl v3]) (st := []) (b := gM G) C 33 rfl mf_Md_goes ml_X12_268 rfl (recv_M hG C) (by decide) (by decide) (Nat.le_refl _) rfl (cMd_goes (CX_tr C) hG σ2 M n x1 v3 o ho)) (fun v4 σ5 => ?_)
  refine s_blk C 34 3 [] (pc' := 61) (lv' := []) (st' := [.inl x2, .inl x1, .inr (.inl (some (gM G)))]) rfl ?_
  refine s_RI (CE_EM _ _ _ _ _ _) (st := []) (fun o ho => j_callV (As := [.inl x1, .inl x2]) (st := []) (b := gM G) C 37 rfl mf_Md_manyOf ml_X12_271 rfl (recv_M hG C) (by decide) (by decide) (Nat.le_refl _) rfl (cMd_manyOf (CX_tr C) hG σ5 M n x1 x2 o ho)) (fun v6 => ?_)
  exact s_iret C 38 rfl rfl
def fMd_drop (x1 : Int32) (x2 : Int32) (x3 : Int32) (σ : Sg) : Option (Int32 × Sg) :=
  bdR (fMd_isVersion x1 x2 x3 σ) fun v1 =>
  if v1 = 0 then
    fMd_drop_j38 x1 x2 x3 1 σ
  else
    bdR (fMd_versionAt x1 x2 x3 σ) fun v2 =>
    bdR (fMd_isLocked v2 σ) fun v3 =>
    if v3 = 0 then
      fMd_drop_j38 x1 x2 x3 0 σ
    else
      fMd_drop_j38 x1 x2 x3 3 σ
theorem wMd_drop {X : MC} {G : GE} {n0 : Nat} (hG : gH G = true) (C : CX X G RX12 cX12_drop pMd_drop 5 (some .int) n0) (htab : ∀ z ∈ X.2.2.2.2.2.2.2.2.exceptionTable.toList, False) {M : Mm} {n : Nat} (x1 : Int32) (x2 : Int32) (x3 : Int32) (σ : Sg) : JS X G 5 300 0 n0 (EM X G n0 5 300 (eS rvI M n)) (fMd_drop x1 x2 x3 σ) (σ, M, n) 0 [(0, .inr (.inl (some (gM G)))), (1, .inl x1), (2, .inl x2), (3, .inl x3)] [] := by
  unfold fMd_drop
  refine s_blk C 0 4 [0, 1, 2, 3] (pc' := 4) (lv' := [(0, .inr (.inl (some (gM G)))), (1, .inl x1), (2, .inl x2), (3, .inl x3)]) (st' := [.inl x3, .inl x2, .inl x1, .inr (.inl (some (gM G)))]) rfl ?_
  refine s_RI (CE_EM _ _ _ _ _ _) (st := []) (fun o ho => j_callV (As := [.inl x1, .inl x2, .inl x3]) (st := []) (b := gM G) C 4 rfl mf_Md_isVersion ml_X12_262 rfl (recv_M hG C) (by decide) (by decide) (Nat.le_refl _) rfl (cMd_isVersion (CX_tr C) hG σ M n x1 x2 x3 o ho)) (fun v1 => ?_)
  refine s_blk C 5 3 [0, 1, 2, 3] (pc' := 12) (lv' := [(0, .inr (.inl (some (gM G)))), (1, .inl x1), (2, .inl x2), (3, .inl x3)]) (st' := [.inl v1, .inr (.inl (some (gM G)))]) rfl ?_
  refine s_ine C 8 rfl (fun _ => ?_) (fun _ => ?_)
  · refine s_blk C 9 2 [0, 1, 2, 3] (pc' := 38) (lv' := [(0, .inr (.inl (some (gM G)))), (1, .inl x1), (2, .inl x2), (3, .inl x3)]) (st' := [.inl 1, .inr (.inl (some (gM G)))]) rfl ?_
    exact wMd_drop_j38 hG C htab _ _ _ _ _
  refine s_blk C 11 5 [0, 1, 2, 3] (pc' := 24) (lv' := [(0, .inr (.inl (some (gM G)))), (1, .inl x1), (2, .inl x2), (3, .inl x3)]) (st' := [.inl x3, .inl x2, .inl x1, .inr (.inl (some (gM G))), .inr (.inl (some (gM G))), .inr (.inl (some (gM G)))]) rfl ?_
  refine s_RI (CE_EM _ _ _ _ _ _) (st := [.inr (.inl (some (gM G))), .inr (.inl (some (gM G)))]) (fun o ho => j_callV (As := [.inl x1, .inl x2, .inl x3]) (st := [.inr (.inl (some (gM G))), .inr (.inl (some (gM G)))]) (b := gM G) C 16 rfl mf_Md_versionAt ml_X12_231 rfl (recv_M hG C) (by decide) (by decide) (Nat.le_refl _) rfl (cMd_versionAt (CX_tr C) hG σ M n x1 x2 x3 o ho)) (fun v2 => ?_)
  refine s_RI (CE_EM _ _ _ _ _ _) (st := [.inr (.inl (some (gM G)))]) (fun o ho => j_callV (As := [.inl v2]) (st := [.inr (.inl (some (gM G)))]) (b := gM G) C 17 rfl mf_Md_isLocked ml_X12_265 rfl (recv_M hG C) (by decide) (by decide) (Nat.le_refl _) rfl (cMd_isLocked (CX_tr C) hG σ M n v2 o ho)) (fun v3 => ?_)
  refine s_ieq C 18 rfl (fun _ => ?_) (fun _ => ?_)
  · refine s_blk C 21 1 [0, 1, 2, 3] (pc' := 38) (lv' := [(0, .inr (.inl (some (gM G)))), (1, .inl x1), (2, .inl x2), (3, .inl x3)]) (st' := [.inl 0, .inr (.inl (some (gM G)))]) rfl ?_
    exact wMd_drop_j38 hG C htab _ _ _ _ _
  refine s_blk C 19 2 [0, 1, 2, 3] (pc' := 38) (lv' := [(0, .inr (.inl (some (gM G)))), (1, .inl x1), (2, .inl x2), (3, .inl x3)]) (st' := [.inl 3, .inr (.inl (some (gM G)))]) rfl ?_
  exact wMd_drop_j38 hG C htab _ _ _ _ _
theorem cMd_drop {l : Launch} {G : GE} (htr : l.stackTraces = false) (hG : gH G = true) (σ : Sg) (M : Mm) (n : Nat) (x1 : Int32) (x2 : Int32) (x3 : Int32) : ∀ o, fMd_drop x1 x2 x3 σ = some o → MetX l G yX12_drop cX12_drop 5 (some .int) 5 300 [.inr (.inl (some (gM G))), .inl x1, .inl x2, .inl x3] (σ, M, n) ((eS rvI M n) o) :=
  c_ofX (by decide) kMd_drop htr rfl rfl fun X _ _ C htab => wMd_drop hG C htab x1 x2 x3 _
def pMd_isUpload : List BR := [(0, .iload_n 1, 1, 0, 1), (1, .iconst 0, 1, 0, 2), (2, .aload_n 0, 1, 0, 3), (3, .getfield 283, 3, 0, 6), (6, .iconst 1, 1, 1, 7), (7, .isub, 1, 0, 8), (8, .invokestatic 132, 3, 0, 11), (11, .ifCond .eq (16), 3, 0, 27), (14, .aload_n 0, 1, 0, 15), (15, .getfield 116, 3, 0, 18), (18, .iload_n 1, 1, 0, 19), (19, .baload, 1, 0, 20), (20, .ifCond .ne (7), 3, 0, 27), (23, .iconst 1, 1, 1, 24), (24, .goto (4), 3, 0, 28), (27, .iconst 0, 1, 0, 28), (28, .ireturn, 1, 0, 29)]
theorem kMd_isUpload : bOK cX12_isUpload 2 pMd_isUpload = true := by decide +kernel
def fMd_isUpload (x1 : Int32) (σ : Sg) : Option (Int32) :=
  mgF 40 σ fun v1 =>
  bdR (fMd_isIn x1 0 (v1 - 1)) fun v2 =>
  if v2 = 0 then
    rZ 0 (some 0)
  else
    mgA 43 x1 σ fun v3 =>
    if v3 = 0 then
      rZ 1 (some 1)
    else
      rZ 0 (some 0)
theorem wMd_isUpload {X : MC} {G : GE} {n0 : Nat} (hG : gH G = true) (C : CX X G RX12 cX12_isUpload pMd_isUpload 2 (some .boolean) n0) (htab : ∀ z ∈ X.2.2.2.2.2.2.2.2.exceptionTable.toList, False) {σ : Sg} {M : Mm} {n : Nat} (x1 : Int32) : JS X G 2 300 0 n0 (EM X G n0 3 300 (eR rvI σ M n)) (fMd_isUpload x1 σ) (σ, M, n) 0 [(0, .inr (.inl (some (gM G)))), (1, .inl x1)] [] := by
  unfold fMd_isUpload
  refine s_blk C 0 3 [0, 1] (pc' := 3) (lv' := [(0, .inr (.inl (some (gM G)))), (1, .inl x1)]) (st' := [.inr (.inl (some (gM G))), .inl 0, .inl x1]) rfl ?_
  refine s_mF hG C 3 rfl fl_X12_283 rfl (fun v1 => ?_)
  refine s_blk C 4 2 [0, 1] (pc' := 8) (lv' := [(0, .inr (.inl (some (gM G)))), (1, .inl x1)]) (st' := [.inl (v1 - 1), .inl 0, .inl x1]) rfl ?_
  refine s_RI (CE_EM _ _ _ _ _ _) (st := []) (fun o ho => j_callS (As := [.inl x1, .inl 0, .inl (v1 - 1)]) (st := []) C 6 rfl mf_Md_isIn ml_X12_132 rfl (by decide) (by decide) (Nat.le_refl _) rfl (cMd_isIn (CX_tr C) hG σ M n x1 0 (v1 - 1) o ho)) (fun v2 => ?_)
  refine s_ieq C 7 rfl (fun _ => ?_) (fun _ => ?_)
  · refine s_blk C 15 1 [] (pc' := 28) (lv' := []) (st' := [.inl 0]) rfl ?_
    exact s_zret C 16 rfl rfl
  refine s_blk C 8 1 [1] (pc' := 15) (lv' := [(1, .inl x1)]) (st' := [.inr (.inl (some (gM G)))]) rfl ?_
  refine s_mR hG C 9 rfl 43 fl_X12_116 rfl ?_
  refine s_blk C 10 1 [] (pc' := 19) (lv' := []) (st' := [.inl x1, .inr (.inl (some (gA G 43)))]) rfl ?_
  refine s_mldZ hG C 11 rfl rfl rfl (fun v3 => ?_)
  refine s_ine C 12 rfl (fun _ => ?_) (fun _ => ?_)
  · refine s_blk C 13 2 [] (pc' := 28) (lv' := []) (st' := [.inl 1]) rfl ?_
    exact s_zret C 16 rfl rfl
  refine s_blk C 15 1 [] (pc' := 28) (lv' := []) (st' := [.inl 0]) rfl ?_
  exact s_zret C 16 rfl rfl
theorem cMd_isUpload {l : Launch} {G : GE} (htr : l.stackTraces = false) (hG : gH G = true) (σ : Sg) (M : Mm) (n : Nat) (x1 : Int32) : ∀ o, fMd_isUpload x1 σ = some o → MetX l G yX12_isUpload cX12_isUpload 2 (some .boolean) 3 300 [.inr (.inl (some (gM G))), .inl x1] (σ, M, n) ((eR rvI σ M n) o) :=
  c_ofX (by decide) kMd_isUpload htr rfl rfl fun X _ _ C htab => wMd_isUpload hG C htab x1
def pMd_joins_0 : List BR := [(0, .aload_n 0, 1, 0, 1), (1, .iconst 0, 1, 0, 2), (2, .putfield 157, 3, 0, 5), (5, .iconst 0, 1, 0, 6), (6, .istore_n 2, 1, 0, 7), (7, .iload_n 2, 1, 0, 8), (8, .bipush 9, 2, 9, 10), (10, .if_icmp .ge (67), 3, 0, 77), (13, .iconst 0, 1, 0, 14), (14, .istore_n 3, 1, 0, 15), (15, .iload_n 3, 1, 0, 16), (16, .aload_n 0, 1, 0, 17), (17, .getfield 119, 3, 0, 20), (20, .bipush 9, 2, 9, 22), (22, .iload_n 1, 1, 0, 23), (23, .imul, 1, 0, 24), (24, .iload_n 2, 1, 0, 25), (25, .iadd, 1, 0, 26), (26, .iaload, 1, 0, 27), (27, .if_icmp .ge (44), 3, 0, 71), (30, .aload_n 0, 1, 0, 31), (31, .getfield 13, 3, 0, 34), (34, .aload_n 0, 1, 0, 35), (35, .getfield 157, 3, 0, 38), (38, .aload_n 0, 1, 0, 39), (39, .getfield 122, 3, 0, 42), (42, .bipush 40, 2, 40, 44), (44, .bipush 9, 2, 9, 46), (46, .iload_n 1, 1, 0, 47), (47, .imul, 1, 0, 48), (48, .iload_n 2, 1, 0, 49), (49, .iadd, 1, 0, 50), (50, .imul, 1, 0, 51), (51, .iload_n 3, 1, 0, 52), (52, .iadd, 1, 0, 53), (53, .iaload, 1, 0, 54), (54, .iastore, 1, 0, 55), (55, .aload_n 0, 1, 0, 56), (56, .dup, 1, 0, 57), (57, .getfield 157, 3, 0, 60)]
theorem kMd_joins_0 : bOK cX12_joins 4 pMd_joins_0 = true := by decide +kernel
def pMd_joins_1 : List BR := [(60, .iconst 1, 1, 1, 61), (61, .iadd, 1, 0, 62), (62, .putfield 157, 3, 0, 65), (65, .iinc 3 (1), 3, 1, 68), (68, .goto (-53), 3, 0, 15), (71, .iinc 2 (1), 3, 1, 74), (74, .goto (-67), 3, 0, 7), (77, .aload_n 0, 1, 0, 78), (78, .invokevirtual 160, 3, 0, 81), (81, .return_, 1, 0, 82)]
theorem kMd_joins_1 : bOK cX12_joins 4 pMd_joins_1 = true := by decide +kernel
def pMd_joins : List BR := (pMd_joins_0 ++ pMd_joins_1)
theorem kMd_joins : bOK cX12_joins 4 pMd_joins = true := (bOK_app kMd_joins_0 kMd_joins_1)
def fMd_joins_b15 (k7 : Int32 → Int32 → Sg → Option (Unit × Sg)) (k15 : Int32 → Int32 → Int32 → Sg → Option (Unit × Sg)) (x1 : Int32) (x2 : Int32) (x3 : Int32) (σ : Sg) : Option (Unit × Sg) :=
  mgA 44 ((9 * x1) + x2) σ fun v1 =>
  if v1 ≤ x3 then
    k7 x1 (x2 + 1) σ
  else
    mgF 3 σ fun v2 =>
    mgA 45 ((40 * ((9 * x1) + x2)) + x3) σ fun v3 =>
    mpA 4 v2 v3 σ fun σ4 =>
    mgF 3 σ4 fun v5 =>
    mpF 3 (v5 + 1) σ4 fun σ6 =>
    k15 x1 x2 (x3 + 1) σ6
theorem wMd_joins_b15 {X : MC} {G : GE} {n0 : Nat} (hG : gH G = true) (C : CX X G RX12 cX12_joins pMd_joins 4 none n0) (htab : ∀ z ∈ X.2.2.2.2.2.2.2.2.exceptionTable.toList, False) {M : Mm} {n : Nat} (k7 : Int32 → Int32 → Sg → Option (Unit × Sg)) (H7 : ∀ (x1 : Int32) (x2 : Int32) (σ : Sg), JS X G 4 300 0 n0 (EM X G n0 3 300 (eS rvU M n)) (k7 x1 x2 σ) (σ, M, n) 7 [(0, .inr (.inl (some (gM G)))), (1, .inl x1), (2, .inl x2)] []) (k15 : Int32 → Int32 → Int32 → Sg → Option (Unit × Sg)) (H15 : ∀ (x1 : Int32) (x2 : Int32) (x3 : Int32) (σ : Sg), JS X G 4 300 0 n0 (EM X G n0 3 300 (eS rvU M n)) (k15 x1 x2 x3 σ) (σ, M, n) 15 [(0, .inr (.inl (some (gM G)))), (1, .inl x1), (2, .inl x2), (3, .inl x3)] []) (x1 : Int32) (x2 : Int32) (x3 : Int32) (σ : Sg) : JS X G 4 300 0 n0 (EM X G n0 3 300 (eS rvU M n)) (fMd_joins_b15 k7 k15 x1 x2 x3 σ) (σ, M, n) 15 [(0, .inr (.inl (some (gM G)))), (1, .inl x1), (2, .inl x2), (3, .inl x3)] [] := by
  unfold fMd_joins_b15
  refine s_blk C 10 2 [0, 1, 2, 3] (pc' := 17) (lv' := [(0, .inr (.inl (some (gM G)))), (1, .inl x1), (2, .inl x2), (3, .inl x3)]) (st' := [.inr (.inl (some (gM G))), .inl x3]) rfl ?_
  refine s_mR hG C 12 rfl 44 fl_X12_119 rfl ?_
  refine s_blk C 13 5 [0, 1, 2, 3] (pc' := 26) (lv' := [(0, .inr (.inl (some (gM G)))), (1, .inl x1), (2, .inl x2), (3, .inl x3)]) (st' := [.inl ((9 * x1) + x2), .inr (.inl (some (gA G 44))), .inl x3]) rfl ?_
  refine s_mldI hG C 18 rfl rfl rfl (fun v1 => ?_)
  refine s_icge C 19 rfl (fun _ => ?_) (fun _ => ?_)
  · refine s_blk C 45 2 [0, 1, 2] (pc' := 7) (lv' := [(0, .inr (.inl (some (gM G)))), (1, .inl x1), (2, .inl (x2 + 1))]) (st' := []) rfl ?_
    exact H7 _ _ _
  refine s_blk C 20 1 [0, 1, 2, 3] (pc' := 31) (lv' := [(0, .inr (.inl (some (gM G)))), (1, .inl x1), (2, .inl x2), (3, .inl x3)]) (st' := [.inr (.inl (some (gM G)))]) rfl ?_
  refine s_mR hG C 21 rfl 4 fl_X12_13 rfl ?_
  refine s_blk C 22 1 [0, 1, 2, 3] (pc' := 35) (lv' := [(0, .inr (.inl (some (gM G)))), (1, .inl x1), (2, .inl x2), (3, .inl x3)]) (st' := [.inr (.inl (some (gM G))), .inr (.inl (some (gA G 4)))]) rfl ?_
  refine s_mF hG C 23 rfl fl_X12_157 rfl (fun v2 => ?_)
  refine s_blk C 24 1 [0, 1, 2, 3] (pc' := 39) (lv' := [(0, .inr (.inl (some (gM G)))), (1, .inl x1), (2, .inl x2), (3, .inl x3)]) (st' := [.inr (.inl (some (gM G))), .inl v2, .inr (.inl (some (gA G 4)))]) rfl ?_
  refine s_mR hG C 25 rfl 45 fl_X12_122 rfl ?_
  refine s_blk C 26 9 [0, 1, 2, 3] (pc' := 53) (lv' := [(0, .inr (.inl (some (gM G)))), (1, .inl x1), (2, .inl x2), (3, .inl x3)]) (st' := [.inl ((40 * ((9 * x1) + x2)) + x3), .inr (.inl (some (gA G 45))), .inl v2, .inr (.inl (some (gA G 4)))]) rfl ?_
  refine s_mldI hG C 35 rfl rfl rfl (fun v3 => ?_)
  refine s_mstI hG C 36 rfl rfl rfl (fun σ4 _ => ?_)
  refine s_blk C 37 2 [0, 1, 2, 3] (pc' := 57) (lv' := [(0, .inr (.inl (some (gM G)))), (1, .inl x1), (2, .inl x2), (3, .inl x3)]) (st' := [.inr (.inl (some (gM G))), .inr (.inl (some (gM G)))]) rfl ?_
  refine s_mF hG C 39 rfl fl_X12_157 rfl (fun v5 => ?_)
  refine s_blk C 40 2 [0, 1, 2, 3] (pc' := 62) (lv' := [(0, .inr (.inl (some (gM G)))), (1, .inl x1), (2, .inl x2), (3, .inl x3)]) (st' := [.inl (v5 + 1), .inr (.inl (some (gM G)))]) rfl ?_
  refine s_mpF hG C 42 rfl fl_X12_157 fp_X12_13_3 rfl (fun σ6 _ => ?_)
  refine s_blk C 43 2 [0, 1, 2, 3] (pc' := 15) (lv' := [(0, .inr (.inl (some (gM G)))), (1, .inl x1), (2, .inl x2), (3, .inl (x3 + 1))]) (st' := []) rfl ?_
  exact H15 _ _ _ _
def fMd_joins_l15 (k7 : Int32 → Int32 → Sg → Option (Unit × Sg)) (fu : Nat) : Int32 → Int32 → Int32 → Sg → Option (Unit × Sg) := Nat.rec (fun x1 x2 x3 σ => none) (fun _ k => fMd_joins_b15 k7 k) fu
theorem wMd_joins_l15 {X : MC} {G : GE} {n0 : Nat} (hG : gH G = true) (C : CX X G RX12 cX12_joins pMd_joins 4 none n0) (htab : ∀ z ∈ X.2.2.2.2.2.2.2.2.exceptionTable.toList, False) {M : Mm} {n : Nat} (k7 : Int32 → Int32 → Sg → Option (Unit × Sg)) (H7 : ∀ (x1 : Int32) (x2 : Int32) (σ : Sg), JS X G 4 300 0 n0 (EM X G n0 3 300 (eS rvU M n)) (k7 x1 x2 σ) (σ, M, n) 7 [(0, .inr (.inl (some (gM G)))), (1, .inl x1), (2, .inl x2)] []) : ∀ (fu : Nat) (x1 : Int32) (x2 : Int32) (x3 : Int32) (σ : Sg), JS X G 4 300 0 n0 (EM X G n0 3 300 (eS rvU M n)) (fMd_joins_l15 k7 fu x1 x2 x3 σ) (σ, M, n) 15 [(0, .inr (.inl (some (gM G)))), (1, .inl x1), (2, .inl x2), (3, .inl x3)] [] := by
  intro fu
  induction fu with
  | zero => intro x1 x2 x3 σ; exact s_none
  | succ fu ih => intro x1 x2 x3 σ; exact wMd_joins_b15 hG C htab k7 H7 (fMd_joins_l15 k7 fu) ih _ _ _ _
def fMd_joins_b7 (k7 : Int32 → Int32 → Sg → Option (Unit × Sg)) (x1 : Int32) (x2 : Int32) (σ : Sg) : Option (Unit × Sg) :=
  if 9 ≤ x2 then
    bdW (fMd_cuts σ) fun v1 σ2 =>
    some ((), σ2)
  else
    fMd_joins_l15 k7 FU x1 x2 0 σ
theorem wMd_joins_b7 {X : MC} {G : GE} {n0 : Nat} (hG : gH G = true) (C : CX X G RX12 cX12_joins pMd_joins 4 none n0) (htab : ∀ z ∈ X.2.2.2.2.2.2.2.2.exceptionTable.toList, False) {M : Mm} {n : Nat} (k7 : Int32 → Int32 → Sg → Option (Unit × Sg)) (H7 : ∀ (x1 : Int32) (x2 : Int32) (σ : Sg), JS X G 4 300 0 n0 (EM X G n0 3 300 (eS rvU M n)) (k7 x1 x2 σ) (σ, M, n) 7 [(0, .inr (.inl (some (gM G)))), (1, .inl x1), (2, .inl x2)] []) (x1 : Int32) (x2 : Int32) (σ : Sg) : JS X G 4 300 0 n0 (EM X G n0 3 300 (eS rvU M n)) (fMd_joins_b7 k7 x1 x2 σ) (σ, M, n) 7 [(0, .inr (.inl (some (gM G)))), (1, .inl x1), (2, .inl x2)] [] := by
  unfold fMd_joins_b7
  refine s_blk C 5 2 [0, 1, 2] (pc' := 10) (lv' := [(0, .inr (.inl (some (gM G)))), (1, .inl x1), (2, .inl x2)]) (st' := [.inl 9, .inl x2]) rfl ?_
  refine s_icge C 7 rfl (fun _ => ?_) (fun _ => ?_)
  · refine s_blk C 47 1 [] (pc' := 78) (lv' := []) (st' := [.inr (.inl (some (gM G)))]) rfl ?_
    refine s_SU (CE_EM _ _ _ _ _ _) (st := []) (fun o ho => j_callV (As := []) (st := []) (b := gM G) C 48 rfl mf_Md_cuts ml_X12_160 rfl (recv_M hG C) (by decide) (by decide) (Nat.le_refl _) rfl (cMd_cuts (CX_tr C) hG σ M n o ho)) (fun v1 σ2 => ?_)
    exact s_vret C 49 rfl rfl
  refine s_blk C 8 2 [0, 1, 2, 3] (pc' := 15) (lv' := [(0, .inr (.inl (some (gM G)))), (1, .inl x1), (2, .inl x2), (3, .inl 0)]) (st' := []) rfl ?_
  exact wMd_joins_l15 hG C htab k7 H7 FU _ _ _ _
def fMd_joins_l7 (fu : Nat) : Int32 → Int32 → Sg → Option (Unit × Sg) := Nat.rec (fun x1 x2 σ => none) (fun _ k => fMd_joins_b7 k) fu
theorem wMd_joins_l7 {X : MC} {G : GE} {n0 : Nat} (hG : gH G = true) (C : CX X G RX12 cX12_joins pMd_joins 4 none n0) (htab : ∀ z ∈ X.2.2.2.2.2.2.2.2.exceptionTable.toList, False) {M : Mm} {n : Nat} : ∀ (fu : Nat) (x1 : Int32) (x2 : Int32) (σ : Sg), JS X G 4 300 0 n0 (EM X G n0 3 300 (eS rvU M n)) (fMd_joins_l7 fu x1 x2 σ) (σ, M, n) 7 [(0, .inr (.inl (some (gM G)))), (1, .inl x1), (2, .inl x2)] [] := by
  intro fu
  induction fu with
  | zero => intro x1 x2 σ; exact s_none
  | succ fu ih => intro x1 x2 σ; exact wMd_joins_b7 hG C htab (fMd_joins_l7 fu) ih _ _ _
def fMd_joins (x1 : Int32) (σ : Sg) : Option (Unit × Sg) :=
  mpF 3 0 σ fun σ1 =>
  fMd_joins_l7 FU x1 0 σ1
theorem wMd_joins {X : MC} {G : GE} {n0 : Nat} (hG : gH G = true) (C : CX X G RX12 cX12_joins pMd_joins 4 none n0) (htab : ∀ z ∈ X.2.2.2.2.2.2.2.2.exceptionTable.toList, False) {M : Mm} {n : Nat} (x1 : Int32) (σ : Sg) : JS X G 4 300 0 n0 (EM X G n0 3 300 (eS rvU M n)) (fMd_joins x1 σ) (σ, M, n) 0 [(0, .inr (.inl (some (gM G)))), (1, .inl x1)] [] := by
  unfold fMd_joins
  refine s_blk C 0 2 [0, 1] (pc' := 2) (lv' := [(0, .inr (.inl (some (gM G)))), (1, .inl x1)]) (st' := [.inl 0, .inr (.inl (some (gM G)))]) rfl ?_
  refine s_mpF hG C 2 rfl fl_X12_157 fp_X12_13_3 rfl (fun σ1 _ => ?_)
  refine s_blk C 3 2 [0, 1, 2] (pc' := 7) (lv' := [(0, .inr (.inl (some (gM G)))), (1, .inl x1), (2, .inl 0)]) (st' := []) rfl ?_
  exact wMd_joins_l7 hG C htab FU _ _ _
theorem cMd_joins {l : Launch} {G : GE} (htr : l.stackTraces = false) (hG : gH G = true) (σ : Sg) (M : Mm) (n : Nat) (x1 : Int32) : ∀ o, fMd_joins x1 σ = some o → MetX l G yX12_joins cX12_joins 4 none 3 300 [.inr (.inl (some (gM G))), .inl x1] (σ, M, n) ((eS rvU M n) o) :=
  c_ofX (by decide) kMd_joins htr rfl rfl fun X _ _ C htab => wMd_joins hG C htab x1 _
def pMd_upMany : List BR := [(0, .iconst 0, 1, 0, 1), (1, .istore_n 2, 1, 0, 2), (2, .iconst 0, 1, 0, 3), (3, .istore_n 3, 1, 0, 4), (4, .iload_n 3, 1, 0, 5), (5, .bipush 6, 2, 6, 7), (7, .if_icmp .ge (31), 3, 0, 38), (10, .iload_n 2, 1, 0, 11), (11, .aload_n 0, 1, 0, 12), (12, .getfield 40, 3, 0, 15), (15, .bipush 6, 2, 6, 17), (17, .iload_n 1, 1, 0, 18), (18, .imul, 1, 0, 19), (19, .iload_n 3, 1, 0, 20), (20, .iadd, 1, 0, 21), (21, .baload, 1, 0, 22), (22, .ifCond .eq (7), 3, 0, 29), (25, .iconst 0, 1, 0, 26), (26, .goto (4), 3, 0, 30), (29, .iconst 1, 1, 1, 30), (30, .iadd, 1, 0, 31), (31, .istore_n 2, 1, 0, 32), (32, .iinc 3 (1), 3, 1, 35), (35, .goto (-31), 3, 0, 4), (38, .iload_n 2, 1, 0, 39), (39, .ireturn, 1, 0, 40)]
theorem kMd_upMany : bOK cX12_upMany 4 pMd_upMany = true := by decide +kernel
def fMd_upMany_j30 (k4 : Int32 → Int32 → Int32 → Sg → Option (Int32)) (x1 : Int32) (x3 : Int32) (s0 : Int32) (s1 : Int32) (σ : Sg) : Option (Int32) :=
  k4 x1 (s1 + s0) (x3 + 1) σ
theorem wMd_upMany_j30 {X : MC} {G : GE} {n0 : Nat} (hG : gH G = true) (C : CX X G RX12 cX12_upMany pMd_upMany 4 (some .int) n0) (htab : ∀ z ∈ X.2.2.2.2.2.2.2.2.exceptionTable.toList, False) {σ : Sg} {M : Mm} {n : Nat} (k4 : Int32 → Int32 → Int32 → Sg → Option (Int32)) (H4 : ∀ (x1 : Int32) (x2 : Int32) (x3 : Int32), JS X G 4 300 0 n0 (EM X G n0 2 300 (eR rvI σ M n)) (k4 x1 x2 x3 σ) (σ, M, n) 4 [(0, .inr (.inl (some (gM G)))), (1, .inl x1), (2, .inl x2), (3, .inl x3)] []) (x1 : Int32) (x3 : Int32) (s0 : Int32) (s1 : Int32) : JS X G 4 300 0 n0 (EM X G n0 2 300 (eR rvI σ M n)) (fMd_upMany_j30 k4 x1 x3 s0 s1 σ) (σ, M, n) 30 [(0, .inr (.inl (some (gM G)))), (1, .inl x1), (3, .inl x3)] [.inl s0, .inl s1] := by
  unfold fMd_upMany_j30
  refine s_blk C 20 4 [0, 1, 2, 3] (pc' := 4) (lv' := [(0, .inr (.inl (some (gM G)))), (1, .inl x1), (2, .inl (s1 + s0)), (3, .inl (x3 + 1))]) (st' := []) rfl ?_
  exact H4 _ _ _
def fMd_upMany_b4 (k4 : Int32 → Int32 → Int32 → Sg → Option (Int32)) (x1 : Int32) (x2 : Int32) (x3 : Int32) (σ : Sg) : Option (Int32) :=
  if 6 ≤ x3 then
    some x2
  else
    mgA 17 ((6 * x1) + x3) σ fun v1 =>
    if v1 = 0 then
      fMd_upMany_j30 k4 x1 x3 1 x2 σ
    else
      fMd_upMany_j30 k4 x1 x3 0 x2 σ
theorem wMd_upMany_b4 {X : MC} {G : GE} {n0 : Nat} (hG : gH G = true) (C : CX X G RX12 cX12_upMany pMd_upMany 4 (some .int) n0) (htab : ∀ z ∈ X.2.2.2.2.2.2.2.2.exceptionTable.toList, False) {σ : Sg} {M : Mm} {n : Nat} (k4 : Int32 → Int32 → Int32 → Sg → Option (Int32)) (H4 : ∀ (x1 : Int32) (x2 : Int32) (x3 : Int32), JS X G 4 300 0 n0 (EM X G n0 2 300 (eR rvI σ M n)) (k4 x1 x2 x3 σ) (σ, M, n) 4 [(0, .inr (.inl (some (gM G)))), (1, .inl x1), (2, .inl x2), (3, .inl x3)] []) (x1 : Int32) (x2 : Int32) (x3 : Int32) : JS X G 4 300 0 n0 (EM X G n0 2 300 (eR rvI σ M n)) (fMd_upMany_b4 k4 x1 x2 x3 σ) (σ, M, n) 4 [(0, .inr (.inl (some (gM G)))), (1, .inl x1), (2, .inl x2), (3, .inl x3)] [] := by
  unfold fMd_upMany_b4
  refine s_blk C 4 2 [0, 1, 2, 3] (pc' := 7) (lv' := [(0, .inr (.inl (some (gM G)))), (1, .inl x1), (2, .inl x2), (3, .inl x3)]) (st' := [.inl 6, .inl x3]) rfl ?_
  refine s_icge C 6 rfl (fun _ => ?_) (fun _ => ?_)
  · refine s_blk C 24 1 [] (pc' := 39) (lv' := []) (st' := [.inl x2]) rfl ?_
    exact s_iret C 25 rfl rfl
  refine s_blk C 7 2 [0, 1, 3] (pc' := 12) (lv' := [(0, .inr (.inl (some (gM G)))), (1, .inl x1), (3, .inl x3)]) (st' := [.inr (.inl (some (gM G))), .inl x2]) rfl ?_
  refine s_mR hG C 9 rfl 17 fl_X12_40 rfl ?_
  refine s_blk C 10 5 [0, 1, 3] (pc' := 21) (lv' := [(0, .inr (.inl (some (gM G)))), (1, .inl x1), (3, .inl x3)]) (st' := [.inl ((6 * x1) + x3), .inr (.inl (some (gA G 17))), .inl x2]) rfl ?_
  refine s_mldZ hG C 15 rfl rfl rfl (fun v1 => ?_)
  refine s_ieq C 16 rfl (fun _ => ?_) (fun _ => ?_)
  · refine s_blk C 19 1 [0, 1, 3] (pc' := 30) (lv' := [(0, .inr (.inl (some (gM G)))), (1, .inl x1), (3, .inl x3)]) (st' := [.inl 1, .inl x2]) rfl ?_
    exact wMd_upMany_j30 hG C htab k4 H4 _ _ _ _
  refine s_blk C 17 2 [0, 1, 3] (pc' := 30) (lv' := [(0, .inr (.inl (some (gM G)))), (1, .inl x1), (3, .inl x3)]) (st' := [.inl 0, .inl x2]) rfl ?_
  exact wMd_upMany_j30 hG C htab k4 H4 _ _ _ _
def fMd_upMany_l4 (fu : Nat) : Int32 → Int32 → Int32 → Sg → Option (Int32) := Nat.rec (fun x1 x2 x3 σ => none) (fun _ k => fMd_upMany_b4 k) fu
theorem wMd_upMany_l4 {X : MC} {G : GE} {n0 : Nat} (hG : gH G = true) (C : CX X G RX12 cX12_upMany pMd_upMany 4 (some .int) n0) (htab : ∀ z ∈ X.2.2.2.2.2.2.2.2.exceptionTable.toList, False) {σ : Sg} {M : Mm} {n : Nat} : ∀ (fu : Nat) (x1 : Int32) (x2 : Int32) (x3 : Int32), JS X G 4 300 0 n0 (EM X G n0 2 300 (eR rvI σ M n)) (fMd_upMany_l4 fu x1 x2 x3 σ) (σ, M, n) 4 [(0, .inr (.inl (some (gM G)))), (1, .inl x1), (2, .inl x2), (3, .inl x3)] [] := by
  intro fu
  induction fu with
  | zero => intro x1 x2 x3; exact s_none
  | succ fu ih => intro x1 x2 x3; exact wMd_upMany_b4 hG C htab (fMd_upMany_l4 fu) ih _ _ _
def fMd_upMany (x1 : Int32) (σ : Sg) : Option (Int32) :=
  fMd_upMany_l4 FU x1 0 0 σ
theorem wMd_upMany {X : MC} {G : GE} {n0 : Nat} (hG : gH G = true) (C : CX X G RX12 cX12_upMany pMd_upMany 4 (some .int) n0) (htab : ∀ z ∈ X.2.2.2.2.2.2.2.2.exceptionTable.toList, False) {σ : Sg} {M : Mm} {n : Nat} (x1 : Int32) : JS X G 4 300 0 n0 (EM X G n0 2 300 (eR rvI σ M n)) (fMd_upMany x1 σ) (σ, M, n) 0 [(0, .inr (.inl (some (gM G)))), (1, .inl x1)] [] := by
  unfold fMd_upMany
  refine s_blk C 0 4 [0, 1, 2, 3] (pc' := 4) (lv' := [(0, .inr (.inl (some (gM G)))), (1, .inl x1), (2, .inl 0), (3, .inl 0)]) (st' := []) rfl ?_
  exact wMd_upMany_l4 hG C htab FU _ _ _
theorem cMd_upMany {l : Launch} {G : GE} (htr : l.stackTraces = false) (hG : gH G = true) (σ : Sg) (M : Mm) (n : Nat) (x1 : Int32) : ∀ o, fMd_upMany x1 σ = some o → MetX l G yX12_upMany cX12_upMany 4 (some .int) 2 300 [.inr (.inl (some (gM G))), .inl x1] (σ, M, n) ((eR rvI σ M n) o) :=
  c_ofX (by decide) kMd_upMany htr rfl rfl fun X _ _ C htab => wMd_upMany hG C htab x1
def pMd_isSame_0 : List BR := [(0, .aload_n 0, 1, 0, 1), (1, .getfield 19, 3, 0, 4), (4, .iload_n 1, 1, 0, 5), (5, .iaload, 1, 0, 6), (6, .aload_n 0, 1, 0, 7), (7, .getfield 19, 3, 0, 10), (10, .iload_n 2, 1, 0, 11), (11, .iaload, 1, 0, 12), (12, .if_icmp .ne (7), 3, 0, 19), (15, .iconst 1, 1, 1, 16), (16, .goto (4), 3, 0, 20), (19, .iconst 0, 1, 0, 20), (20, .istore_n 3, 1, 0, 21), (21, .iconst 0, 1, 0, 22), (22, .istore 4, 2, 0, 24), (24, .iload 4, 2, 0, 26), (26, .aload_n 0, 1, 0, 27), (27, .getfield 19, 3, 0, 30), (30, .iload_n 1, 1, 0, 31), (31, .iaload, 1, 0, 32), (32, .if_icmp .ge (50), 3, 0, 82), (35, .iload_n 3, 1, 0, 36), (36, .ifCond .eq (46), 3, 0, 82), (39, .aload_n 0, 1, 0, 40), (40, .getfield 13, 3, 0, 43), (43, .aload_n 0, 1, 0, 44), (44, .getfield 16, 3, 0, 47), (47, .iload_n 1, 1, 0, 48), (48, .iaload, 1, 0, 49), (49, .iload 4, 2, 0, 51), (51, .iadd, 1, 0, 52), (52, .iaload, 1, 0, 53), (53, .aload_n 0, 1, 0, 54), (54, .getfield 13, 3, 0, 57), (57, .aload_n 0, 1, 0, 58), (58, .getfield 16, 3, 0, 61), (61, .iload_n 2, 1, 0, 62), (62, .iaload, 1, 0, 63), (63, .iload 4, 2, 0, 65), (65, .iadd, 1, 0, 66)]
theorem kMd_isSame_0 : bOK cX12_isSame 5 pMd_isSame_0 = true := by decide +kernel
def pMd_isSame_1 : List BR := [(66, .iaload, 1, 0, 67), (67, .if_icmp .ne (7), 3, 0, 74), (70, .iconst 1, 1, 1, 71), (71, .goto (4), 3, 0, 75), (74, .iconst 0, 1, 0, 75), (75, .istore_n 3, 1, 0, 76), (76, .iinc 4 (1), 3, 1, 79), (79, .goto (-55), 3, 0, 24), (82, .iload_n 3, 1, 0, 83), (83, .ireturn, 1, 0, 84)]
theorem kMd_isSame_1 : bOK cX12_isSame 5 pMd_isSame_1 = true := by decide +kernel
def pMd_isSame : List BR := (pMd_isSame_0 ++ pMd_isSame_1)
theorem kMd_isSame : bOK cX12_isSame 5 pMd_isSame = true := (bOK_app kMd_isSame_0 kMd_isSame_1)
def fMd_isSame_j75 (k24 : Int32 → Int32 → Int32 → Int32 → Sg → Option (Int32)) (x1 : Int32) (x2 : Int32) (x4 : Int32) (s0 : Int32) (σ : Sg) : Option (Int32) :=
  k24 x1 x2 s0 (x4 + 1) σ
theorem wMd_isSame_j75 {X : MC} {G : GE} {n0 : Nat} (hG : gH G = true) (C : CX X G RX12 cX12_isSame pMd_isSame 5 (some .boolean) n0) (htab : ∀ z ∈ X.2.2.2.2.2.2.2.2.exceptionTable.toList, False) {σ : Sg} {M : Mm} {n : Nat} (k24 : Int32 → Int32 → Int32 → Int32 → Sg → Option (Int32)) (H24 : ∀ (x1 : Int32) (x2 : Int32) (x3 : Int32) (x4 : Int32), JS X G 5 300 0 n0 (EM X G n0 2 300 (eR rvI σ M n)) (k24 x1 x2 x3 x4 σ) (σ, M, n) 24 [(0, .inr (.inl (some (gM G)))), (1, .inl x1), (2, .inl x2), (3, .inl x3), (4, .inl x4)] []) (x1 : Int32) (x2 : Int32) (x4 : Int32) (s0 : Int32) : JS X G 5 300 0 n0 (EM X G n0 2 300 (eR rvI σ M n)) (fMd_isSame_j75 k24 x1 x2 x4 s0 σ) (σ, M, n) 75 [(0, .inr (.inl (some (gM G)))), (1, .inl x1), (2, .inl x2), (4, .inl x4)] [.inl s0] := by
  unfold fMd_isSame_j75
  refine s_blk C 45 3 [0, 1, 2, 3, 4] (pc' := 24) (lv' := [(0, .inr (.inl (some (gM G)))), (1, .inl x1), (2, .inl x2), (3, .inl s0), (4, .inl (x4 + 1))]) (st' := []) rfl ?_
  exact H24 _ _ _ _
def fMd_isSame_b24 (k24 : Int32 → Int32 → Int32 → Int32 → Sg → Option (Int32)) (x1 : Int32) (x2 : Int32) (x3 : Int32) (x4 : Int32) (σ : Sg) : Option (Int32) :=
  mgA 7 x1 σ fun v1 =>
  if v1 ≤ x4 then
    rZ x3 (some x3)
  else
    if x3 = 0 then
      rZ x3 (some x3)
    else
      mgA 6 x1 σ fun v2 =>
      mgA 4 (v2 + x4) σ fun v3 =>
      mgA 6 x2 σ fun v4 =>
      mgA 4 (v4 + x4) σ fun v5 =>
      if v3 = v5 then
        fMd_isSame_j75 k24 x1 x2 x4 1 σ
      else
        fMd_isSame_j75 k24 x1 x2 x4 0 σ
theorem wMd_isSame_b24 {X : MC} {G : GE} {n0 : Nat} (hG : gH G = true) (C : CX X G RX12 cX12_isSame pMd_isSame 5 (some .boolean) n0) (htab : ∀ z ∈ X.2.2.2.2.2.2.2.2.exceptionTable.toList, False) {σ : Sg} {M : Mm} {n : Nat} (k24 : Int32 → Int32 → Int32 → Int32 → Sg → Option (Int32)) (H24 : ∀ (x1 : Int32) (x2 : Int32) (x3 : Int32) (x4 : Int32), JS X G 5 300 0 n0 (EM X G n0 2 300 (eR rvI σ M n)) (k24 x1 x2 x3 x4 σ) (σ, M, n) 24 [(0, .inr (.inl (some (gM G)))), (1, .inl x1), (2, .inl x2), (3, .inl x3), (4, .inl x4)] []) (x1 : Int32) (x2 : Int32) (x3 : Int32) (x4 : Int32) : JS X G 5 300 0 n0 (EM X G n0 2 300 (eR rvI σ M n)) (fMd_isSame_b24 k24 x1 x2 x3 x4 σ) (σ, M, n) 24 [(0, .inr (.inl (some (gM G)))), (1, .inl x1), (2, .inl x2), (3, .inl x3), (4, .inl x4)] [] := by
  unfold fMd_isSame_b24
  refine s_blk C 15 2 [0, 1, 2, 3, 4] (pc' := 27) (lv' := [(0, .inr (.inl (some (gM G)))), (1, .inl x1), (2, .inl x2), (3, .inl x3), (4, .inl x4)]) (st' := [.inr (.inl (some (gM G))), .inl x4]) rfl ?_
  refine s_mR hG C 17 rfl 7 fl_X12_19 rfl ?_
  refine s_blk C 18 1 [0, 1, 2, 3, 4] (pc' := 31) (lv' := [(0, .inr (.inl (some (gM G)))), (1, .inl x1), (2, .inl x2), (3, .inl x3), (4, .inl x4)]) (st' := [.inl x1, .inr (.inl (some (gA G 7))), .inl x4]) rfl ?_
  refine s_mldI hG C 19 rfl rfl rfl (fun v1 => ?_)
  refine s_icge C 20 rfl (fun _ => ?_) (fun _ => ?_)
  · refine s_blk C 48 1 [] (pc' := 83) (lv' := []) (st' := [.inl x3]) rfl ?_
    exact s_zret C 49 rfl rfl
  refine s_blk C 21 1 [0, 1, 2, 3, 4] (pc' := 36) (lv' := [(0, .inr (.inl (some (gM G)))), (1, .inl x1), (2, .inl x2), (3, .inl x3), (4, .inl x4)]) (st' := [.inl x3]) rfl ?_
  refine s_ieq C 22 rfl (fun _ => ?_) (fun _ => ?_)
  · refine s_blk C 48 1 [] (pc' := 83) (lv' := []) (st' := [.inl x3]) rfl ?_
    exact s_zret C 49 rfl rfl
  refine s_blk C 23 1 [0, 1, 2, 4] (pc' := 40) (lv' := [(0, .inr (.inl (some (gM G)))), (1, .inl x1), (2, .inl x2), (4, .inl x4)]) (st' := [.inr (.inl (some (gM G)))]) rfl ?_
  refine s_mR hG C 24 rfl 4 fl_X12_13 rfl ?_
  refine s_blk C 25 1 [0, 1, 2, 4] (pc' := 44) (lv' := [(0, .inr (.inl (some (gM G)))), (1, .inl x1), (2, .inl x2), (4, .inl x4)]) (st' := [.inr (.inl (some (gM G))), .inr (.inl (some (gA G 4)))]) rfl ?_
  refine s_mR hG C 26 rfl 6 fl_X12_16 rfl ?_
  refine s_blk C 27 1 [0, 1, 2, 4] (pc' := 48) (lv' := [(0, .inr (.inl (some (gM G)))), (1, .inl x1), (2, .inl x2), (4, .inl x4)]) (st' := [.inl x1, .inr (.inl (some (gA G 6))), .inr (.inl (some (gA G 4)))]) rfl ?_
  refine s_mldI hG C 28 rfl rfl rfl (fun v2 => ?_)
  refine s_blk C 29 2 [0, 1, 2, 4] (pc' := 52) (lv' := [(0, .inr (.inl (some (gM G)))), (1, .inl x1), (2, .inl x2), (4, .inl x4)]) (st' := [.inl (v2 + x4), .inr (.inl (some (gA G 4)))]) rfl ?_
  refine s_mldI hG C 31 rfl rfl rfl (fun v3 => ?_)
  refine s_blk C 32 1 [0, 1, 2, 4] (pc' := 54) (lv' := [(0, .inr (.inl (some (gM G)))), (1, .inl x1), (2, .inl x2), (4, .inl x4)]) (st' := [.inr (.inl (some (gM G))), .inl v3]) rfl ?_
  refine s_mR hG C 33 rfl 4 fl_X12_13 rfl ?_
  refine s_blk C 34 1 [0, 1, 2, 4] (pc' := 58) (lv' := [(0, .inr (.inl (some (gM G)))), (1, .inl x1), (2, .inl x2), (4, .inl x4)]) (st' := [.inr (.inl (some (gM G))), .inr (.inl (some (gA G 4))), .inl v3]) rfl ?_
  refine s_mR hG C 35 rfl 6 fl_X12_16 rfl ?_
  refine s_blk C 36 1 [0, 1, 2, 4] (pc' := 62) (lv' := [(0, .inr (.inl (some (gM G)))), (1, .inl x1), (2, .inl x2), (4, .inl x4)]) (st' := [.inl x2, .inr (.inl (some (gA G 6))), .inr (.inl (some (gA G 4))), .inl v3]) rfl ?_
  refine s_mldI hG C 37 rfl rfl rfl (fun v4 => ?_)
  refine s_blk C 38 2 [0, 1, 2, 4] (pc' := 66) (lv' := [(0, .inr (.inl (some (gM G)))), (1, .inl x1), (2, .inl x2), (4, .inl x4)]) (st' := [.inl (v4 + x4), .inr (.inl (some (gA G 4))), .inl v3]) rfl ?_
  refine s_mldI hG C 40 rfl rfl rfl (fun v5 => ?_)
  refine s_icne C 41 rfl (fun _ => ?_) (fun _ => ?_)
  · refine s_blk C 42 2 [0, 1, 2, 4] (pc' := 75) (lv' := [(0, .inr (.inl (some (gM G)))), (1, .inl x1), (2, .inl x2), (4, .inl x4)]) (st' := [.inl 1]) rfl ?_
    exact wMd_isSame_j75 hG C htab k24 H24 _ _ _ _
  refine s_blk C 44 1 [0, 1, 2, 4] (pc' := 75) (lv' := [(0, .inr (.inl (some (gM G)))), (1, .inl x1), (2, .inl x2), (4, .inl x4)]) (st' := [.inl 0]) rfl ?_
  exact wMd_isSame_j75 hG C htab k24 H24 _ _ _ _
def fMd_isSame_l24 (fu : Nat) : Int32 → Int32 → Int32 → Int32 → Sg → Option (Int32) := Nat.rec (fun x1 x2 x3 x4 σ => none) (fun _ k => fMd_isSame_b24 k) fu
theorem wMd_isSame_l24 {X : MC} {G : GE} {n0 : Nat} (hG : gH G = true) (C : CX X G RX12 cX12_isSame pMd_isSame 5 (some .boolean) n0) (htab : ∀ z ∈ X.2.2.2.2.2.2.2.2.exceptionTable.toList, False) {σ : Sg} {M : Mm} {n : Nat} : ∀ (fu : Nat) (x1 : Int32) (x2 : Int32) (x3 : Int32) (x4 : Int32), JS X G 5 300 0 n0 (EM X G n0 2 300 (eR rvI σ M n)) (fMd_isSame_l24 fu x1 x2 x3 x4 σ) (σ, M, n) 24 [(0, .inr (.inl (some (gM G)))), (1, .inl x1), (2, .inl x2), (3, .inl x3), (4, .inl x4)] [] := by
  intro fu
  induction fu with
  | zero => intro x1 x2 x3 x4; exact s_none
  | succ fu ih => intro x1 x2 x3 x4; exact wMd_isSame_b24 hG C htab (fMd_isSame_l24 fu) ih _ _ _ _
def fMd_isSame_j20 (x1 : Int32) (x2 : Int32) (s0 : Int32) (σ : Sg) : Option (Int32) :=
  fMd_isSame_l24 FU x1 x2 s0 0 σ
theorem wMd_isSame_j20 {X : MC} {G : GE} {n0 : Nat} (hG : gH G = true) (C : CX X G RX12 cX12_isSame pMd_isSame 5 (some .boolean) n0) (htab : ∀ z ∈ X.2.2.2.2.2.2.2.2.exceptionTable.toList, False) {σ : Sg} {M : Mm} {n : Nat} (x1 : Int32) (x2 : Int32) (s0 : Int32) : JS X G 5 300 0 n0 (EM X G n0 2 300 (eR rvI σ M n)) (fMd_isSame_j20 x1 x2 s0 σ) (σ, M, n) 20 [(0, .inr (.inl (some (gM G)))), (1, .inl x1), (2, .inl x2)] [.inl s0] := by
  unfold fMd_isSame_j20
  refine s_blk C 12 3 [0, 1, 2, 3, 4] (pc' := 24) (lv' := [(0, .inr (.inl (some (gM G)))), (1, .inl x1), (2, .inl x2), (3, .inl s0), (4, .inl 0)]) (st' := []) rfl ?_
  exact wMd_isSame_l24 hG C htab FU _ _ _ _
def fMd_isSame (x1 : Int32) (x2 : Int32) (σ : Sg) : Option (Int32) :=
  mgA 7 x1 σ fun v1 =>
  mgA 7 x2 σ fun v2 =>
  if v1 = v2 then
    fMd_isSame_j20 x1 x2 1 σ
  else
    fMd_isSame_j20 x1 x2 0 σ
theorem wMd_isSame {X : MC} {G : GE} {n0 : Nat} (hG : gH G = true) (C : CX X G RX12 cX12_isSame pMd_isSame 5 (some .boolean) n0) (htab : ∀ z ∈ X.2.2.2.2.2.2.2.2.exceptionTable.toList, False) {σ : Sg} {M : Mm} {n : Nat} (x1 : Int32) (x2 : Int32) : JS X G 5 300 0 n0 (EM X G n0 2 300 (eR rvI σ M n)) (fMd_isSame x1 x2 σ) (σ, M, n) 0 [(0, .inr (.inl (some (gM G)))), (1, .inl x1), (2, .inl x2)] [] := by
  unfold fMd_isSame
  refine s_blk C 0 1 [0, 1, 2] (pc' := 1) (lv' := [(0, .inr (.inl (some (gM G)))), (1, .inl x1), (2, .inl x2)]) (st' := [.inr (.inl (some (gM G)))]) rfl ?_
  refine s_mR hG C 1 rfl 7 fl_X12_19 rfl ?_
  refine s_blk C 2 1 [0, 1, 2] (pc' := 5) (lv' := [(0, .inr (.inl (some (gM G)))), (1, .inl x1), (2, .inl x2)]) (st' := [.inl x1, .inr (.inl (some (gA G 7)))]) rfl ?_
  refine s_mldI hG C 3 rfl rfl rfl (fun v1 => ?_)
  refine s_blk C 4 1 [0, 1, 2] (pc' := 7) (lv' := [(0, .inr (.inl (some (gM G)))), (1, .inl x1), (2, .inl x2)]) (st' := [.inr (.inl (some (gM G))), .inl v1]) rfl ?_
  refine s_mR hG C 5 rfl 7 fl_X12_19 rfl ?_
  refine s_blk C 6 1 [0, 1, 2] (pc' := 11) (lv' := [(0, .inr (.inl (some (gM G)))), (1, .inl x1), (2, .inl x2)]) (st' := [.inl x2, .inr (.inl (some (gA G 7))), .inl v1]) rfl ?_
  refine s_mldI hG C 7 rfl rfl rfl (fun v2 => ?_)
  refine s_icne C 8 rfl (fun _ => ?_) (fun _ => ?_)
  · refine s_blk C 9 2 [0, 1, 2] (pc' := 20) (lv' := [(0, .inr (.inl (some (gM G)))), (1, .inl x1), (2, .inl x2)]) (st' := [.inl 1]) rfl ?_
    exact wMd_isSame_j20 hG C htab _ _ _
  refine s_blk C 11 1 [0, 1, 2] (pc' := 20) (lv' := [(0, .inr (.inl (some (gM G)))), (1, .inl x1), (2, .inl x2)]) (st' := [.inl 0]) rfl ?_
  exact wMd_isSame_j20 hG C htab _ _ _
theorem cMd_isSame {l : Launch} {G : GE} (htr : l.stackTraces = false) (hG : gH G = true) (σ : Sg) (M : Mm) (n : Nat) (x1 : Int32) (x2 : Int32) : ∀ o, fMd_isSame x1 x2 σ = some o → MetX l G yX12_isSame cX12_isSame 5 (some .boolean) 2 300 [.inr (.inl (some (gM G))), .inl x1, .inl x2] (σ, M, n) ((eR rvI σ M n) o) :=
  c_ofX (by decide) kMd_isSame htr rfl rfl fun X _ _ C htab => wMd_isSame hG C htab x1 x2

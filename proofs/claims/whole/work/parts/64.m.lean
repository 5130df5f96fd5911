def pMd_upload_0 : List BR := [(0, .aload_n 0, 1, 0, 1), (1, .iload_n 1, 1, 0, 2), (2, .invokestatic 225, 3, 0, 5), (5, .ifCond .ne (7), 3, 0, 12), (8, .iconst 1, 1, 1, 9), (9, .goto (28), 3, 0, 37), (12, .iload_n 2, 1, 0, 13), (13, .invokestatic 228, 3, 0, 16), (16, .ifCond .ne (7), 3, 0, 23), (19, .iconst 2, 1, 2, 20), (20, .goto (17), 3, 0, 37), (23, .aload_n 0, 1, 0, 24), (24, .getfield 283, 3, 0, 27), (27, .bipush 12, 2, 12, 29), (29, .if_icmp .ne (7), 3, 0, 36), (32, .iconst 3, 1, 3, 33), (33, .goto (4), 3, 0, 37), (36, .iconst 0, 1, 0, 37), (37, .invokevirtual 150, 3, 0, 40), (40, .ifCond .ne (5), 3, 0, 45), (43, .iconst 0, 1, 0, 44), (44, .ireturn, 1, 0, 45), (45, .aload_n 0, 1, 0, 46), (46, .getfield 110, 3, 0, 49), (49, .aload_n 0, 1, 0, 50), (50, .getfield 283, 3, 0, 53), (53, .iload_n 1, 1, 0, 54), (54, .iastore, 1, 0, 55), (55, .aload_n 0, 1, 0, 56), (56, .getfield 113, 3, 0, 59), (59, .aload_n 0, 1, 0, 60), (60, .getfield 283, 3, 0, 63), (63, .iload_n 2, 1, 0, 64), (64, .iastore, 1, 0, 65), (65, .aload_n 0, 1, 0, 66), (66, .dup, 1, 0, 67), (67, .getfield 283, 3, 0, 70), (70, .iconst 1, 1, 1, 71), (71, .iadd, 1, 0, 72), (72, .putfield 283, 3, 0, 75)]
theorem kMd_upload_0 : bOK cX12_upload 3 pMd_upload_0 = true := by decide +kernel
def pMd_upload_1 : List BR := [(75, .aload_n 0, 1, 0, 76), (76, .getfield 283, 3, 0, 79), (79, .iconst 1, 1, 1, 80), (80, .isub, 1, 0, 81), (81, .ireturn, 1, 0, 82)]
theorem kMd_upload_1 : bOK cX12_upload 3 pMd_upload_1 = true := by decide +kernel
def pMd_upload : List BR := (pMd_upload_0 ++ pMd_upload_1)
theorem kMd_upload : bOK cX12_upload 3 pMd_upload = true := (bOK_app kMd_upload_0 kMd_upload_1)
def fMd_upload_j37 (x1 : Int32) (x2 : Int32) (s0 : Int32) (σ : Sg) : Option (Int32 × Sg) :=
  bdW (fMd_holds s0 σ) fun v1 σ2 =>
  if v1 = 0 then
    some (0, σ2)
  else
    mgF 40 σ2 fun v3 =>
    mpA 41 v3 x1 σ2 fun σ4 =>
    mgF 40 σ4 fun v5 =>
    mpA 42 v5 x2 σ4 fun σ6 =>
    mgF 40 σ6 fun v7 =>
    mpF 40 (v7 + 1) σ6 fun σ8 =>
    mgF 40 σ8 fun v9 =>
    some ((v9 - 1), σ8)
theorem wMd_upload_j37 {X : MC} {G : GE} {n0 : Nat} (hG : gH G = true) (C : CX X G RX12 cX12_upload pMd_upload 3 (some .int) n0) (htab : ∀ z ∈ X.2.2.2.2.2.2.2.2.exceptionTable.toList, False) {M : Mm} {n : Nat} (x1 : Int32) (x2 : Int32) (s0 : Int32) (σ : Sg) : JS X G 3 300 0 n0 (EM X G n0 4 300 (eS rvI M n)) (fMd_upload_j37 x1 x2 s0 σ) (σ, M, n) 37 [(0, .inr (.inl (some (gM G)))), (1, .inl x1), (2, .inl x2)] [.inl s0, .inr (.inl (some (gM G)))] := by
  unfold fMd_upload_j37
  refine s_SI (CE_EM _ _ _ _ _ _) (st := []) (fun o ho => j_callV (As := [.inl s0]) (st := []) (b := gM G) C 18 rfl mf_Md_holds ml_X12_150 rfl (recv_M hG C) (by decide) (by decide) (Nat.le_refl _) rfl (cMd_holds (CX_tr C) hG σ M n s0 o ho)) (fun v1 σ2 => ?_)
  refine s_ine C 19 rfl (fun _ => ?_) (fun _ => ?_)
  · refine s_blk C 20 1 [] (pc' := 44) (lv' := []) (st' := [.inl 0]) rfl ?_
    exact s_iret C 21 rfl rfl
  refine s_blk C 22 1 [0, 1, 2] (pc' := 46) (lv' := [(0, .inr (.inl (some (gM G)))), (1, .inl x1), (2, .inl x2)]) (st' := [.inr (.inl (some (gM G)))]) rfl ?_
  refine s_mR hG C 23 rfl 41 fl_X12_110 rfl ?_
  refine s_blk C 24 1 [0, 1, 2] (pc' := 50) (lv' := [(0, .inr (.inl (some (gM G)))), (1, .inl x1), (2, .inl x2)]) (st' := [.inr (.inl (some (gM G))), .inr (.inl (some (gA G 41)))]) rfl ?_
  refine s_mF hG C 25 rfl fl_X12_283 rfl (fun v3 => ?_)
  refine s_blk C 26 1 [0, 2] (pc' := 54) (lv' := [(0, .inr (.inl (some (gM G)))), (2, .inl x2)]) (st' := [.inl x1, .inl v3, .inr (.inl (some (gA G 41)))]) rfl ?_
  refine s_mstI hG C 27 rfl rfl rfl (fun σ4 _ => ?_)
  refine s_blk C 28 1 [0, 2] (pc' := 56) (lv' := [(0, .inr (.inl (some (gM G)))), (2, .inl x2)]) (st' := [.inr (.inl (some (gM G)))]) rfl ?_
  refine s_mR hG C 29 rfl 42 fl_X12_113 rfl ?_
  refine s_blk C 30 1 [0, 2] (pc' := 60) (lv' := [(0, .inr (.inl (some (gM G)))), (2, .inl x2)]) (st' := [.inr (.inl (some (gM G))), .inr (.inl (some (gA G 42)))]) rfl ?_
  refine s_mF hG C 31 rfl fl_X12_283 rfl (fun v5 => ?_)
  refine s_blk C 32 1 [0] (pc' := 64) (lv' := [(0, .inr (.inl (some (gM G))))]) (st' := [.inl x2, .inl v5, .inr (.inl (some (gA G 42)))]) rfl ?_
  refine s_mstI hG C 33 rfl rfl rfl (fun σ6 _ => ?_)
  refine s_blk C 34 2 [0] (pc' := 67) (lv' := [(0, .inr (.inl (some (gM G))))]) (st' := [.inr (.inl (some (gM G))), .inr (.inl (some (gM G)))]) rfl ?_
  refine s_mF hG C 36 rfl fl_X12_283 rfl (fun v7 => ?_)
  refine s_blk C 37 2 [0] (pc' := 72) (lv' := [(0, .inr (.inl (some (gM G))))]) (st' := [.inl (v7 + 1), .inr (.inl (some (gM G)))]) rfl ?_
  refine s_mpF hG C 39 rfl fl_X12_283 fp_X12_13_40 rfl (fun σ8 _ => ?_)
  refine s_blk C 40 1 [] (pc' := 76) (lv' := []) (st' := [.inr (.inl (some (gM G)))]) rfl ?_
  refine s_mF hG C 41 rfl fl_X12_283 rfl (fun v9 => ?_)
  refine s_blk C 42 2 [] (pc' := 81) (lv' := []) (st' := [.inl (v9 - 1)]) rfl ?_
  exact s_iret C 44 rfl rfl
def fMd_upload (x1 : Int32) (x2 : Int32) (σ : Sg) : Option (Int32 × Sg) :=
  bdR (fMd_isRegion x1) fun v1 =>
  if v1 = 0 then
    fMd_upload_j37 x1 x2 1 σ
  else
    bdR (fMd_isKey x2) fun v2 =>
    if v2 = 0 then
      fMd_upload_j37 x1 x2 2 σ
    else
      mgF 40 σ fun v3 =>
      if v3 = 12 then
        fMd_upload_j37 x1 x2 3 σ
      else
        fMd_upload_j37 x1 x2 0 σ
theorem wMd_upload {X : MC} {G : GE} {n0 : Nat} (hG : gH G = true) (C : CX X G RX12 cX12_upload pMd_upload 3 (some .int) n0) (htab : ∀ z ∈ X.2.2.2.2.2.2.2.2.exceptionTable.toList, False) {M : Mm} {n : Nat} (x1 : Int32) (x2 : Int32) (σ : Sg) : JS X G 3 300 0 n0 (EM X G n0 4 300 (eS rvI M n)) (fMd_upload x1 x2 σ) (σ, M, n) 0 [(0, .inr (.inl (some (gM G)))), (1, .inl x1), (2, .inl x2)] [] := by
  unfold fMd_upload
  refine s_blk C 0 2 [0, 1, 2] (pc' := 2) (lv' := [(0, .inr (.inl (some (gM G)))), (1, .inl x1), (2, .inl x2)]) (st' := [.inl x1, .inr (.inl (some (gM G)))]) rfl ?_
  refine s_RI (CE_EM _ _ _ _ _ _) (st := [.inr (.inl (some (gM G)))]) (fun o ho => j_callS (As := [.inl x1]) (st := [.inr (.inl (some (gM G)))]) C 2 rfl mf_Md_isRegion ml_X12_225 rfl (by decide) (by decide) (Nat.le_refl _) rfl (cMd_isRegion (CX_tr C) hG σ M n x1 o ho)) (fun v1 => ?_)
  refine s_ine C 3 rfl (fun _ => ?_) (fun _ => ?_)
  · refine s_blk C 4 2 [0, 1, 2] (pc' := 37) (lv' := [(0, .inr (.inl (some (gM G)))), (1, .inl x1), (2, .inl x2)]) (st' := [.inl 1, .inr (.inl (some (gM G)))]) rfl ?_
    exact wMd_upload_j37 hG C htab _ _ _ _
  refine s_blk C 6 1 [0, 1, 2] (pc' := 13) (lv' := [(0, .inr (.inl (some (gM G)))), (1, .inl x1), (2, .inl x2)]) (st' := [.inl x2, .inr (.inl (some (gM G)))]) rfl ?_
  refine s_RI (CE_EM _ _ _ _ _ _) (st := [.inr (.inl (some (gM G)))]) (fun o ho => j_callS (As := [.inl x2]) (st := [.inr (.inl (some (gM G)))]) C 7 rfl mf_Md_isKey ml_X12_228 rfl (by decide) (by decide) (Nat.le_refl _) rfl (cMd_isKey (CX_tr C) hG σ M n x2 o ho)) (fun v2 => ?_)
  refine s_ine C 8 rfl (fun _ => ?_) (fun _ => ?_)
  · refine s_blk C 9 2 [0, 1, 2] (pc' := 37) (lv' := [(0, .inr (.inl (some (gM G)))), (1, .inl x1), (2, .inl x2)]) (st' := [.inl 2, .inr (.inl (some (gM G)))]) rfl ?_
    exact wMd_upload_j37 hG C htab _ _ _ _
  refine s_blk C 11 1 [0, 1, 2] (pc' := 24) (lv' := [(0, .inr (.inl (some (gM G)))), (1, .inl x1), (2, .inl x2)]) (st' := [.inr (.inl (some (gM G))), .inr (.inl (some (gM G)))]) rfl ?_
  refine s_mF hG C 12 rfl fl_X12_283 rfl (fun v3 => ?_)
  refine s_blk C 13 1 [0, 1, 2] (pc' := 29) (lv' := [(0, .inr (.inl (some (gM G)))), (1, .inl x1), (2, .inl x2)]) (st' := [.inl 12, .inl v3, .inr (.inl (some (gM G)))]) rfl ?_
  refine s_icne C 14 rfl (fun _ => ?_) (fun _ => ?_)
  · refine s_blk C 15 2 [0, 1, 2] (pc' := 37) (lv' := [(0, .inr (.inl (some (gM G)))), (1, .inl x1), (2, .inl x2)]) (st' := [.inl 3, .inr (.inl (some (gM G)))]) rfl ?_
    exact wMd_upload_j37 hG C htab _ _ _ _
  refine s_blk C 17 1 [0, 1, 2] (pc' := 37) (lv' := [(0, .inr (.inl (some (gM G)))), (1, .inl x1), (2, .inl x2)]) (st' := [.inl 0, .inr (.inl (some (gM G)))]) rfl ?_
  exact wMd_upload_j37 hG C htab _ _ _ _
theorem cMd_upload {l : Launch} {G : GE} (htr : l.stackTraces = false) (hG : gH G = true) (σ : Sg) (M : Mm) (n : Nat) (x1 : Int32) (x2 : Int32) : ∀ o, fMd_upload x1 x2 σ = some o → MetX l G yX12_upload cX12_upload 3 (some .int) 4 300 [.inr (.inl (some (gM G))), .inl x1, .inl x2] (σ, M, n) ((eS rvI M n) o) :=
  c_ofX (by decide) kMd_upload htr rfl rfl fun X _ _ C htab => wMd_upload hG C htab x1 x2 _
def pMd_version_0 : List BR := [(0, .aload_n 0, 1, 0, 1), (1, .iload_n 1, 1, 0, 2), (2, .invokestatic 225, 3, 0, 5), (5, .ifCond .eq (7), 3, 0, 12), (8, .iload_n 3, 1, 0, 9), (9, .ifCond .ge (7), 3, 0, 16), (12, .iconst 1, 1, 1, 13), (13, .goto (15), 3, 0, 28), (16, .iload_n 2, 1, 0, 17), (17, .invokestatic 228, 3, 0, 20), (20, .ifCond .eq (7), 3, 0, 27), (23, .iconst 0, 1, 0, 24), (24, .goto (4), 3, 0, 28), (27, .iconst 2, 1, 2, 28), (28, .invokevirtual 150, 3, 0, 31), (31, .ifCond .ne (5), 3, 0, 36), (34, .iconst 0, 1, 0, 35), (35, .ireturn, 1, 0, 36), (36, .iconst 0, 1, 0, 37), (37, .istore 4, 2, 0, 39), (39, .bipush 40, 2, 40, 41), (41, .iload_n 1, 1, 0, 42), (42, .imul, 1, 0, 43), (43, .istore 5, 2, 0, 45), (45, .iload 5, 2, 0, 47), (47, .aload_n 0, 1, 0, 48), (48, .iload_n 1, 1, 0, 49), (49, .invokevirtual 219, 3, 0, 52), (52, .if_icmp .ge (37), 3, 0, 89), (55, .aload_n 0, 1, 0, 56), (56, .getfield 74, 3, 0, 59), (59, .iload 5, 2, 0, 61), (61, .iaload, 1, 0, 62), (62, .iload_n 2, 1, 0, 63), (63, .if_icmp .ne (20), 3, 0, 83), (66, .iload 4, 2, 0, 68), (68, .iload_n 3, 1, 0, 69), (69, .if_icmp .ne (11), 3, 0, 80), (72, .aload_n 0, 1, 0, 73), (73, .getfield 71, 3, 0, 76)]
theorem kMd_version_0 : bOK cX12_version 6 pMd_version_0 = true := by decide +kernel
def pMd_version_1 : List BR := [(76, .iload 5, 2, 0, 78), (78, .iaload, 1, 0, 79), (79, .ireturn, 1, 0, 80), (80, .iinc 4 (1), 3, 1, 83), (83, .iinc 5 (1), 3, 1, 86), (86, .goto (-41), 3, 0, 45), (89, .iconst 0, 1, 0, 90), (90, .ireturn, 1, 0, 91)]
theorem kMd_version_1 : bOK cX12_version 6 pMd_version_1 = true := by decide +kernel
def pMd_version : List BR := (pMd_version_0 ++ pMd_version_1)
theorem kMd_version : bOK cX12_version 6 pMd_version = true := (bOK_app kMd_version_0 kMd_version_1)
def fMd_version_j83 (k45 : Int32 → Int32 → Int32 → Int32 → Int32 → Sg → Option (Int32 × Sg)) (x1 : Int32) (x2 : Int32) (x3 : Int32) (x4 : Int32) (x5 : Int32) (σ : Sg) : Option (Int32 × Sg) :=
  k45 x1 x2 x3 x4 (x5 + 1) σ
theorem wMd_version_j83 {X : MC} {G : GE} {n0 : Nat} (hG : gH G = true) (C : CX X G RX12 cX12_version pMd_version 6 (some .int) n0) (htab : ∀ z ∈ X.2.2.2.2.2.2.2.2.exceptionTable.toList, False) {M : Mm} {n : Nat} (k45 : Int32 → Int32 → Int32 → Int32 → Int32 → Sg → Option (Int32 × Sg)) (H45 : ∀ (x1 : Int32) (x2 : Int32) (x3 : Int32) (x4 : Int32) (x5 : Int32) (σ : Sg), JS X G 6 300 0 n0 (EM X G n0 4 300 (eS rvI M n)) (k45 x1 x2 x3 x4 x5 σ) (σ, M, n) 45 [(0, .inr (.inl (some (gM G)))), (1, .inl x1), (2, .inl x2), (3, .inl x3), (4, .inl x4), (5, .inl x5)] []) (x1 : Int32) (x2 : Int32) (x3 : Int32) (x4 : Int32) (x5 : Int32) (σ : Sg) : JS X G 6 300 0 n0 (EM X G n0 4 300 (eS rvI M n)) (fMd_version_j83 k45 x1 x2 x3 x4 x5 σ) (σ, M, n) 83 [(0, .inr (.inl (some (gM G)))), (1, .inl x1), (2, .inl x2), (3, .inl x3), (4, .inl x4), (5, .inl x5)] [] := by
  unfold fMd_version_j83
  refine s_blk C 44 2 [0, 1, 2, 3, 4, 5] (pc' := 45) (lv' := [(0, .inr (.inl (some (gM G)))), (1, .inl x1), (2, .inl x2), (3, .inl x3), (4, .inl x4), (5, .inl (x5 + 1))]) (st' := []) rfl ?_
  exact H45 _ _ _ _ _ _
def fMd_version_b45 (k45 : Int32 → Int32 → Int32 → Int32 → Int32 → Sg → Option (Int32 × Sg)) (x1 : Int32) (x2 : Int32) (x3 : Int32) (x4 : Int32) (x5 : Int32) (σ : Sg) : Option (Int32 × Sg) :=
  bdR (fMd_endOf x1 σ) fun v1 =>
  if v1 ≤ x5 then
    some (0, σ)
  else
    mgA 28 x5 σ fun v2 =>
    if v2 = x2 then
      if x4 = x3 then
        mgA 27 x5 σ fun v3 =>
        some (v3, σ)
      else
        fMd_version_j83 k45 x1 x2 x3 (x4 + 1) x5 σ
    else
      fMd_version_j83 k45 x1 x2 x3 x4 x5 σ
theorem wMd_version_b45 {X : MC} {G : GE} {n0 : Nat} (hG : gH G = true) (C : CX X G RX12 cX12_version pMd_version 6 (some .int) n0) (htab : ∀ z ∈ X.2.2.2.2.2.2.2.2.exceptionTable.toList, False) {M : Mm} {n : Nat} (k45 : Int32 → Int32 → Int32 → Int32 → Int32 → Sg → Option (Int32 × Sg)) (H45 : ∀ (x1 : Int32) (x2 : Int32) (x3 : Int32) (x4 : Int32) (x5 : Int32) (σ : Sg), JS X G 6 300 0 n0 (EM X G n0 4 300 (eS rvI M n)) (k45 x1 x2 x3 x4 x5 σ) (σ, M, n) 45 [(0, .inr (.inl (some (gM G)))), (1, .inl x1), (2, .inl x2), (3, .inl x3), (4, .inl x4), (5, .inl x5)] []) (x1 : Int32) (x2 : Int32) (x3 : Int32) (x4 : Int32) (x5 : Int32) (σ : Sg) : JS X G 6 300 0 n0 (EM X G n0 4 300 (eS rvI M n)) (fMd_version_b45 k45 x1 x2 x3 x4 x5 σ) (σ, M, n) 45 [(0, .inr (.inl (some (gM G)))), (1, .inl x1), (2, .inl x2), (3, .inl x3), (4, .inl x4), (5, .inl x5)] [] := by
  unfold fMd_version_b45
  refine s_blk C 24 3 [0, 1, 2, 3, 4, 5] (pc' := 49) (lv' := [(0, .inr (.inl (some (gM G)))), (1, .inl x1), (2, .inl x2), (3, .inl x3), (4, .inl x4), (5, .inl x5)]) (st' := [.inl x1, .inr (.inl (some (gM G))), .inl x5]) rfl ?_
  refine s_RI (CE_EM _ _ _ _ _ _) (st := [.inl x5]) (fun o ho => j_callV (As := [.inl x1]) (st := [.inl x5]) (b := gM G) C 27 rfl mf_Md_endOf ml_X12_219 rfl (recv_M hG C) (by decide) (by decide) (Nat.le_refl _) rfl (cMd_endOf (CX_tr C) hG σ M n x1 o ho)) (fun v1 => ?_)
  refine s_icge C 28 rfl (fun _ => ?_) (fun _ => ?_)
  · refine s_blk C 46 1 [] (pc' := 90) (lv' := []) (st' := [.inl 0]) rfl ?_
    exact s_iret C 47 rfl rfl
  refine s_blk C 29 1 [0, 1, 2, 3, 4, 5] (pc' := 56) (lv' := [(0, .inr (.inl (some (gM G)))), (1, .inl x1), (2, .inl x2), (3, .inl x3), (4, .inl x4), (5, .inl x5)]) (st' := [.inr (.inl (some (gM G)))]) rfl ?_
  refine s_mR hG C 30 rfl 28 fl_X12_74 rfl ?_
  refine s_blk C 31 1 [0, 1, 2, 3, 4, 5] (pc' := 61) (lv' := [(0, .inr (.inl (some (gM G)))), (1, .inl x1), (2, .inl x2), (3, .inl x3), (4, .inl x4), (5, .inl x5)]) (st' := [.inl x5, .inr (.inl (some (gA G 28)))]) rfl ?_
  refine s_mldI hG C 32 rfl rfl rfl (fun v2 => ?_)
  refine s_blk C 33 1 [0, 1, 2, 3, 4, 5] (pc' := 63) (lv' := [(0, .inr (.inl (some (gM G)))), (1, .inl x1), (2, .inl x2), (3, .inl x3), (4, .inl x4), (5, .inl x5)]) (st' := [.inl x2, .inl v2]) rfl ?_
  refine s_icne C 34 rfl (fun _ => ?_) (fun _ => ?_)
  · refine s_blk C 35 2 [0, 1, 2, 3, 4, 5] (pc' := 69) (lv' := [(0, .inr (.inl (some (gM G)))), (1, .inl x1), (2, .inl x2), (3, .inl x3), (4, .inl x4), (5, .inl x5)]) (st' := [.inl x3, .inl x4]) rfl ?_
    refine s_icne C 37 rfl (fun _ => ?_) (fun _ => ?_)
    · refine s_blk C 38 1 [5] (pc' := 73) (lv' := [(5, .inl x5)]) (st' := [.inr (.inl (some (gM G)))]) rfl ?_
      refine s_mR hG C 39 rfl 27 fl_X12_71 rfl ?_
      refine s_blk C 40 1 [] (pc' := 78) (lv' := []) (st' := [.inl x5, .inr (.inl (some (gA G 27)))]) rfl ?_
      refine s_mldI hG C 41 rfl rfl rfl (fun v3 => ?_)
      exact s_iret C 42 rfl rfl
    refine s_blk C 43 1 [0, 1, 2, 3, 4, 5] (pc' := 83) (lv' := [(0, .inr (.inl (some (gM G)))), (1, .inl x1), (2, .inl x2), (3, .inl x3), (4, .inl (x4 + 1)), (5, .inl x5)]) (st' := []) rfl ?_
    exact wMd_version_j83 hG C htab k45 H45 _ _ _ _ _ _
  exact wMd_version_j83 hG C htab k45 H45 _ _ _ _ _ _
def fMd_version_l45 (fu : Nat) : Int32 → Int32 → Int32 → Int32 → Int32 → Sg → Option (Int32 × Sg) := Nat.rec (fun x1 x2 x3 x4 x5 σ => none) (fun _ k => fMd_version_b45 k) fu
theorem wMd_version_l45 {X : MC} {G : GE} {n0 : Nat} (hG : gH G = true) (C : CX X G RX12 cX12_version pMd_version 6 (some .int) n0) (htab : ∀ z ∈ X.2.2.2.2.2.2.2.2.exceptionTable.toList, False) {M : Mm} {n : Nat} : ∀ (fu : Nat) (x1 : Int32) (x2 : Int32) (x3 : Int32) (x4 : Int32) (x5 : Int32) (σ : Sg), JS X G 6 300 0 n0 (EM X G n0 4 300 (eS rvI M n)) (fMd_version_l45 fu x1 x2 x3 x4 x5 σ) (σ, M, n) 45 [(0, .inr (.inl (some (gM G)))), (1, .inl x1), (2, .inl x2), (3, .inl x3), (4, .inl x4), (5, .inl x5)] [] := by
  intro fu
  induction fu with
  | zero => intro x1 x2 x3 x4 x5 σ; exact s_none
  | succ fu ih => intro x1 x2 x3 x4 x5 σ; exact wMd_version_b45 hG C htab (fMd_version_l45 fu) ih _ _ _ _ _ _
def fMd_version_j28 (x1 : Int32) (x2 : Int32) (x3 : Int32) (s0 : Int32) (σ : Sg) : Option (Int32 × Sg) :=
  bdW (fMd_holds s0 σ) fun v1 σ2 =>
  if v1 = 0 then
    some (0, σ2)
  else
    fMd_version_l45 FU x1 x2 x3 0 (40 * x1) σ2
theorem wMd_version_j28 {X : MC} {G : GE} {n0 : Nat} (hG : gH G = true) (C : CX X G RX12 cX12_version pMd_version 6 (some .int) n0) (htab : ∀ z ∈ X.2.2.2.2.2.2.2.2.exceptionTable.toList, False) {M : Mm} {n : Nat} (x1 : Int32) (x2 : Int32) (x3 : Int32) (s0 : Int32) (σ : Sg) : JS X G 6 300 0 n0 (EM X G n0 4 300 (eS rvI M n)) (fMd_version_j28 x1 x2 x3 s0 σ) (σ, M, n) 28 [(0, .inr (.inl (some (gM G)))), (1, .inl x1), (2, .inl x2), (3, .inl x3)] [.inl s0, .inr (.inl (some (gM G)))] := by
  unfold fMd_version_j28
  refine s_SI (CE_EM _ _ _ _ _ _) (st := []) (fun o ho => j_callV (As := [.inl s0]) (st := []) (b := gM G) C 14 rfl mf_Md_holds ml_X12_150 rfl (recv_M hG C) (by decide) (by decide) (Nat.le_refl _) rfl (cMd_holds (CX_tr C) hG σ M n s0 o ho)) (fun v1 σ2 => ?_)
  refine s_ine C 15 rfl (fun _ => ?_) (fun _ => ?_)
  · refine s_blk C 16 1 [] (pc' := 35) (lv' := []) (st' := [.inl 0]) rfl ?_
    exact s_iret C 17 rfl rfl
  refine s_blk C 18 6 [0, 1, 2, 3, 4, 5] (pc' := 45) (lv' := [(0, .inr (.inl (some (gM G)))), (1, .inl x1), (2, .inl x2), (3, .inl x3), (4, .inl 0), (5, .inl (40 * x1))]) (st' := []) rfl ?_
  exact wMd_version_l45 hG C htab FU _ _ _ _ _ _
def fMd_version_j12 (x1 : Int32) (x2 : Int32) (x3 : Int32) (σ : Sg) : Option (Int32 × Sg) :=
  fMd_version_j28 x1 x2 x3 1 σ
theorem wMd_version_j12 {X : MC} {G : GE} {n0 : Nat} (hG : gH G = true) (C : CX X G RX12 cX12_version pMd_version 6 (some .int) n0) (htab : ∀ z ∈ X.2.2.2.2.2.2.2.2.exceptionTable.toList, False) {M : Mm} {n : Nat} (x1 : Int32) (x2 : Int32) (x3 : Int32) (σ : Sg) : JS X G 6 300 0 n0 (EM X G n0 4 300 (eS rvI M n)) (fMd_version_j12 x1 x2 x3 σ) (σ, M, n) 12 [(0, .inr (.inl (some (gM G)))), (1, .inl x1), (2, .inl x2), (3, .inl x3)] [.inr (.inl (some (gM G)))] := by
  unfold fMd_version_j12
  refine s_blk C 6 2 [0, 1, 2, 3] (pc' := 28) (lv' := [(0, .inr (.inl (some (gM G)))), (1, .inl x1), (2, .inl x2), (3, .inl x3)]) (st' := [.inl 1, .inr (.inl (some (gM G)))]) rfl ?_
  exact wMd_version_j28 hG C htab _ _ _ _ _
def fMd_version (x1 : Int32) (x2 : Int32) (x3 : Int32) (σ : Sg) : Option (Int32 × Sg) :=
  bdR (fMd_isRegion x1) fun v1 =>
  if v1 = 0 then
    fMd_version_j12 x1 x2 x3 σ
  else
    if 0 ≤ x3 then
      bdR (fMd_isKey x2) fun v2 =>
      if v2 = 0 then
        fMd_version_j28 x1 x2 x3 2 σ
      else
        fMd_version_j28 x1 x2 x3 0 σ
    else
      fMd_version_j12 x1 x2 x3 σ
theorem wMd_version {X : MC} {G : GE} {n0 : Nat} (hG : gH G = true) (C : CX X G RX12 cX12_version pMd_version 6 (some .int) n0) (htab : ∀ z ∈ X.2.2.2.2.2.2.2.2.exceptionTable.toList, False) {M : Mm} {n : Nat} (x1 : Int32) (x2 : Int32) (x3 : Int32) (σ : Sg) : JS X G 6 300 0 n0 (EM X G n0 4 300 (eS rvI M n)) (fMd_version x1 x2 x3 σ) (σ, M, n) 0 [(0, .inr (.inl (some (gM G)))), (1, .inl x1), (2, .inl x2), (3, .inl x3)] [] := by
  unfold fMd_version
  refine s_blk C 0 2 [0, 1, 2, 3] (pc' := 2) (lv' := [(0, .inr (.inl (some (gM G)))), (1, .inl x1), (2, .inl x2), (3, .inl x3)]) (st' := [.inl x1, .inr (.inl (some (gM G)))]) rfl ?_
  refine s_RI (CE_EM _ _ _ _ _ _) (st := [.inr (.inl (some (gM G)))]) (fun o ho => j_callS (As := [.inl x1]) (st := [.inr (.inl (some (gM G)))]) C 2 rfl mf_Md_isRegion ml_X12_225 rfl (by decide) (by decide) (Nat.le_refl _) rfl (cMd_isRegion (CX_tr C) hG σ M n x1 o ho)) (fun v1 => ?_)
  refine s_ieq C 3 rfl (fun _ => ?_) (fun _ => ?_)
  · exact wMd_version_j12 hG C htab _ _ _ _
  refine s_blk C 4 1 [0, 1, 2, 3] (pc' := 9) (lv' := [(0, .inr (.inl (some (gM G)))), (1, .inl x1), (2, .inl x2), (3, .inl x3)]) (st' := [.inl x3, .inr (.inl (some (gM G)))]) rfl ?_
  refine s_ige C 5 rfl (fun _ => ?_) (fun _ => ?_)
  · refine s_blk C 8 1 [0, 1, 2, 3] (pc' := 17) (lv' := [(0, .inr (.inl (some (gM G)))), (1, .inl x1), (2, .inl x2), (3, .inl x3)]) (st' := [.inl x2, .inr (.inl (some (gM G)))]) rfl ?_
    refine s_RI (CE_EM _ _ _ _ _ _) (st := [.inr (.inl (some (gM G)))]) (fun o ho => j_callS (As := [.inl x2]) (st := [.inr (.inl (some (gM G)))]) C 9 rfl mf_Md_isKey ml_X12_228 rfl (by decide) (by decide) (Nat.le_refl _) rfl (cMd_isKey (CX_tr C) hG σ M n x2 o ho)) (fun v2 => ?_)
    refine s_ieq C 10 rfl (fun _ => ?_) (fun _ => ?_)
    · refine s_blk C 13 1 [0, 1, 2, 3] (pc' := 28) (lv' := [(0, .inr (.inl (some (gM G)))), (1, .inl x1), (2, .inl x2), (3, .inl x3)]) (st' := [.inl 2, .inr (.inl (some (gM G)))]) rfl ?_
      exact wMd_version_j28 hG C htab _ _ _ _ _
    refine s_blk C 11 2 [0, 1, 2, 3] (pc' := 28) (lv' := [(0, .inr (.inl (some (gM G)))), (1, .inl x1), (2, .inl x2), (3, .inl x3)]) (st' := [.inl 0, .inr (.inl (some (gM G)))]) rfl ?_
    exact wMd_version_j28 hG C htab _ _ _ _ _
  exact wMd_version_j12 hG C htab _ _ _ _
theorem cMd_version {l : Launch} {G : GE} (htr : l.stackTraces = false) (hG : gH G = true) (σ : Sg) (M : Mm) (n : Nat) (x1 : Int32) (x2 : Int32) (x3 : Int32) : ∀ o, fMd_version x1 x2 x3 σ = some o → MetX l G yX12_version cX12_version 6 (some .int) 4 300 [.inr (.inl (some (gM G))), .inl x1, .inl x2, .inl x3] (σ, M, n) ((eS rvI M n) o) :=
  c_ofX (by decide) kMd_version htr rfl rfl fun X _ _ C htab => wMd_version hG C htab x1 x2 x3 _

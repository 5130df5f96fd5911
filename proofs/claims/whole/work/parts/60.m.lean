def pMd_part : List BR := [(0, .aload_n 0, 1, 0, 1), (1, .aload_n 0, 1, 0, 2), (2, .iload_n 1, 1, 0, 3), (3, .iload_n 2, 1, 0, 4), (4, .iload_n 3, 1, 0, 5), (5, .invokevirtual 262, 3, 0, 8), (8, .ifCond .eq (12), 3, 0, 20), (11, .iload 4, 2, 0, 13), (13, .ifCond .lt (7), 3, 0, 20), (16, .iconst 0, 1, 0, 17), (17, .goto (4), 3, 0, 21), (20, .iconst 1, 1, 1, 21), (21, .invokevirtual 150, 3, 0, 24), (24, .ifCond .ne (5), 3, 0, 29), (27, .iconst 0, 1, 0, 28), (28, .ireturn, 1, 0, 29), (29, .aload_n 0, 1, 0, 30), (30, .iload_n 1, 1, 0, 31), (31, .iload_n 2, 1, 0, 32), (32, .iload_n 3, 1, 0, 33), (33, .invokevirtual 231, 3, 0, 36), (36, .istore 5, 2, 0, 38), (38, .iload 4, 2, 0, 40), (40, .aload_n 0, 1, 0, 41), (41, .getfield 89, 3, 0, 44), (44, .iload 5, 2, 0, 46), (46, .iaload, 1, 0, 47), (47, .if_icmp .ge (19), 3, 0, 66), (50, .aload_n 0, 1, 0, 51), (51, .getfield 92, 3, 0, 54), (54, .bipush 20, 2, 20, 56), (56, .iload 5, 2, 0, 58), (58, .imul, 1, 0, 59), (59, .iload 4, 2, 0, 61), (61, .iadd, 1, 0, 62), (62, .iaload, 1, 0, 63), (63, .goto (4), 3, 0, 67), (66, .iconst (-1), 1, -1, 67), (67, .ireturn, 1, 0, 68)]
theorem kMd_part : bOK cX12_part 6 pMd_part = true := by decide +kernel
def fMd_part_j21 (x1 : Int32) (x2 : Int32) (x3 : Int32) (x4 : Int32) (s0 : Int32) (σ : Sg) : Option (Int32 × Sg) :=
  bdW (fMd_holds s0 σ) fun v1 σ2 =>
  if v1 = 0 then
    some (0, σ2)
  else
    bdR (fMd_versionAt x1 x2 x3 σ2) fun v3 =>
    mgA 33 v3 σ2 fun v4 =>
    if v4 ≤ x4 then
      some ((-1), σ2)
    else
      mgA 34 ((20 * v3) + x4) σ2 fun v5 =>
      some (v5, σ2)
theorem wMd_part_j21 {X : MC} {G : GE} {n0 : Nat} (hG : gH G = true) (C : CX X G RX12 cX12_part pMd_part 6 (some .int) n0) (htab : ∀ z ∈ X.2.2.2.2.2.2.2.2.exceptionTable.toList, False) {M : Mm} {n : Nat} (x1 : Int32) (x2 : Int32) (x3 : Int32) (x4 : Int32) (s0 : Int32) (σ : Sg) : JS X G 6 300 0 n0 (EM X G n0 5 300 (eS rvI M n)) (fMd_part_j21 x1 x2 x3 x4 s0 σ) (σ, M, n) 21 [(0, .inr (.inl (some (gM G)))), (1, .inl x1), (2, .inl x2), (3, .inl x3), (4, .inl x4)] [.inl s0, .inr (.inl (some (gM G)))] := by
  unfold fMd_part_j21
  refine s_SI (CE_EM _ _ _ _ _ _) (st := []) (fun o ho => j_callV (As := [.inl s0]) (st := []) (b := gM G) C 12 rfl mf_Md_holds ml_X12_150 rfl (recv_M hG C) (by decide) (by decide) (Nat.le_refl _) rfl (cMd_holds (CX_tr C) hG σ M n s0 o ho)) (fun v1 σ2 => ?_)
  refine s_ine C 13 rfl (fun _ => ?_) (fun _ => ?_)
  · refine s_blk C 14 1 [] (pc' := 28) (lv' := []) (st' := [.inl 0]) rfl ?_
    exact s_iret C 15 rfl rfl
  refine s_blk C 16 4 [0, 4] (pc' := 33) (lv' := [(0, .inr (.inl (some (gM G)))), (4, .inl x4)]) (st' := [.inl x3, .inl x2, .inl x1, .inr (.inl (some (gM G)))]) rfl ?_
  refine s_RI (CE_EM _ _ _ _ _ _) (st := []) (fun o ho => j_callV (As := [.inl x1, .inl x2, .inl x3]) (st := []) (b := gM G) C 20 rfl mf_Md_versionAt ml_X12_231 rfl (recv_M hG C) (by decide) (by decide) (Nat.le_refl _) rfl (cMd_versionAt (CX_tr C) hG σ2 M n x1 x2 x3 o ho)) (fun v3 => ?_)
  refine s_blk C 21 3 [0, 4, 5] (pc' := 41) (lv' := [(0, .inr (.inl (some (gM G)))), (4, .inl x4), (5, .inl v3)]) (st' := [.inr (.inl (some (gM G))), .inl x4]) rfl ?_
  refine s_mR hG C 24 rfl 33 fl_X12_89 rfl ?_
  refine s_blk C 25 1 [0, 4, 5] (pc' := 46) (lv' := [(0, .inr (.inl (some (gM G)))), (4, .inl x4), (5, .inl v3)]) (st' := [.inl v3, .inr (.inl (some (gA G 33))), .inl x4]) rfl ?_
  refine s_mldI hG C 26 rfl rfl rfl (fun v4 => ?_)
  refine s_icge C 27 rfl (fun _ => ?_) (fun _ => ?_)
  · refine s_blk C 37 1 [] (pc' := 67) (lv' := []) (st' := [.inl (-1)]) rfl ?_
    exact s_iret C 38 rfl rfl
  refine s_blk C 28 1 [4, 5] (pc' := 51) (lv' := [(4, .inl x4), (5, .inl v3)]) (st' := [.inr (.inl (some (gM G)))]) rfl ?_
  refine s_mR hG C 29 rfl 34 fl_X12_92 rfl ?_
  refine s_blk C 30 5 [] (pc' := 62) (lv' := []) (st' := [.inl ((20 * v3) + x4), .inr (.inl (some (gA G 34)))]) rfl ?_
  refine s_mldI hG C 35 rfl rfl rfl (fun v5 => ?_)
  refine s_blk C 36 1 [] (pc' := 67) (lv' := []) (st' := [.inl v5]) rfl ?_
  exact s_iret C 38 rfl rfl
def fMd_part_j20 (x1 : Int32) (x2 : Int32) (x3 : Int32) (x4 : Int32) (σ : Sg) : Option (Int32 × Sg) :=
  fMd_part_j21 x1 x2 x3 x4 1 σ
theorem wMd_part_j20 {X : MC} {G : GE} {n0 : Nat} (hG : gH G = true) (C : CX X G RX12 cX12_part pMd_part 6 (some .int) n0) (htab : ∀ z ∈ X.2.2.2.2.2.2.2.2.exceptionTable.toList, False) {M : Mm} {n : Nat} (x1 : Int32) (x2 : Int32) (x3 : Int32) (x4 : Int32) (σ : Sg) : JS X G 6 300 0 n0 (EM X G n0 5 300 (eS rvI M n)) (fMd_part_j20 x1 x2 x3 x4 σ) (σ, M, n) 20 [(0, .inr (.inl (some (gM G)))), (1, .inl x1), (2, .inl x2), (3, .inl x3), (4, .inl x4)] [.inr (.inl (some (gM G)))] := by
  unfold fMd_part_j20
  refine s_blk C 11 1 [0, 1, 2, 3, 4] (pc' := 21) (lv' := [(0, .inr (.inl (some (gM G)))), (1, .inl x1), (2, .inl x2), (3, .inl x3), (4, .inl x4)]) (st' := [.inl 1, .inr (.inl (some (gM G)))]) rfl ?_
  exact wMd_part_j21 hG C htab _ _ _ _ _ _
def fMd_part (x1 : Int32) (x2 : Int32) (x3 : Int32) (x4 : Int32) (σ : Sg) : Option (Int32 × Sg) :=
  bdR (fMd_isVersion x1 x2 x3 σ) fun v1 =>
  if v1 = 0 then
    fMd_part_j20 x1 x2 x3 x4 σ
  else
    if x4 < 0 then
      fMd_part_j20 x1 x2 x3 x4 σ
    else
      fMd_part_j21 x1 x2 x3 x4 0 σ
theorem wMd_part {X : MC} {G : GE} {n0 : Nat} (hG : gH G = true) (C : CX X G RX12 cX12_part pMd_part 6 (some .int) n0) (htab : ∀ z ∈ X.2.2.2.2.2.2.2.2.exceptionTable.toList, False) {M : Mm} {n : Nat} (x1 : Int32) (x2 : Int32) (x3 : Int32) (x4 : Int32) (σ : Sg) : JS X G 6 300 0 n0 (EM X G n0 5 300 (eS rvI M n)) (fMd_part x1 x2 x3 x4 σ) (σ, M, n) 0 [(0, .inr (.inl (some (gM G)))), (1, .inl x1), (2, .inl x2), (3, .inl x3), (4, .inl x4)] [] := by
  unfold fMd_part
  refine s_blk C 0 5 [0, 1, 2, 3, 4] (pc' := 5) (lv' := [(0, .inr (.inl (some (gM G)))), (1, .inl x1), (2, .inl x2), (3, .inl x3), (4, .inl x4)]) (st' := [.inl x3, .inl x2, .inl x1, .inr (.inl (some (gM G))), .inr (.inl (some (gM G)))]) rfl ?_
  refine s_RI (CE_EM _ _ _ _ _ _) (st := [.inr (.inl (some (gM G)))]) (fun o ho => j_callV (As := [.inl x1, .inl x2, .inl x3]) (st := [.inr (.inl (some (gM G)))]) (b := gM G) C 5 rfl mf_Md_isVersion ml_X12_262 rfl (recv_M hG C) (by decide) (by decide) (Nat.le_refl _) rfl (cMd_isVersion (CX_tr C) hG σ M n x1 x2 x3 o ho)) (fun v1 => ?_)
  refine s_ieq C 6 rfl (fun _ => ?_) (fun _ => ?_)
  · exact wMd_part_j20 hG C htab _ _ _ _ _
  refine s_blk C 7 1 [0, 1, 2, 3, 4] (pc' := 13) (lv' := [(0, .inr (.inl (some (gM G)))), (1, .inl x1), (2, .inl x2), (3, .inl x3), (4, .inl x4)]) (st' := [.inl x4, .inr (.inl (some (gM G)))]) rfl ?_
  refine s_ilt C 8 rfl (fun _ => ?_) (fun _ => ?_)
  · exact wMd_part_j20 hG C htab _ _ _ _ _
  refine s_blk C 9 2 [0, 1, 2, 3, 4] (pc' := 21) (lv' := [(0, .inr (.inl (some (gM G)))), (1, .inl x1), (2, .inl x2), (3, .inl x3), (4, .inl x4)]) (st' := [.inl 0, .inr (.inl (some (gM G)))]) rfl ?_
  exact wMd_part_j21 hG C htab _ _ _ _ _ _
theorem cMd_part {l : Launch} {G : GE} (htr : l.stackTraces = false) (hG : gH G = true) (σ : Sg) (M : Mm) (n : Nat) (x1 : Int32) (x2 : Int32) (x3 : Int32) (x4 : Int32) : ∀ o, fMd_part x1 x2 x3 x4 σ = some o → MetX l G yX12_part cX12_part 6 (some .int) 5 300 [.inr (.inl (some (gM G))), .inl x1, .inl x2, .inl x3, .inl x4] (σ, M, n) ((eS rvI M n) o) :=
  c_ofX (by decide) kMd_part htr rfl rfl fun X _ _ C htab => wMd_part hG C htab x1 x2 x3 x4 _
def pMd_partIs_0 : List BR := [(0, .aload_n 0, 1, 0, 1), (1, .aload_n 0, 1, 0, 2), (2, .iload_n 1, 1, 0, 3), (3, .iload_n 2, 1, 0, 4), (4, .invokevirtual 303, 3, 0, 7), (7, .ifCond .ne (7), 3, 0, 14), (10, .iconst 1, 1, 1, 11), (11, .goto (18), 3, 0, 29), (14, .iload_n 3, 1, 0, 15), (15, .iconst 0, 1, 0, 16), (16, .bipush 7, 2, 7, 18), (18, .invokestatic 132, 3, 0, 21), (21, .ifCond .eq (7), 3, 0, 28), (24, .iconst 0, 1, 0, 25), (25, .goto (4), 3, 0, 29), (28, .iconst 2, 1, 2, 29), (29, .invokevirtual 150, 3, 0, 32), (32, .ifCond .ne (5), 3, 0, 37), (35, .iconst 0, 1, 0, 36), (36, .ireturn, 1, 0, 37), (37, .bipush 90, 2, 90, 39), (39, .iload_n 1, 1, 0, 40), (40, .imul, 1, 0, 41), (41, .iload_n 2, 1, 0, 42), (42, .iadd, 1, 0, 43), (43, .istore 4, 2, 0, 45), (45, .iload_n 3, 1, 0, 46), (46, .ifCond .ne (13), 3, 0, 59), (49, .aload_n 0, 1, 0, 50), (50, .getfield 50, 3, 0, 53), (53, .iload 4, 2, 0, 55), (55, .iaload, 1, 0, 56), (56, .goto (45), 3, 0, 101), (59, .iload_n 3, 1, 0, 60), (60, .iconst 1, 1, 1, 61), (61, .if_icmp .ne (13), 3, 0, 74), (64, .aload_n 0, 1, 0, 65), (65, .getfield 53, 3, 0, 68), (68, .iload 4, 2, 0, 70), (70, .iaload, 1, 0, 71)]
theorem kMd_partIs_0 : bOK cX12_partIs 5 pMd_partIs_0 = true := by decide +kernel
def pMd_partIs_1 : List BR := [(71, .goto (30), 3, 0, 101), (74, .iload_n 3, 1, 0, 75), (75, .iconst 2, 1, 2, 76), (76, .if_icmp .ne (12), 3, 0, 88), (79, .aload_n 0, 1, 0, 80), (80, .iload 4, 2, 0, 82), (82, .invokevirtual 213, 3, 0, 85), (85, .goto (16), 3, 0, 101), (88, .aload_n 0, 1, 0, 89), (89, .getfield 59, 3, 0, 92), (92, .iconst 5, 1, 5, 93), (93, .iload 4, 2, 0, 95), (95, .imul, 1, 0, 96), (96, .iload_n 3, 1, 0, 97), (97, .iadd, 1, 0, 98), (98, .iconst 3, 1, 3, 99), (99, .isub, 1, 0, 100), (100, .iaload, 1, 0, 101), (101, .ireturn, 1, 0, 102)]
theorem kMd_partIs_1 : bOK cX12_partIs 5 pMd_partIs_1 = true := by decide +kernel
def pMd_partIs : List BR := (pMd_partIs_0 ++ pMd_partIs_1)
theorem kMd_partIs : bOK cX12_partIs 5 pMd_partIs = true := (bOK_app kMd_partIs_0 kMd_partIs_1)
def fMd_partIs_j29 (x1 : Int32) (x2 : Int32) (x3 : Int32) (s0 : Int32) (σ : Sg) : Option (Int32 × Sg) :=
  bdW (fMd_holds s0 σ) fun v1 σ2 =>
  if v1 = 0 then
    some (0, σ2)
  else
    if x3 = 0 then
      mgA 20 ((90 * x1) + x2) σ2 fun v3 =>
      some (v3, σ2)
    else
      if x3 = 1 then
        mgA 21 ((90 * x1) + x2) σ2 fun v4 =>
        some (v4, σ2)
      else
        if x3 = 2 then
          bdR (fMd_goodMany ((90 * x1) + x2) σ2) fun v5 =>
          some (v5, σ2)
        else
          mgA 23 (((5 * ((90 * x1) + x2)) + x3) - 3) σ2 fun v6 =>
          some (v6, σ2)
theorem wMd_partIs_j29 {X : MC} {G : GE} {n0 : Nat} (hG : gH G = true) (C : CX X G RX12 cX12_partIs pMd_partIs 5 (some .int) n0) (htab : ∀ z ∈ X.2.2.2.2.2.2.2.2.exceptionTable.toList, False) {M : Mm} {n : Nat} (x1 : Int32) (x2 : Int32) (x3 : Int32) (s0 : Int32) (σ : Sg) : JS X G 5 300 0 n0 (EM X G n0 5 300 (eS rvI M n)) (fMd_partIs_j29 x1 x2 x3 s0 σ) (σ, M, n) 29 [(0, .inr (.inl (some (gM G)))), (1, .inl x1), (2, .inl x2), (3, .inl x3)] [.inl s0, .inr (.inl (some (gM G)))] := by
  unfold fMd_partIs_j29
  refine s_SI (CE_EM _ _ _ _ _ _) (st := []) (fun o ho => j_callV (As := [.inl s0]) (st := []) (b := gM G) C 16 rfl mf_Md_holds ml_X12_150 rfl (recv_M hG C) (by decide) (by decide) (Nat.le_refl _) rfl (cMd_holds (CX_tr C) hG σ M n s0 o ho)) (fun v1 σ2 => ?_)
  refine s_ine C 17 rfl (fun _ => ?_) (fun _ => ?_)
  · refine s_blk C 18 1 [] (pc' := 36) (lv' := []) (st' := [.inl 0]) rfl ?_
    exact s_iret C 19 rfl rfl
  refine s_blk C 20 7 [0, 3, 4] (pc' := 46) (lv' := [(0, .inr (.inl (some (gM G)))), (3, .inl x3), (4, .inl ((90 * x1) + x2))]) (st' := [.inl x3]) rfl ?_
  refine s_ine C 27 rfl (fun _ => ?_) (fun _ => ?_)
  · refine s_blk C 28 1 [4] (pc' := 50) (lv' := [(4, .inl ((90 * x1) + x2))]) (st' := [.inr (.inl (some (gM G)))]) rfl ?_
    refine s_mR hG C 29 rfl 20 fl_X12_50 rfl ?_
    refine s_blk C 30 1 [] (pc' := 55) (lv' := []) (st' := [.inl ((90 * x1) + x2), .inr (.inl (some (gA G 20)))]) rfl ?_
    refine s_mldI hG C 31 rfl rfl rfl (fun v3 => ?_)
    refine s_blk C 32 1 [] (pc' := 101) (lv' := []) (st' := [.inl v3]) rfl ?_
    exact s_iret C 58 rfl rfl
  refine s_blk C 33 2 [0, 3, 4] (pc' := 61) (lv' := [(0, .inr (.inl (some (gM G)))), (3, .inl x3), (4, .inl ((90 * x1) + x2))]) (st' := [.inl 1, .inl x3]) rfl ?_
  refine s_icne C 35 rfl (fun _ => ?_) (fun _ => ?_)
  · refine s_blk C 36 1 [4] (pc' := 65) (lv' := [(4, .inl ((90 * x1) + x2))]) (st' := [.inr (.inl (some (gM G)))]) rfl ?_
    refine s_mR hG C 37 rfl 21 fl_X12_53 rfl ?_
    refine s_blk C 38 1 [] (pc' := 70) (lv' := []) (st' := [.inl ((90 * x1) + x2), .inr (.inl (some (gA G 21)))]) rfl ?_
    refine s_mldI hG C 39 rfl rfl rfl (fun v4 => ?_)
    refine s_blk C 40 1 [] (pc' := 101) (lv' := []) (st' := [.inl v4]) rfl ?_
    exact s_iret C 58 rfl rfl
  refine s_blk C 41 2 [0, 3, 4] (pc' := 76) (lv' := [(0, .inr (.inl (some (gM G)))), (3, .inl x3), (4, .inl ((90 * x1) + x2))]) (st' := [.inl 2, .inl x3]) rfl ?_
  refine s_icne C 43 rfl (fun _ => ?_) (fun _ => ?_)
  · refine s_blk C 44 2 [] (pc' := 82) (lv' := []) (st' := [.inl ((90 * x1) + x2), .inr (.inl (some (gM G)))]) rfl ?_
    refine s_RI (CE_EM _ _ _ _ _ _) (st := []) (fun o ho => j_callV (As := [.inl ((90 * x1) + x2)]) (st := []) (b := gM G) C 46 rfl mf_Md_goodMany ml_X12_213 rfl (recv_M hG C) (by decide) (by decide) (Nat.le_refl _) rfl (cMd_goodMany (CX_tr C) hG σ2 M n ((90 * x1) + x2) o ho)) (fun v5 => ?_)
    refine s_blk C 47 1 [] (pc' := 101) (lv' := []) (st' := [.inl v5]) rfl ?_
    exact s_iret C 58 rfl rfl
  refine s_blk C 48 1 [3, 4] (pc' := 89) (lv' := [(3, .inl x3), (4, .inl ((90 * x1) + x2))]) (st' := [.inr (.inl (some (gM G)))]) rfl ?_
  refine s_mR hG C 49 rfl 23 fl_X12_59 rfl ?_
  refine s_blk C 50 7 [] (pc' := 100) (lv' := []) (st' := [.inl (((5 * ((90 * x1) + x2)) + x3) - 3), .inr (.inl (some (gA G 23)))]) rfl ?_
  refine s_mldI hG C 57 rfl rfl rfl (fun v6 => ?_)
  exact s_iret C 58 rfl rfl
def fMd_partIs (x1 : Int32) (x2 : Int32) (x3 : Int32) (σ : Sg) : Option (Int32 × Sg) :=
  bdR (fMd_isPart x1 x2 σ) fun v1 =>
  if v1 = 0 then
    fMd_partIs_j29 x1 x2 x3 1 σ
  else
    bdR (fMd_isIn x3 0 7) fun v2 =>
    if v2 = 0 then
      fMd_partIs_j29 x1 x2 x3 2 σ
    else
      fMd_partIs_j29 x1 x2 x3 0 σ
theorem wMd_partIs {X : MC} {G : GE} {n0 : Nat} (hG : gH G = true) (C : CX X G RX12 cX12_partIs pMd_partIs 5 (some .int) n0) (htab : ∀ z ∈ X.2.2.2.2.2.2.2.2.exceptionTable.toList, False) {M : Mm} {n : Nat} (x1 : Int32) (x2 : Int32) (x3 : Int32) (σ : Sg) : JS X G 5 300 0 n0 (EM X G n0 5 300 (eS rvI M n)) (fMd_partIs x1 x2 x3 σ) (σ, M, n) 0 [(0, .inr (.inl (some (gM G)))), (1, .inl x1), (2, .inl x2), (3, .inl x3)] [] := by
  unfold fMd_partIs
  refine s_blk C 0 4 [0, 1, 2, 3] (pc' := 4) (lv' := [(0, .inr (.inl (some (gM G)))), (1, .inl x1), (2, .inl x2), (3, .inl x3)]) (st' := [.inl x2, .inl x1, .inr (.inl (some (gM G))), .inr (.inl (some (gM G)))]) rfl ?_
  refine s_RI (CE_EM _ _ _ _ _ _) (st := [.inr (.inl (some (gM G)))]) (fun o ho => j_callV (As := [.inl x1, .inl x2]) (st := [.inr (.inl (some (gM G)))]) (b := gM G) C 4 rfl mf_Md_isPart ml_X12_303 rfl (recv_M hG C) (by decide) (by decide) (Nat.le_refl _) rfl (cMd_isPart (CX_tr C) hG σ M n x1 x2 o ho)) (fun v1 => ?_)
  refine s_ine C 5 rfl (fun _ => ?_) (fun _ => ?_)
  · refine s_blk C 6 2 [0, 1, 2, 3] (pc' := 29) (lv' := [(0, .inr (.inl (some (gM G)))), (1, .inl x1), (2, .inl x2), (3, .inl x3)]) (st' := [.inl 1, .inr (.inl (some (gM G)))]) rfl ?_
    exact wMd_partIs_j29 hG C htab _ _ _ _ _
  refine s_blk C 8 3 [0, 1, 2, 3] (pc' := 18) (lv' := [(0, .inr (.inl (some (gM G)))), (1, .inl x1), (2, .inl x2), (3, .inl x3)]) (st' := [.inl 7, .inl 0, .inl x3, .inr (.inl (some (gM G)))]) rfl ?_
  refine s_RI (CE_EM _ _ _ _ _ _) (st := [.inr (.inl (some (gM G)))]) (fun o ho => j_callS (As := [.inl x3, .inl 0, .inl 7]) (st := [.inr (.inl (some (gM G)))]) C 11 rfl mf_Md_isIn ml_X12_132 rfl (by decide) (by decide) (Nat.le_refl _) rfl (cMd_isIn (CX_tr C) hG σ M n x3 0 7 o ho)) (fun v2 => ?_)
  refine s_ieq C 12 rfl (fun _ => ?_) (fun _ => ?_)
  · refine s_blk C 15 1 [0, 1, 2, 3] (pc' := 29) (lv' := [(0, .inr (.inl (some (gM G)))), (1, .inl x1), (2, .inl x2), (3, .inl x3)]) (st' := [.inl 2, .inr (.inl (some (gM G)))]) rfl ?_
    exact wMd_partIs_j29 hG C htab _ _ _ _ _
  refine s_blk C 13 2 [0, 1, 2, 3] (pc' := 29) (lv' := [(0, .inr (.inl (some (gM G)))), (1, .inl x1), (2, .inl x2), (3, .inl x3)]) (st' := [.inl 0, .inr (.inl (some (gM G)))]) rfl ?_
  exact wMd_partIs_j29 hG C htab _ _ _ _ _
theorem cMd_partIs {l : Launch} {G : GE} (htr : l.stackTraces = false) (hG : gH G = true) (σ : Sg) (M : Mm) (n : Nat) (x1 : Int32) (x2 : Int32) (x3 : Int32) : ∀ o, fMd_partIs x1 x2 x3 σ = some o → MetX l G yX12_partIs cX12_partIs 5 (some .int) 5 300 [.inr (.inl (some (gM G))), .inl x1, .inl x2, .inl x3] (σ, M, n) ((eS rvI M n) o) :=
  c_ofX (by decide) kMd_partIs htr rfl rfl fun X _ _ C htab => wMd_partIs hG C htab x1 x2 x3 _
def pMd_pass_0 : List BR := [(0, .aload_n 0, 1, 0, 1), (1, .iload_n 1, 1, 0, 2), (2, .iconst 1, 1, 1, 3), (3, .bipush 30, 2, 30, 5), (5, .invokestatic 132, 3, 0, 8), (8, .ifCond .eq (7), 3, 0, 15), (11, .iconst 0, 1, 0, 12), (12, .goto (4), 3, 0, 16), (15, .iconst 1, 1, 1, 16), (16, .invokevirtual 150, 3, 0, 19), (19, .ifCond .ne (5), 3, 0, 24), (22, .iconst 0, 1, 0, 23), (23, .ireturn, 1, 0, 24), (24, .iconst 0, 1, 0, 25), (25, .istore_n 2, 1, 0, 26), (26, .iload_n 2, 1, 0, 27), (27, .iload_n 1, 1, 0, 28), (28, .if_icmp .ge (140), 3, 0, 168), (31, .iconst 0, 1, 0, 32), (32, .istore_n 3, 1, 0, 33), (33, .iload_n 3, 1, 0, 34), (34, .iconst 2, 1, 2, 35), (35, .if_icmp .ge (89), 3, 0, 124), (38, .bipush 40, 2, 40, 40), (40, .iload_n 3, 1, 0, 41), (41, .imul, 1, 0, 42), (42, .istore 4, 2, 0, 44), (44, .iload 4, 2, 0, 46), (46, .aload_n 0, 1, 0, 47), (47, .iload_n 3, 1, 0, 48), (48, .invokevirtual 219, 3, 0, 51), (51, .if_icmp .ge (67), 3, 0, 118), (54, .aload_n 0, 1, 0, 55), (55, .getfield 28, 3, 0, 58), (58, .aload_n 0, 1, 0, 59), (59, .getfield 80, 3, 0, 62), (62, .iload 4, 2, 0, 64), (64, .iaload, 1, 0, 65), (65, .dup2, 1, 0, 66), (66, .iaload, 1, 0, 67)]
theorem kMd_pass_0 : bOK cX12_pass 5 pMd_pass_0 = true := by decide +kernel
def pMd_pass_1 : List BR := [(67, .aload_n 0, 1, 0, 68), (68, .getfield 22, 3, 0, 71), (71, .aload_n 0, 1, 0, 72), (72, .getfield 71, 3, 0, 75), (75, .iload 4, 2, 0, 77), (77, .iaload, 1, 0, 78), (78, .iaload, 1, 0, 79), (79, .aload_n 0, 1, 0, 80), (80, .getfield 80, 3, 0, 83), (83, .iload 4, 2, 0, 85), (85, .iaload, 1, 0, 86), (86, .ifCond .ne (7), 3, 0, 93), (89, .iconst 4, 1, 4, 90), (90, .goto (19), 3, 0, 109), (93, .aload_n 0, 1, 0, 94), (94, .getfield 80, 3, 0, 97), (97, .iload 4, 2, 0, 99), (99, .iaload, 1, 0, 100), (100, .iconst 1, 1, 1, 101), (101, .if_icmp .ne (7), 3, 0, 108), (104, .iconst 2, 1, 2, 105), (105, .goto (4), 3, 0, 109), (108, .iconst 1, 1, 1, 109), (109, .imul, 1, 0, 110), (110, .iadd, 1, 0, 111), (111, .iastore, 1, 0, 112), (112, .iinc 4 (1), 3, 1, 115), (115, .goto (-71), 3, 0, 44), (118, .iinc 3 (1), 3, 1, 121), (121, .goto (-88), 3, 0, 33), (124, .aload_n 0, 1, 0, 125), (125, .dup, 1, 0, 126), (126, .getfield 222, 3, 0, 129), (129, .iconst 1, 1, 1, 130), (130, .iadd, 1, 0, 131), (131, .putfield 222, 3, 0, 134), (134, .iconst 0, 1, 0, 135), (135, .istore_n 3, 1, 0, 136), (136, .iload_n 3, 1, 0, 137), (137, .aload_n 0, 1, 0, 138)]
theorem kMd_pass_1 : bOK cX12_pass 5 pMd_pass_1 = true := by decide +kernel
def pMd_pass_2 : List BR := [(138, .getfield 315, 3, 0, 141), (141, .if_icmp .ge (21), 3, 0, 162), (144, .aload_n 0, 1, 0, 145), (145, .iconst 0, 1, 0, 146), (146, .iload_n 3, 1, 0, 147), (147, .invokevirtual 318, 3, 0, 150), (150, .aload_n 0, 1, 0, 151), (151, .iconst 1, 1, 1, 152), (152, .iload_n 3, 1, 0, 153), (153, .invokevirtual 318, 3, 0, 156), (156, .iinc 3 (1), 3, 1, 159), (159, .goto (-23), 3, 0, 136), (162, .iinc 2 (1), 3, 1, 165), (165, .goto (-139), 3, 0, 26), (168, .aload_n 0, 1, 0, 169), (169, .getfield 222, 3, 0, 172), (172, .ireturn, 1, 0, 173)]
theorem kMd_pass_2 : bOK cX12_pass 5 pMd_pass_2 = true := by decide +kernel
def pMd_pass : List BR := (pMd_pass_0 ++ (pMd_pass_1 ++ pMd_pass_2))
theorem kMd_pass : bOK cX12_pass 5 pMd_pass = true := (bOK_app kMd_pass_0 (bOK_app kMd_pass_1 kMd_pass_2))
def fMd_pass_b136 (k26 : Int32 → Int32 → Sg → Option (Int32 × Sg)) (k136 : Int32 → Int32 → Int32 → Sg → Option (Int32 × Sg)) (x1 : Int32) (x2 : Int32) (x3 : Int32) (σ : Sg) : Option (Int32 × Sg) :=
  mgF 13 σ fun v1 =>
  if v1 ≤ x3 then
    k26 x1 (x2 + 1) σ
  else
    bdW (fMd_ages 0 x3 σ) fun v2 σ3 =>
    bdW (fMd_ages 1 x3 σ3) fun v4 σ5 =>
    k136 x1 x2 (x3 + 1) σ5
theorem wMd_pass_b136 {X : MC} {G : GE} {n0 : Nat} (hG : gH G = true) (C : CX X G RX12 cX12_pass pMd_pass 5 (some .int) n0) (htab : ∀ z ∈ X.2.2.2.2.2.2.2.2.exceptionTable.toList, False) {M : Mm} {n : Nat} (k26 : Int32 → Int32 → Sg → Option (Int32 × Sg)) (H26 : ∀ (x1 : Int32) (x2 : Int32) (σ : Sg), JS X G 5 300 0 n0 (EM X G n0 6 300 (eS rvI M n)) (k26 x1 x2 σ) (σ, M, n) 26 [(0, .inr (.inl (some (gM G)))), (1, .inl x1), (2, .inl x2)] []) (k136 : Int32 → Int32 → Int32 → Sg → Option (Int32 × Sg)) (H136 : ∀ (x1 : Int32) (x2 : Int32) (x3 : Int32) (σ : Sg), JS X G 5 300 0 n0 (EM X G n0 6 300 (eS rvI M n)) (k136 x1 x2 x3 σ) (σ, M, n) 136 [(0, .inr (.inl (some (gM G)))), (1, .inl x1), (2, .inl x2), (3, .inl x3)] []) (x1 : Int32) (x2 : Int32) (x3 : Int32) (σ : Sg) : JS X G 5 300 0 n0 (EM X G n0 6 300 (eS rvI M n)) (fMd_pass_b136 k26 k136 x1 x2 x3 σ) (σ, M, n) 136 [(0, .inr (.inl (some (gM G)))), (1, .inl x1), (2, .inl x2), (3, .inl x3)] [] := by
  unfold fMd_pass_b136
  refine s_blk C 78 2 [0, 1, 2, 3] (pc' := 138) (lv' := [(0, .inr (.inl (some (gM G)))), (1, .inl x1), (2, .inl x2), (3, .inl x3)]) (st' := [.inr (.inl (some (gM G))), .inl x3]) rfl ?_
  refine s_mF hG C 80 rfl fl_X12_315 rfl (fun v1 => ?_)
  refine s_icge C 81 rfl (fun _ => ?_) (fun _ => ?_)
  · refine s_blk C 92 2 [0, 1, 2] (pc' := 26) (lv' := [(0, .inr (.inl (some (gM G)))), (1, .inl x1), (2, .inl (x2 + 1))]) (st' := []) rfl ?_
    exact H26 _ _ _
  refine s_blk C 82 3 [0, 1, 2, 3] (pc' := 147) (lv' := [(0, .inr (.inl (some (gM G)))), (1, .inl x1), (2, .inl x2), (3, .inl x3)]) (st' := [.inl x3, .inl 0, .inr (.inl (some (gM G)))]) rfl ?_
  refine s_SU (CE_EM _ _ _ _ _ _) (st := []) (fun o ho => j_callV (As := [.inl 0, .inl x3]) (st := []) (b := gM G) C 85 rfl mf_Md_ages ml_X12_318 rfl (recv_M hG C) (by decide) (by decide) (Nat.le_refl _) rfl (cMd_ages (CX_tr C) hG σ M n 0 x3 o ho)) (fun v2 σ3 => ?_)
  refine s_blk C 86 3 [0, 1, 2, 3] (pc' := 153) (lv' := [(0, .inr (.inl (some (gM G)))), (1, .inl x1), (2, .inl x2), (3, .inl x3)]) (st' := [.inl x3, .inl 1, .inr (.inl (some (gM G)))]) rfl ?_
  refine s_SU (CE_EM _ _ _ _ _ _) (st := []) (fun o ho => j_callV (As := [.inl 1, .inl x3]) (st := []) (b := gM G) C 89 rfl mf_Md_ages ml_X12_318 rfl (recv_M hG C) (by decide) (by decide) (Nat.le_refl _) rfl (cMd_ages (CX_tr C) hG σ3 M n 1 x3 o ho)) (fun v4 σ5 => ?_)
  refine s_blk C 90 2 [0, 1, 2, 3] (pc' := 136) (lv' := [(0, .inr (.inl (some (gM G)))), (1, .inl x1), (2, .inl x2), (3, .inl (x3 + 1))]) (st' := []) rfl ?_
  exact H136 _ _ _ _
def fMd_pass_l136 (k26 : Int32 → Int32 → Sg → Option (Int32 × Sg)) (fu : Nat) : Int32 → Int32 → Int32 → Sg → Option (Int32 × Sg) := Nat.rec (fun x1 x2 x3 σ => none) (fun _ k => fMd_pass_b136 k26 k) fu
theorem wMd_pass_l136 {X : MC} {G : GE} {n0 : Nat} (hG : gH G = true) (C : CX X G RX12 cX12_pass pMd_pass 5 (some .int) n0) (htab : ∀ z ∈ X.2.2.2.2.2.2.2.2.exceptionTable.toList, False) {M : Mm} {n : Nat} (k26 : Int32 → Int32 → Sg → Option (Int32 × Sg)) (H26 : ∀ (x1 : Int32) (x2 : Int32) (σ : Sg), JS X G 5 300 0 n0 (EM X G n0 6 300 (eS rvI M n)) (k26 x1 x2 σ) (σ, M, n) 26 [(0, .inr (.inl (some (gM G)))), (1, .inl x1), (2, .inl x2)] []) : ∀ (fu : Nat) (x1 : Int32) (x2 : Int32) (x3 : Int32) (σ : Sg), JS X G 5 300 0 n0 (EM X G n0 6 300 (eS rvI M n)) (fMd_pass_l136 k26 fu x1 x2 x3 σ) (σ, M, n) 136 [(0, .inr (.inl (some (gM G)))), (1, .inl x1), (2, .inl x2), (3, .inl x3)] [] := by
  intro fu
  induction fu with
  | zero => intro x1 x2 x3 σ; exact s_none
  | succ fu ih => intro x1 x2 x3 σ; exact wMd_pass_b136 hG C htab k26 H26 (fMd_pass_l136 k26 fu) ih _ _ _ _
def fMd_pass_j109 (k26 : Int32 → Int32 → Sg → Option (Int32 × Sg)) (k33 : Int32 → Int32 → Int32 → Sg → Option (Int32 × Sg)) (k44 : Int32 → Int32 → Int32 → Int32 → Sg → Option (Int32 × Sg)) (x1 : Int32) (x2 : Int32) (x3 : Int32) (x4 : Int32) (s0 : Int32) (s1 : Int32) (s2 : Int32) (s3 : Int32) (σ : Sg) : Option (Int32 × Sg) :=
  mpA 12 s3 (s2 + (s1 * s0)) σ fun σ1 =>
  k44 x1 x2 x3 (x4 + 1) σ1
theorem wMd_pass_j109 {X : MC} {G : GE} {n0 : Nat} (hG : gH G = true) (C : CX X G RX12 cX12_pass pMd_pass 5 (some .int) n0) (htab : ∀ z ∈ X.2.2.2.2.2.2.2.2.exceptionTable.toList, False) {M : Mm} {n : Nat} (k26 : Int32 → Int32 → Sg → Option (Int32 × Sg)) (H26 : ∀ (x1 : Int32) (x2 : Int32) (σ : Sg), JS X G 5 300 0 n0 (EM X G n0 6 300 (eS rvI M n)) (k26 x1 x2 σ) (σ, M, n) 26 [(0, .inr (.inl (some (gM G)))), (1, .inl x1), (2, .inl x2)] []) (k33 : Int32 → Int32 → Int32 → Sg → Option (Int32 × Sg)) (H33 : ∀ (x1 : Int32) (x2 : Int32) (x3 : Int32) (σ : Sg), JS X G 5 300 0 n0 (EM X G n0 6 300 (eS rvI M n)) (k33 x1 x2 x3 σ) (σ, M, n) 33 [(0, .inr (.inl (some (gM G)))), (1, .inl x1), (2, .inl x2), (3, .inl x3)] []) (k44 : Int32 → Int32 → Int32 → Int32 → Sg → Option (Int32 × Sg)) (H44 : ∀ (x1 : Int32) (x2 : Int32) (x3 : Int32) (x4 : Int32) (σ : Sg), JS X G 5 300 0 n0 (EM X G n0 6 300 (eS rvI M n)) (k44 x1 x2 x3 x4 σ) (σ, M, n) 44 [(0, .inr (.inl (some (gM G)))), (1, .inl x1), (2, .inl x2), (3, .inl x3), (4, .inl x4)] []) (x1 : Int32) (x2 : Int32) (x3 : Int32) (x4 : Int32) (s0 : Int32) (s1 : Int32) (s2 : Int32) (s3 : Int32) (σ : Sg) : JS X G 5 300 0 n0 (EM X G n0 6 300 (eS rvI M n)) (fMd_pass_j109 k26 k33 k44 x1 x2 x3 x4 s0 s1 s2 s3 σ) (σ, M, n) 109 [(0, .inr (.inl (some (gM G)))), (1, .inl x1), (2, .inl x2), (3, .inl x3), (4, .inl x4)] [.inl s0, .inl s1, .inl s2, .inl s3, .inr (.inl (some (gA G 12)))] := by
  unfold fMd_pass_j109
  refine s_blk C 63 2 [0, 1, 2, 3, 4] (pc' := 111) (lv' := [(0, .inr (.inl (some (gM G)))), (1, .inl x1), (2, .inl x2), (3, .inl x3), (4, .inl x4)]) (st' := [.inl (s2 + (s1 * s0)), .inl s3, .inr (.inl (some (gA G 12)))]) rfl ?_
  refine s_mstI hG C 65 rfl rfl rfl (fun σ1 _ => ?_)
  refine s_blk C 66 2 [0, 1, 2, 3, 4] (pc' := 44) (lv' := [(0, .inr (.inl (some (gM G)))), (1, .inl x1), (2, .inl x2), (3, .inl x3), (4, .inl (x4 + 1))]) (st' := []) rfl ?_
  exact H44 _ _ _ _ _
def fMd_pass_b44 (k26 : Int32 → Int32 → Sg → Option (Int32 × Sg)) (k33 : Int32 → Int32 → Int32 → Sg → Option (Int32 × Sg)) (k44 : Int32 → Int32 → Int32 → Int32 → Sg → Option (Int32 × Sg)) (x1 : Int32) (x2 : Int32) (x3 : Int32) (x4 : Int32) (σ : Sg) : Option (Int32 × Sg) :=
  bdR (fMd_endOf x3 σ) fun v1 =>
  if v1 ≤ x4 then
    k33 x1 x2 (x3 + 1) σ
  else
    mgA 30 x4 σ fun v2 =>
    mgA 12 v2 σ fun v3 =>
    mgA 27 x4 σ fun v4 =>
    mgA 9 v4 σ fun v5 =>
    mgA 30 x4 σ fun v6 =>
    if v6 = 0 then
      fMd_pass_j109 k26 k33 k44 x1 x2 x3 x4 4 v5 v3 v2 σ
    else
      mgA 30 x4 σ fun v7 =>
      if v7 = 1 then
        fMd_pass_j109 k26 k33 k44 x1 x2 x3 x4 2 v5 v3 v2 σ
      else
        fMd_pass_j109 k26 k33 k44 x1 x2 x3 x4 1 v5 v3 v2 σ
theorem wMd_pass_b44 {X : MC} {G : GE} {n0 : Nat} (hG : gH G = true) (C : CX X G RX12 cX12_pass pMd_pass 5 (some .int) n0) (htab : ∀ z ∈ X.2.2.2.2.2.2.2.2.exceptionTable.toList, False) {M : Mm} {n : Nat} (k26 : Int32 → Int32 → Sg → Option (Int32 × Sg)) (H26 : ∀ (x1 : Int32) (x2 : Int32) (σ : Sg), JS X G 5 300 0 n0 (EM X G n0 6 300 (eS rvI M n)) (k26 x1 x2 σ) (σ, M, n) 26 [(0, .inr (.inl (some (gM G)))), (1, .inl x1), (2, .inl x2)] []) (k33 : Int32 → Int32 → Int32 → Sg → Option (Int32 × Sg)) (H33 : ∀ (x1 : Int32) (x2 : Int32) (x3 : Int32) (σ : Sg), JS X G 5 300 0 n0 (EM X G n0 6 300 (eS rvI M n)) (k33 x1 x2 x3 σ) (σ, M, n) 33 [(0, .inr (.inl (some (gM G)))), (1, .inl x1), (2, .inl x2), (3, .inl x3)] []) (k44 : Int32 → Int32 → Int32 → Int32 → Sg → Option (Int32 × Sg)) (H44 : ∀ (x1 : Int32) (x2 : Int32) (x3 : Int32) (x4 : Int32) (σ : Sg), JS X G 5 300 0 n0 (EM X G n0 6 300 (eS rvI M n)) (k44 x1 x2 x3 x4 σ) (σ, M, n) 44 [(0, .inr (.inl (some (gM G)))), (1, .inl x1), (2, .inl x2), (3, .inl x3), (4, .inl x4)] []) (x1 : Int32) (x2 : Int32) (x3 : Int32) (x4 : Int32) (σ : Sg) : JS X G 5 300 0 n0 (EM X G n0 6 300 (eS rvI M n)) (fMd_pass_b44 k26 k33 k44 x1 x2 x3 x4 σ) (σ, M, n) 44 [(0, .inr (.inl (some (gM G)))), (1, .inl x1), (2, .inl x2), (3, .inl x3), (4, .inl x4)] [] := by
  unfold fMd_pass_b44
  refine s_blk C 27 3 [0, 1, 2, 3, 4] (pc' := 48) (lv' := [(0, .inr (.inl (some (gM G)))), (1, .inl x1), (2, .inl x2), (3, .inl x3), (4, .inl x4)]) (st' := [.inl x3, .inr (.inl (some (gM G))), .inl x4]) rfl ?_
  refine s_RI (CE_EM _ _ _ _ _ _) (st := [.inl x4]) (fun o ho => j_callV (As := [.inl x3]) (st := [.inl x4]) (b := gM G) C 30 rfl mf_Md_endOf ml_X12_219 rfl (recv_M hG C) (by decide) (by decide) (Nat.le_refl _) rfl (cMd_endOf (CX_tr C) hG σ M n x3 o ho)) (fun v1 => ?_)
  refine s_icge C 31 rfl (fun _ => ?_) (fun _ => ?_)
  · refine s_blk C 68 2 [0, 1, 2, 3] (pc' := 33) (lv' := [(0, .inr (.inl (some (gM G)))), (1, .inl x1), (2, .inl x2), (3, .inl (x3 + 1))]) (st' := []) rfl ?_
    exact H33 _ _ _ _
  refine s_blk C 32 1 [0, 1, 2, 3, 4] (pc' := 55) (lv' := [(0, .inr (.inl (some (gM G)))), (1, .inl x1), (2, .inl x2), (3, .inl x3), (4, .inl x4)]) (st' := [.inr (.inl (some (gM G)))]) rfl ?_
  refine s_mR hG C 33 rfl 12 fl_X12_28 rfl ?_
  refine s_blk C 34 1 [0, 1, 2, 3, 4] (pc' := 59) (lv' := [(0, .inr (.inl (some (gM G)))), (1, .inl x1), (2, .inl x2), (3, .inl x3), (4, .inl x4)]) (st' := [.inr (.inl (some (gM G))), .inr (.inl (some (gA G 12)))]) rfl ?_
  refine s_mR hG C 35 rfl 30 fl_X12_80 rfl ?_
  refine s_blk C 36 1 [0, 1, 2, 3, 4] (pc' := 64) (lv' := [(0, .inr (.inl (some (gM G)))), (1, .inl x1), (2, .inl x2), (3, .inl x3), (4, .inl x4)]) (st' := [.inl x4, .inr (.inl (some (gA G 30))), .inr (.inl (some (gA G 12)))]) rfl ?_
  refine s_mldI hG C 37 rfl rfl rfl (fun v2 => ?_)
  refine s_blk C 38 1 [0, 1, 2, 3, 4] (pc' := 66) (lv' := [(0, .inr (.inl (some (gM G)))), (1, .inl x1), (2, .inl x2), (3, .inl x3), (4, .inl x4)]) (st' := [.inl v2, .inr (.inl (some (gA G 12))), .inl v2, .inr (.inl (some (gA G 12)))]) rfl ?_
  refine s_mldI hG C 39 rfl rfl rfl (fun v3 => ?_)
  refine s_blk C 40 1 [0, 1, 2, 3, 4] (pc' := 68) (lv' := [(0, .inr (.inl (some (gM G)))), (1, .inl x1), (2, .inl x2), (3, .inl x3), (4, .inl x4)]) (st' := [.inr (.inl (some (gM G))), .inl v3, .inl v2, .inr (.inl (some (gA G 12)))]) rfl ?_
  refine s_mR hG C 41 rfl 9 fl_X12_22 rfl ?_
  refine s_blk C 42 1 [0, 1, 2, 3, 4] (pc' := 72) (lv' := [(0, .inr (.inl (some (gM G)))), (1, .inl x1), (2, .inl x2), (3, .inl x3), (4, .inl x4)]) (st' := [.inr (.inl (some (gM G))), .inr (.inl (some (gA G 9))), .inl v3, .inl v2, .inr (.inl (some (gA G 12)))]) rfl ?_
  refine s_mR hG C 43 rfl 27 fl_X12_71 rfl ?_
  refine s_blk C 44 1 [0, 1, 2, 3, 4] (pc' := 77) (lv' := [(0, .inr (.inl (some (gM G)))), (1, .inl x1), (2, .inl x2), (3, .inl x3), (4, .inl x4)]) (st' := [.inl x4, .inr (.inl (some (gA G 27))), .inr (.inl (some (gA G 9))), .inl v3, .inl v2, .inr (.inl (some (gA G 12)))]) rfl ?_
  refine s_mldI hG C 45 rfl rfl rfl (fun v4 => ?_)
  refine s_mldI hG C 46 rfl rfl rfl (fun v5 => ?_)
  refine s_blk C 47 1 [0, 1, 2, 3, 4] (pc' := 80) (lv' := [(0, .inr (.inl (some (gM G)))), (1, .inl x1), (2, .inl x2), (3, .inl x3), (4, .inl x4)]) (st' := [.inr (.inl (some (gM G))), .inl v5, .inl v3, .inl v2, .inr (.inl (some (gA G 12)))]) rfl ?_
  refine s_mR hG C 48 rfl 30 fl_X12_80 rfl ?_
  refine s_blk C 49 1 [0, 1, 2, 3, 4] (pc' := 85) (lv' := [(0, .inr (.inl (some (gM G)))), (1, .inl x1), (2, .inl x2), (3, .inl x3), (4, .inl x4)]) (st' := [.inl x4, .inr (.inl (some (gA G 30))), .inl v5, .inl v3, .inl v2, .inr (.inl (some (gA G 12)))]) rfl ?_
  refine s_mldI hG C 50 rfl rfl rfl (fun v6 => ?_)
  refine s_ine C 51 rfl (fun _ => ?_) (fun _ => ?_)
  · refine s_blk C 52 2 [0, 1, 2, 3, 4] (pc' := 109) (lv' := [(0, .inr (.inl (some (gM G)))), (1, .inl x1), (2, .inl x2), (3, .inl x3), (4, .inl x4)]) (st' := [.inl 4, .inl v5, .inl v3, .inl v2, .inr (.inl (some (gA G 12)))]) rfl ?_
    exact wMd_pass_j109 hG C htab k26 H26 k33 H33 k44 H44 _ _ _ _ _ _ _ _ _
  refine s_blk C 54 1 [0, 1, 2, 3, 4] (pc' := 94) (lv' := [(0, .inr (.inl (some (gM G)))), (1, .inl x1), (2, .inl x2), (3, .inl x3), (4, .inl x4)]) (st' := [.inr (.inl (some (gM G))), .inl v5, .inl v3, .inl v2, .inr (.inl (some (gA G 12)))]) rfl ?_
  refine s_mR hG C 55 rfl 30 fl_X12_80 rfl ?_
  refine s_blk C 56 1 [0, 1, 2, 3, 4] (pc' := 99) (lv' := [(0, .inr (.inl (some (gM G)))), (1, .inl x1), (2, .inl x2), (3, .inl x3), (4, .inl x4)]) (st' := [.inl x4, .inr (.inl (some (gA G 30))), .inl v5, .inl v3, .inl v2, .inr (.inl (some (gA G 12)))]) rfl ?_
  refine s_mldI hG C 57 rfl rfl rfl (fun v7 => ?_)
  refine s_blk C 58 1 [0, 1, 2, 3, 4] (pc' := 101) (lv' := [(0, .inr (.inl (some (gM G)))), (1, .inl x1), (2, .inl x2), (3, .inl x3), (4, .inl x4)]) (st' := [.inl 1, .inl v7, .inl v5, .inl v3, .inl v2, .inr (.inl (some (gA G 12)))]) rfl ?_
  refine s_icne C 59 rfl (fun _ => ?_) (fun _ => ?_)
  · refine s_blk C 60 2 [0, 1, 2, 3, 4] (pc' := 109) (lv' := [(0, .inr (.inl (some (gM G)))), (1, .inl x1), (2, .inl x2), (3, .inl x3), (4, .inl x4)]) (st' := [.inl 2, .inl v5, .inl v3, .inl v2, .inr (.inl (some (gA G 12)))]) rfl ?_
    exact wMd_pass_j109 hG C htab k26 H26 k33 H33 k44 H44 _ _ _ _ _ _ _ _ _
  refine s_blk C 62 1 [0, 1, 2, 3, 4] (pc' := 109) (lv' := [(0, .inr (.inl (some (gM G)))), (1, .inl x1), (2, .inl x2), (3, .inl x3), (4, .inl x4)]) (st' := [.inl 1, .inl v5, .inl v3, .inl v2, .inr (.inl (some (gA G 12)))]) rfl ?_
  exact wMd_pass_j109 hG C htab k26 H26 k33 H33 k44 H44 _ _ _ _ _ _ _ _ _
def fMd_pass_l44 (k26 : Int32 → Int32 → Sg → Option (Int32 × Sg)) (k33 : Int32 → Int32 → Int32 → Sg → Option (Int32 × Sg)) (fu : Nat) : Int32 → Int32 → Int32 → Int32 → Sg → Option (Int32 × Sg) := Nat.rec (fun x1 x2 x3 x4 σ => none) (fun _ k => fMd_pass_b44 k26 k33 k) fu
theorem wMd_pass_l44 {X : MC} {G : GE} {n0 : Nat} (hG : gH G = true) (C : CX X G RX12 cX12_pass pMd_pass 5 (some .int) n0) (htab : ∀ z ∈ X.2.2.2.2.2.2.2.2.exceptionTable.toList, False) {M : Mm} {n : Nat} (k26 : Int32 → Int32 → Sg → Option (Int32 × Sg)) (H26 : ∀ (x1 : Int32) (x2 : Int32) (σ : Sg), JS X G 5 300 0 n0 (EM X G n0 6 300 (eS rvI M n)) (k26 x1 x2 σ) (σ, M, n) 26 [(0, .inr (.inl (some (gM G)))), (1, .inl x1), (2, .inl x2)] []) (k33 : Int32 → Int32 → Int32 → Sg → Option (Int32 × Sg)) (H33 : ∀ (x1 : Int32) (x2 : Int32) (x3 : Int32) (σ : Sg), JS X G 5 300 0 n0 (EM X G n0 6 300 (eS rvI M n)) (k33 x1 x2 x3 σ) (σ, M, n) 33 [(0, .inr (.inl (some (gM G)))), (1, .inl x1), (2, .inl x2), (3, .inl x3)] []) : ∀ (fu : Nat) (x1 : Int32) (x2 : Int32) (x3 : Int32) (x4 : Int32) (σ : Sg), JS X G 5 300 0 n0 (EM X G n0 6 300 (eS rvI M n)) (fMd_pass_l44 k26 k33 fu x1 x2 x3 x4 σ) (σ, M, n) 44 [(0, .inr (.inl (some (gM G)))), (1, .inl x1), (2, .inl x2), (3, .inl x3), (4, .inl x4)] [] := by
  intro fu
  induction fu with
  | zero => intro x1 x2 x3 x4 σ; exact s_none
  | succ fu ih => intro x1 x2 x3 x4 σ; exact wMd_pass_b44 hG C htab k26 H26 k33 H33 (fMd_pass_l44 k26 k33 fu) ih _ _ _ _ _
def fMd_pass_b33 (k26 : Int32 → Int32 → Sg → Option (Int32 × Sg)) (k33 : Int32 → Int32 → Int32 → Sg → Option (Int32 × Sg)) (x1 : Int32) (x2 : Int32) (x3 : Int32) (σ : Sg) : Option (Int32 × Sg) :=
  if 2 ≤ x3 then
    mgF 11 σ fun v1 =>
    mpF 11 (v1 + 1) σ fun σ2 =>
    fMd_pass_l136 k26 FU x1 x2 0 σ2
  else
    fMd_pass_l44 k26 k33 FU x1 x2 x3 (40 * x3) σ
theorem wMd_pass_b33 {X : MC} {G : GE} {n0 : Nat} (hG : gH G = true) (C : CX X G RX12 cX12_pass pMd_pass 5 (some .int) n0) (htab : ∀ z ∈ X.2.2.2.2.2.2.2.2.exceptionTable.toList, False) {M : Mm} {n : Nat} (k26 : Int32 → Int32 → Sg → Option (Int32 × Sg)) (H26 : ∀ (x1 : Int32) (x2 : Int32) (σ : Sg), JS X G 5 300 0 n0 (EM X G n0 6 300 (eS rvI M n)) (k26 x1 x2 σ) (σ, M, n) 26 [(0, .inr (.inl (some (gM G)))), (1, .inl x1), (2, .inl x2)] []) (k33 : Int32 → Int32 → Int32 → Sg → Option (Int32 × Sg)) (H33 : ∀ (x1 : Int32) (x2 : Int32) (x3 : Int32) (σ : Sg), JS X G 5 300 0 n0 (EM X G n0 6 300 (eS rvI M n)) (k33 x1 x2 x3 σ) (σ, M, n) 33 [(0, .inr (.inl (some (gM G)))), (1, .inl x1), (2, .inl x2), (3, .inl x3)] []) (x1 : Int32) (x2 : Int32) (x3 : Int32) (σ : Sg) : JS X G 5 300 0 n0 (EM X G n0 6 300 (eS rvI M n)) (fMd_pass_b33 k26 k33 x1 x2 x3 σ) (σ, M, n) 33 [(0, .inr (.inl (some (gM G)))), (1, .inl x1), (2, .inl x2), (3, .inl x3)] [] := by
  unfold fMd_pass_b33
  refine s_blk C 20 2 [0, 1, 2, 3] (pc' := 35) (lv' := [(0, .inr (.inl (some (gM G)))), (1, .inl x1), (2, .inl x2), (3, .inl x3)]) (st' := [.inl 2, .inl x3]) rfl ?_
  refine s_icge C 22 rfl (fun _ => ?_) (fun _ => ?_)
  · refine s_blk C 70 2 [0, 1, 2] (pc' := 126) (lv' := [(0, .inr (.inl (some (gM G)))), (1, .inl x1), (2, .inl x2)]) (st' := [.inr (.inl (some (gM G))), .inr (.inl (some (gM G)))]) rfl ?_
    refine s_mF hG C 72 rfl fl_X12_222 rfl (fun v1 => ?_)
    refine s_blk C 73 2 [0, 1, 2] (pc' := 131) (lv' := [(0, .inr (.inl (some (gM G)))), (1, .inl x1), (2, .inl x2)]) (st' := [.inl (v1 + 1), .inr (.inl (some (gM G)))]) rfl ?_
    refine s_mpF hG C 75 rfl fl_X12_222 fp_X12_13_11 rfl (fun σ2 _ => ?_)
    refine s_blk C 76 2 [0, 1, 2, 3] (pc' := 136) (lv' := [(0, .inr (.inl (some (gM G)))), (1, .inl x1), (2, .inl x2), (3, .inl 0)]) (st' := []) rfl ?_
    exact wMd_pass_l136 hG C htab k26 H26 FU _ _ _ _
  refine s_blk C 23 4 [0, 1, 2, 3, 4] (pc' := 44) (lv' := [(0, .inr (.inl (some (gM G)))), (1, .inl x1), (2, .inl x2), (3, .inl x3), (4, .inl (40 * x3))]) (st' := []) rfl ?_
  exact wMd_pass_l44 hG C htab k26 H26 k33 H33 FU _ _ _ _ _
def fMd_pass_l33 (k26 : Int32 → Int32 → Sg → Option (Int32 × Sg)) (fu : Nat) : Int32 → Int32 → Int32 → Sg → Option (Int32 × Sg) := Nat.rec (fun x1 x2 x3 σ => none) (fun _ k => fMd_pass_b33 k26 k) fu
theorem wMd_pass_l33 {X : MC} {G : GE} {n0 : Nat} (hG : gH G = true) (C : CX X G RX12 cX12_pass pMd_pass 5 (some .int) n0) (htab : ∀ z ∈ X.2.2.2.2.2.2.2.2.exceptionTable.toList, False) {M : Mm} {n : Nat} (k26 : Int32 → Int32 → Sg → Option (Int32 × Sg)) (H26 : ∀ (x1 : Int32) (x2 : Int32) (σ : Sg), JS X G 5 300 0 n0 (EM X G n0 6 300 (eS rvI M n)) (k26 x1 x2 σ) (σ, M, n) 26 [(0, .inr (.inl (some (gM G)))), (1, .inl x1), (2, .inl x2)] []) : ∀ (fu : Nat) (x1 : Int32) (x2 : Int32) (x3 : Int32) (σ : Sg), JS X G 5 300 0 n0 (EM X G n0 6 300 (eS rvI M n)) (fMd_pass_l33 k26 fu x1 x2 x3 σ) (σ, M, n) 33 [(0, .inr (.inl (some (gM G)))), (1, .inl x1), (2, .inl x2), (3, .inl x3)] [] := by
  intro fu
  induction fu with
  | zero => intro x1 x2 x3 σ; exact s_none
  | succ fu ih => intro x1 x2 x3 σ; exact wMd_pass_b33 hG C htab k26 H26 (fMd_pass_l33 k26 fu) ih _ _ _ _
def fMd_pass_b26 (k26 : Int32 → Int32 → Sg → Option (Int32 × Sg)) (x1 : Int32) (x2 : Int32) (σ : Sg) : Option (Int32 × Sg) :=
  if x1 ≤ x2 then
    mgF 11 σ fun v1 =>
    some (v1, σ)
  else
    fMd_pass_l33 k26 FU x1 x2 0 σ
theorem wMd_pass_b26 {X : MC} {G : GE} {n0 : Nat} (hG : gH G = true) (C : CX X G RX12 cX12_pass pMd_pass 5 (some .int) n0) (htab : ∀ z ∈ X.2.2.2.2.2.2.2.2.exceptionTable.toList, False) {M : Mm} {n : Nat} (k26 : Int32 → Int32 → Sg → Option (Int32 × Sg)) (H26 : ∀ (x1 : Int32) (x2 : Int32) (σ : Sg), JS X G 5 300 0 n0 (EM X G n0 6 300 (eS rvI M n)) (k26 x1 x2 σ) (σ, M, n) 26 [(0, .inr (.inl (some (gM G)))), (1, .inl x1), (2, .inl x2)] []) (x1 : Int32) (x2 : Int32) (σ : Sg) : JS X G 5 300 0 n0 (EM X G n0 6 300 (eS rvI M n)) (fMd_pass_b26 k26 x1 x2 σ) (σ, M, n) 26 [(0, .inr (.inl (some (gM G)))), (1, .inl x1), (2, .inl x2)] [] := by
  unfold fMd_pass_b26
  refine s_blk C 15 2 [0, 1, 2] (pc' := 28) (lv' := [(0, .inr (.inl (some (gM G)))), (1, .inl x1), (2, .inl x2)]) (st' := [.inl x1, .inl x2]) rfl ?_
  refine s_icge C 17 rfl (fun _ => ?_) (fun _ => ?_)
  · refine s_blk C 94 1 [] (pc' := 169) (lv' := []) (st' := [.inr (.inl (some (gM G)))]) rfl ?_
    refine s_mF hG C 95 rfl fl_X12_222 rfl (fun v1 => ?_)
    exact s_iret C 96 rfl rfl
  refine s_blk C 18 2 [0, 1, 2, 3] (pc' := 33) (lv' := [(0, .inr (.inl (some (gM G)))), (1, .inl x1), (2, .inl x2), (3, .inl 0)]) (st' := []) rfl ?_
  exact wMd_pass_l33 hG C htab k26 H26 FU _ _ _ _
def fMd_pass_l26 (fu : Nat) : Int32 → Int32 → Sg → Option (Int32 × Sg) := Nat.rec (fun x1 x2 σ => none) (fun _ k => fMd_pass_b26 k) fu
theorem wMd_pass_l26 {X : MC} {G : GE} {n0 : Nat} (hG : gH G = true) (C : CX X G RX12 cX12_pass pMd_pass 5 (some .int) n0) (htab : ∀ z ∈ X.2.2.2.2.2.2.2.2.exceptionTable.toList, False) {M : Mm} {n : Nat} : ∀ (fu : Nat) (x1 : Int32) (x2 : Int32) (σ : Sg), JS X G 5 300 0 n0 (EM X G n0 6 300 (eS rvI M n)) (fMd_pass_l26 fu x1 x2 σ) (σ, M, n) 26 [(0, .inr (.inl (some (gM G)))), (1, .inl x1), (2, .inl x2)] [] := by
  intro fu
  induction fu with
  | zero => intro x1 x2 σ; exact s_none
  | succ fu ih => intro x1 x2 σ; exact wMd_pass_b26 hG C htab (fMd_pass_l26 fu) ih _ _ _
def fMd_pass_j16 (x1 : Int32) (s0 : Int32) (σ : Sg) : Option (Int32 × Sg) :=
  bdW (fMd_holds s0 σ) fun v1 σ2 =>
  if v1 = 0 then
    some (0, σ2)
  else
    fMd_pass_l26 FU x1 0 σ2
theorem wMd_pass_j16 {X : MC} {G : GE} {n0 : Nat} (hG : gH G = true) (C : CX X G RX12 cX12_pass pMd_pass 5 (some .int) n0) (htab : ∀ z ∈ X.2.2.2.2.2.2.2.2.exceptionTable.toList, False) {M : Mm} {n : Nat} (x1 : Int32) (s0 : Int32) (σ : Sg) : JS X G 5 300 0 n0 (EM X G n0 6 300 (eS rvI M n)) (fMd_pass_j16 x1 s0 σ) (σ, M, n) 16 [(0, .inr (.inl (some (gM G)))), (1, .inl x1)] [.inl s0, .inr (.inl (some (gM G)))] := by
  unfold fMd_pass_j16
  refine s_SI (CE_EM _ _ _ _ _ _) (st := []) (fun o ho => j_callV (As := [.inl s0]) (st := []) (b := gM G) C 9 rfl mf_Md_holds ml_X12_150 rfl (recv_M hG C) (by decide) (by decide) (Nat.le_refl _) rfl (cMd_holds (CX_tr C) hG σ M n s0 o ho)) (fun v1 σ2 => ?_)
  refine s_ine C 10 rfl (fun _ => ?_) (fun _ => ?_)
  · refine s_blk C 11 1 [] (pc' := 23) (lv' := []) (st' := [.inl 0]) rfl ?_
    exact s_iret C 12 rfl rfl
  refine s_blk C 13 2 [0, 1, 2] (pc' := 26) (lv' := [(0, .inr (.inl (some (gM G)))), (1, .inl x1), (2, .inl 0)]) (st' := []) rfl ?_
  exact wMd_pass_l26 hG C htab FU _ _ _
def fMd_pass (x1 : Int32) (σ : Sg) : Option (Int32 × Sg) :=
  bdR (fMd_isIn x1 1 30) fun v1 =>
  if v1 = 0 then
    fMd_pass_j16 x1 1 σ
  else
    fMd_pass_j16 x1 0 σ
theorem wMd_pass {X : MC} {G : GE} {n0 : Nat} (hG : gH G = true) (C : CX X G RX12 cX12_pass pMd_pass 5 (some .int) n0) (htab : ∀ z ∈ X.2.2.2.2.2.2.2.2.exceptionTable.toList, False) {M : Mm} {n : Nat} (x1 : Int32) (σ : Sg) : JS X G 5 300 0 n0 (EM X G n0 6 300 (eS rvI M n)) (fMd_pass x1 σ) (σ, M, n) 0 [(0, .inr (.inl (some (gM G)))), (1, .inl x1)] [] := by
  unfold fMd_pass
  refine s_blk C 0 4 [0, 1] (pc' := 5) (lv' := [(0, .inr (.inl (some (gM G)))), (1, .inl x1)]) (st' := [.inl 30, .inl 1, .inl x1, .inr (.inl (some (gM G)))]) rfl ?_
  refine s_RI (CE_EM _ _ _ _ _ _) (st := [.inr (.inl (some (gM G)))]) (fun o ho => j_callS (As := [.inl x1, .inl 1, .inl 30]) (st := [.inr (.inl (some (gM G)))]) C 4 rfl mf_Md_isIn ml_X12_132 rfl (by decide) (by decide) (Nat.le_refl _) rfl (cMd_isIn (CX_tr C) hG σ M n x1 1 30 o ho)) (fun v1 => ?_)
  refine s_ieq C 5 rfl (fun _ => ?_) (fun _ => ?_)
  · refine s_blk C 8 1 [0, 1] (pc' := 16) (lv' := [(0, .inr (.inl (some (gM G)))), (1, .inl x1)]) (st' := [.inl 1, .inr (.inl (some (gM G)))]) rfl ?_
    exact wMd_pass_j16 hG C htab _ _ _
  refine s_blk C 6 2 [0, 1] (pc' := 16) (lv' := [(0, .inr (.inl (some (gM G)))), (1, .inl x1)]) (st' := [.inl 0, .inr (.inl (some (gM G)))]) rfl ?_
  exact wMd_pass_j16 hG C htab _ _ _
theorem cMd_pass {l : Launch} {G : GE} (htr : l.stackTraces = false) (hG : gH G = true) (σ : Sg) (M : Mm) (n : Nat) (x1 : Int32) : ∀ o, fMd_pass x1 σ = some o → MetX l G yX12_pass cX12_pass 5 (some .int) 6 300 [.inr (.inl (some (gM G))), .inl x1] (σ, M, n) ((eS rvI M n) o) :=
  c_ofX (by decide) kMd_pass htr rfl rfl fun X _ _ C htab => wMd_pass hG C htab x1 _

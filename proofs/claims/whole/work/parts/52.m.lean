def pMd_delete_0 : List BR := [(0, .iload_n 1, 1, 0, 1), (1, .invokestatic 225, 3, 0, 4), (4, .istore_n 3, 1, 0, 5), (5, .iload_n 3, 1, 0, 6), (6, .ifCond .eq (19), 3, 0, 25), (9, .iload_n 2, 1, 0, 10), (10, .invokestatic 228, 3, 0, 13), (13, .ifCond .eq (12), 3, 0, 25), (16, .aload_n 0, 1, 0, 17), (17, .iload_n 1, 1, 0, 18), (18, .iload_n 2, 1, 0, 19), (19, .invokevirtual 247, 3, 0, 22), (22, .goto (4), 3, 0, 26), (25, .iconst (-1), 1, -1, 26), (26, .istore 4, 2, 0, 28), (28, .iload 4, 2, 0, 30), (30, .iconst (-1), 1, -1, 31), (31, .if_icmp .eq (16), 3, 0, 47), (34, .aload_n 0, 1, 0, 35), (35, .iload 4, 2, 0, 37), (37, .invokevirtual 250, 3, 0, 40), (40, .ifCond .ne (7), 3, 0, 47), (43, .iconst 1, 1, 1, 44), (44, .goto (4), 3, 0, 48), (47, .iconst 0, 1, 0, 48), (48, .istore 5, 2, 0, 50), (50, .aload_n 0, 1, 0, 51), (51, .iload_n 3, 1, 0, 52), (52, .ifCond .ne (7), 3, 0, 59), (55, .iconst 1, 1, 1, 56), (56, .goto (45), 3, 0, 101), (59, .iload_n 2, 1, 0, 60), (60, .invokestatic 228, 3, 0, 63), (63, .ifCond .ne (7), 3, 0, 70), (66, .iconst 2, 1, 2, 67), (67, .goto (34), 3, 0, 101), (70, .iload 5, 2, 0, 72), (72, .ifCond .eq (28), 3, 0, 100), (75, .aload_n 0, 1, 0, 76), (76, .getfield 68, 3, 0, 79)]
theorem kMd_delete_0 : bOK cX12_delete 7 pMd_delete_0 = true := by decide +kernel
def pMd_delete_1 : List BR := [(79, .iload_n 1, 1, 0, 80), (80, .iaload, 1, 0, 81), (81, .bipush 40, 2, 40, 83), (83, .if_icmp .eq (13), 3, 0, 96), (86, .aload_n 0, 1, 0, 87), (87, .getfield 234, 3, 0, 90), (90, .sipush 200, 3, 200, 93), (93, .if_icmp .ne (7), 3, 0, 100), (96, .iconst 3, 1, 3, 97), (97, .goto (4), 3, 0, 101), (100, .iconst 0, 1, 0, 101), (101, .invokevirtual 150, 3, 0, 104), (104, .ifCond .ne (5), 3, 0, 109), (107, .iconst 0, 1, 0, 108), (108, .ireturn, 1, 0, 109), (109, .iload 5, 2, 0, 111), (111, .ifCond .ne (5), 3, 0, 116), (114, .iconst 0, 1, 0, 115), (115, .ireturn, 1, 0, 116), (116, .aload_n 0, 1, 0, 117), (117, .iload_n 1, 1, 0, 118), (118, .iload_n 2, 1, 0, 119), (119, .iconst 0, 1, 0, 120), (120, .invokevirtual 237, 3, 0, 123), (123, .istore 6, 2, 0, 125), (125, .aload_n 0, 1, 0, 126), (126, .iload_n 1, 1, 0, 127), (127, .iload 6, 2, 0, 129), (129, .iconst 1, 1, 1, 130), (130, .invokevirtual 240, 3, 0, 133), (133, .iload 6, 2, 0, 135), (135, .ireturn, 1, 0, 136)]
theorem kMd_delete_1 : bOK cX12_delete 7 pMd_delete_1 = true := by decide +kernel
def pMd_delete : List BR := (pMd_delete_0 ++ pMd_delete_1)
theorem kMd_delete : bOK cX12_delete 7 pMd_delete = true := (bOK_app kMd_delete_0 kMd_delete_1)
def fMd_delete_j101 (x1 : Int32) (x2 : Int32) (x5 : Int32) (s0 : Int32) (σ : Sg) : Option (Int32 × Sg) :=
  bdW (fMd_holds s0 σ) fun v1 σ2 =>
  if v1 = 0 then
    some (0, σ2)
  else
    if x5 = 0 then
      some (0, σ2)
    else
      bdW (fMd_numbers x1 x2 0 σ2) fun v3 σ4 =>
      bdW (fMd_enters x1 v3 1 σ4) fun v5 σ6 =>
      some (v3, σ6)
theorem wMd_delete_j101 {X : MC} {G : GE} {n0 : Nat} (hG : gH G = true) (C : CX X G RX12 cX12_delete pMd_delete 7 (some .int) n0) (htab : ∀ z ∈ X.2.2.2.2.2.2.2.2.exceptionTable.toList, False) {M : Mm} {n : Nat} (x1 : Int32) (x2 : Int32) (x5 : Int32) (s0 : Int32) (σ : Sg) : JS X G 7 300 0 n0 (EM X G n0 8 300 (eS rvI M n)) (fMd_delete_j101 x1 x2 x5 s0 σ) (σ, M, n) 101 [(0, .inr (.inl (some (gM G)))), (1, .inl x1), (2, .inl x2), (5, .inl x5)] [.inl s0, .inr (.inl (some (gM G)))] := by
  unfold fMd_delete_j101
  refine s_SI (CE_EM _ _ _ _ _ _) (st := []) (fun o ho => j_callV (As := [.inl s0]) (st := []) (b := gM G) C 51 rfl mf_Md_holds ml_X12_150 rfl (recv_M hG C) (by decide) (by decide) (Nat.le_refl _) rfl (cMd_holds (CX_tr C) hG σ M n s0 o ho)) (fun v1 σ2 => ?_)
  refine s_ine C 52 rfl (fun _ => ?_) (fun _ => ?_)
  · refine s_blk C 53 1 [] (pc' := 108) (lv' := []) (st' := [.inl 0]) rfl ?_
    exact s_iret C 54 rfl rfl
  refine s_blk C 55 1 [0, 1, 2] (pc' := 111) (lv' := [(0, .inr (.inl (some (gM G)))), (1, .inl x1), (2, .inl x2)]) (st' := [.inl x5]) rfl ?_
  refine s_ine C 56 rfl (fun _ => ?_) (fun _ => ?_)
  · refine s_blk C 57 1 [] (pc' := 115) (lv' := []) (st' := [.inl 0]) rfl ?_
    exact s_iret C 58 rfl rfl
  refine s_blk C 59 4 [0, 1] (pc' := 120) (lv' := [(0, .inr (.inl (some (gM G)))), (1, .inl x1)]) (st' := [.inl 0, .inl x2, .inl x1, .inr (.inl (some (gM G)))]) rfl ?_
  refine s_SI (CE_EM _ _ _ _ _ _) (st := []) (fun o ho => j_callV (As := [.inl x1, .inl x2, .inl 0]) (st := []) (b := gM G) C 63 rfl mf_Md_numbers ml_X12_237 rfl (recv_M hG C) (by decide) (by decide) (Nat.le_refl _) rfl (cMd_numbers (CX_tr C) hG σ2 M n x1 x2 0 o ho)) (fun v3 σ4 => ?_)
  refine s_blk C 64 5 [6] (pc' := 130) (lv' := [(6, .inl v3)]) (st' := [.inl 1, .inl v3, .inl x1, .inr (.inl (some (gM G)))]) rfl ?_
  refine s_SU (CE_EM _ _ _ _ _ _) (st := []) (fun o ho => j_callV (As := [.inl x1, .inl v3, .inl 1]) (st := []) (b := gM G) C 69 rfl mf_Md_enters ml_X12_240 rfl (recv_M hG C) (by decide) (by decide) (Nat.le_refl _) rfl (cMd_enters (CX_tr C) hG σ4 M n x1 v3 1 o ho)) (fun v5 σ6 => ?_)
  refine s_blk C 70 1 [] (pc' := 135) (lv' := []) (st' := [.inl v3]) rfl ?_
  exact s_iret C 71 rfl rfl
def fMd_delete_j100 (x1 : Int32) (x2 : Int32) (x5 : Int32) (σ : Sg) : Option (Int32 × Sg) :=
  fMd_delete_j101 x1 x2 x5 0 σ
theorem wMd_delete_j100 {X : MC} {G : GE} {n0 : Nat} (hG : gH G = true) (C : CX X G RX12 cX12_delete pMd_delete 7 (some .int) n0) (htab : ∀ z ∈ X.2.2.2.2.2.2.2.2.exceptionTable.toList, False) {M : Mm} {n : Nat} (x1 : Int32) (x2 : Int32) (x5 : Int32) (σ : Sg) : JS X G 7 300 0 n0 (EM X G n0 8 300 (eS rvI M n)) (fMd_delete_j100 x1 x2 x5 σ) (σ, M, n) 100 [(0, .inr (.inl (some (gM G)))), (1, .inl x1), (2, .inl x2), (5, .inl x5)] [.inr (.inl (some (gM G)))] := by
  unfold fMd_delete_j100
  refine s_blk C 50 1 [0, 1, 2, 5] (pc' := 101) (lv' := [(0, .inr (.inl (some (gM G)))), (1, .inl x1), (2, .inl x2), (5, .inl x5)]) (st' := [.inl 0, .inr (.inl (some (gM G)))]) rfl ?_
  exact wMd_delete_j101 hG C htab _ _ _ _ _
def fMd_delete_j96 (x1 : Int32) (x2 : Int32) (x5 : Int32) (σ : Sg) : Option (Int32 × Sg) :=
  fMd_delete_j101 x1 x2 x5 3 σ
theorem wMd_delete_j96 {X : MC} {G : GE} {n0 : Nat} (hG : gH G = true) (C : CX X G RX12 cX12_delete pMd_delete 7 (some .int) n0) (htab : ∀ z ∈ X.2.2.2.2.2.2.2.2.exceptionTable.toList, False) {M : Mm} {n : Nat} (x1 : Int32) (x2 : Int32) (x5 : Int32) (σ : Sg) : JS X G 7 300 0 n0 (EM X G n0 8 300 (eS rvI M n)) (fMd_delete_j96 x1 x2 x5 σ) (σ, M, n) 96 [(0, .inr (.inl (some (gM G)))), (1, .inl x1), (2, .inl x2), (5, .inl x5)] [.inr (.inl (some (gM G)))] := by
  unfold fMd_delete_j96
  refine s_blk C 48 2 [0, 1, 2, 5] (pc' := 101) (lv' := [(0, .inr (.inl (some (gM G)))), (1, .inl x1), (2, .inl x2), (5, .inl x5)]) (st' := [.inl 3, .inr (.inl (some (gM G)))]) rfl ?_
  exact wMd_delete_j101 hG C htab _ _ _ _ _
def fMd_delete_j48 (x1 : Int32) (x2 : Int32) (x3 : Int32) (s0 : Int32) (σ : Sg) : Option (Int32 × Sg) :=
  if x3 = 0 then
    fMd_delete_j101 x1 x2 s0 1 σ
  else
    bdR (fMd_isKey x2) fun v1 =>
    if v1 = 0 then
      fMd_delete_j101 x1 x2 s0 2 σ
    else
      if s0 = 0 then
        fMd_delete_j100 x1 x2 s0 σ
      else
        mgA 26 x1 σ fun v2 =>
        if v2 = 40 then
          fMd_delete_j96 x1 x2 s0 σ
        else
          mgF 8 σ fun v3 =>
          if v3 = 200 then
            fMd_delete_j96 x1 x2 s0 σ
          else
            fMd_delete_j100 x1 x2 s0 σ
theorem wMd_delete_j48 {X : MC} {G : GE} {n0 : Nat} (hG : gH G = true) (C : CX X G RX12 cX12_delete pMd_delete 7 (some .int) n0) (htab : ∀ z ∈ X.2.2.2.2.2.2.2.2.exceptionTable.toList, False) {M : Mm} {n : Nat} (x1 : Int32) (x2 : Int32) (x3 : Int32) (s0 : Int32) (σ : Sg) : JS X G 7 300 0 n0 (EM X G n0 8 300 (eS rvI M n)) (fMd_delete_j48 x1 x2 x3 s0 σ) (σ, M, n) 48 [(0, .inr (.inl (some (gM G)))), (1, .inl x1), (2, .inl x2), (3, .inl x3)] [.inl s0] := by
  unfold fMd_delete_j48
  refine s_blk C 25 3 [0, 1, 2, 5] (pc' := 52) (lv' := [(0, .inr (.inl (some (gM G)))), (1, .inl x1), (2, .inl x2), (5, .inl s0)]) (st' := [.inl x3, .inr (.inl (some (gM G)))]) rfl ?_
  refine s_ine C 28 rfl (fun _ => ?_) (fun _ => ?_)
  · refine s_blk C 29 2 [0, 1, 2, 5] (pc' := 101) (lv' := [(0, .inr (.inl (some (gM G)))), (1, .inl x1), (2, .inl x2), (5, .inl s0)]) (st' := [.inl 1, .inr (.inl (some (gM G)))]) rfl ?_
    exact wMd_delete_j101 hG C htab _ _ _ _ _
  refine s_blk C 31 1 [0, 1, 2, 5] (pc' := 60) (lv' := [(0, .inr (.inl (some (gM G)))), (1, .inl x1), (2, .inl x2), (5, .inl s0)]) (st' := [.inl x2, .inr (.inl (some (gM G)))]) rfl ?_
  refine s_RI (CE_EM _ _ _ _ _ _) (st := [.inr (.inl (some (gM G)))]) (fun o ho => j_callS (As := [.inl x2]) (st := [.inr (.inl (some (gM G)))]) C 32 rfl mf_Md_isKey ml_X12_228 rfl (by decide) (by decide) (Nat.le_refl _) rfl (cMd_isKey (CX_tr C) hG σ M n x2 o ho)) (fun v1 => ?_)
  refine s_ine C 33 rfl (fun _ => ?_) (fun _ => ?_)
  · refine s_blk C 34 2 [0, 1, 2, 5] (pc' := 101) (lv' := [(0, .inr (.inl (some (gM G)))), (1, .inl x1), (2, .inl x2), (5, .inl s0)]) (st' := [.inl 2, .inr (.inl (some (gM G)))]) rfl ?_
    exact wMd_delete_j101 hG C htab _ _ _ _ _
  refine s_blk C 36 1 [0, 1, 2, 5] (pc' := 72) (lv' := [(0, .inr (.inl (some (gM G)))), (1, .inl x1), (2, .inl x2), (5, .inl s0)]) (st' := [.inl s0, .inr (.inl (some (gM G)))]) rfl ?_
  refine s_ieq C 37 rfl (fun _ => ?_) (fun _ => ?_)
  · exact wMd_delete_j100 hG C htab _ _ _ _
  refine s_blk C 38 1 [0, 1, 2, 5] (pc' := 76) (lv' := [(0, .inr (.inl (some (gM G)))), (1, .inl x1), (2, .inl x2), (5, .inl s0)]) (st' := [.inr (.inl (some (gM G))), .inr (.inl (some (gM G)))]) rfl ?_
  refine s_mR hG C 39 rfl 26 fl_X12_68 rfl ?_
  refine s_blk C 40 1 [0, 1, 2, 5] (pc' := 80) (lv' := [(0, .inr (.inl (some (gM G)))), (1, .inl x1), (2, .inl x2), (5, .inl s0)]) (st' := [.inl x1, .inr (.inl (some (gA G 26))), .inr (.inl (some (gM G)))]) rfl ?_
  refine s_mldI hG C 41 rfl rfl rfl (fun v2 => ?_)
  refine s_blk C 42 1 [0, 1, 2, 5] (pc' := 83) (lv' := [(0, .inr (.inl (some (gM G)))), (1, .inl x1), (2, .inl x2), (5, .inl s0)]) (st' := [.inl 40, .inl v2, .inr (.inl (some (gM G)))]) rfl ?_
  refine s_iceq C 43 rfl (fun _ => ?_) (fun _ => ?_)
  · exact wMd_delete_j96 hG C htab _ _ _ _
  refine s_blk C 44 1 [0, 1, 2, 5] (pc' := 87) (lv' := [(0, .inr (.inl (some (gM G)))), (1, .inl x1), (2, .inl x2), (5, .inl s0)]) (st' := [.inr (.inl (some (gM G))), .inr (.inl (some (gM G)))]) rfl ?_
  refine s_mF hG C 45 rfl fl_X12_234 rfl (fun v3 => ?_)
  refine s_blk C 46 1 [0, 1, 2, 5] (pc' := 93) (lv' := [(0, .inr (.inl (some (gM G)))), (1, .inl x1), (2, .inl x2), (5, .inl s0)]) (st' := [.inl 200, .inl v3, .inr (.inl (some (gM G)))]) rfl ?_
  refine s_icne C 47 rfl (fun _ => ?_) (fun _ => ?_)
  · exact wMd_delete_j96 hG C htab _ _ _ _
  exact wMd_delete_j100 hG C htab _ _ _ _
def fMd_delete_j47 (x1 : Int32) (x2 : Int32) (x3 : Int32) (σ : Sg) : Option (Int32 × Sg) :=
  fMd_delete_j48 x1 x2 x3 0 σ
theorem wMd_delete_j47 {X : MC} {G : GE} {n0 : Nat} (hG : gH G = true) (C : CX X G RX12 cX12_delete pMd_delete 7 (some .int) n0) (htab : ∀ z ∈ X.2.2.2.2.2.2.2.2.exceptionTable.toList, False) {M : Mm} {n : Nat} (x1 : Int32) (x2 : Int32) (x3 : Int32) (σ : Sg) : JS X G 7 300 0 n0 (EM X G n0 8 300 (eS rvI M n)) (fMd_delete_j47 x1 x2 x3 σ) (σ, M, n) 47 [(0, .inr (.inl (some (gM G)))), (1, .inl x1), (2, .inl x2), (3, .inl x3)] [] := by
  unfold fMd_delete_j47
  refine s_blk C 24 1 [0, 1, 2, 3] (pc' := 48) (lv' := [(0, .inr (.inl (some (gM G)))), (1, .inl x1), (2, .inl x2), (3, .inl x3)]) (st' := [.inl 0]) rfl ?_
  exact wMd_delete_j48 hG C htab _ _ _ _ _
def fMd_delete_j26 (x1 : Int32) (x2 : Int32) (x3 : Int32) (s0 : Int32) (σ : Sg) : Option (Int32 × Sg) :=
  if s0 = (-1) then
    fMd_delete_j47 x1 x2 x3 σ
  else
    bdR (fMd_isMark s0 σ) fun v1 =>
    if v1 = 0 then
      fMd_delete_j48 x1 x2 x3 1 σ
    else
      fMd_delete_j47 x1 x2 x3 σ
theorem wMd_delete_j26 {X : MC} {G : GE} {n0 : Nat} (hG : gH G = true) (C : CX X G RX12 cX12_delete pMd_delete 7 (some .int) n0) (htab : ∀ z ∈ X.2.2.2.2.2.2.2.2.exceptionTable.toList, False) {M : Mm} {n : Nat} (x1 : Int32) (x2 : Int32) (x3 : Int32) (s0 : Int32) (σ : Sg) : JS X G 7 300 0 n0 (EM X G n0 8 300 (eS rvI M n)) (fMd_delete_j26 x1 x2 x3 s0 σ) (σ, M, n) 26 [(0, .inr (.inl (some (gM G)))), (1, .inl x1), (2, .inl x2), (3, .inl x3)] [.inl s0] := by
  unfold fMd_delete_j26
  refine s_blk C 14 3 [0, 1, 2, 3, 4] (pc' := 31) (lv' := [(0, .inr (.inl (some (gM G)))), (1, .inl x1), (2, .inl x2), (3, .inl x3), (4, .inl s0)]) (st' := [.inl (-1), .inl s0]) rfl ?_
  refine s_iceq C 17 rfl (fun _ => ?_) (fun _ => ?_)
  · refine s_blk C 0 0 [0, 1, 2, 3] (pc' := 47) (lv' := [(0, .inr (.inl (some (gM G)))), (1, .inl x1), (2, .inl x2), (3, .inl x3)]) (st' := []) rfl ?_
    exact wMd_delete_j47 hG C htab _ _ _ _
  refine s_blk C 18 2 [0, 1, 2, 3] (pc' := 37) (lv' := [(0, .inr (.inl (some (gM G)))), (1, .inl x1), (2, .inl x2), (3, .inl x3)]) (st' := [.inl s0, .inr (.inl (some (gM G)))]) rfl ?_
  refine s_RI (CE_EM _ _ _ _ _ _) (st := []) (fun o ho => j_callV (As := [.inl s0]) (st := []) (b := gM G) C 20 rfl mf_Md_isMark ml_X12_250 rfl (recv_M hG C) (by decide) (by decide) (Nat.le_refl _) rfl (cMd_isMark (CX_tr C) hG σ M n s0 o ho)) (fun v1 => ?_)
  refine s_ine C 21 rfl (fun _ => ?_) (fun _ => ?_)
  · refine s_blk C 22 2 [0, 1, 2, 3] (pc' := 48) (lv' := [(0, .inr (.inl (some (gM G)))), (1, .inl x1), (2, .inl x2), (3, .inl x3)]) (st' := [.inl 1]) rfl ?_
    exact wMd_delete_j48 hG C htab _ _ _ _ _
  exact wMd_delete_j47 hG C htab _ _ _ _
def fMd_delete_j25 (x1 : Int32) (x2 : Int32) (x3 : Int32) (σ : Sg) : Option (Int32 × Sg) :=
  fMd_delete_j26 x1 x2 x3 (-1) σ
theorem wMd_delete_j25 {X : MC} {G : GE} {n0 : Nat} (hG : gH G = true) (C : CX X G RX12 cX12_delete pMd_delete 7 (some .int) n0) (htab : ∀ z ∈ X.2.2.2.2.2.2.2.2.exceptionTable.toList, False) {M : Mm} {n : Nat} (x1 : Int32) (x2 : Int32) (x3 : Int32) (σ : Sg) : JS X G 7 300 0 n0 (EM X G n0 8 300 (eS rvI M n)) (fMd_delete_j25 x1 x2 x3 σ) (σ, M, n) 25 [(0, .inr (.inl (some (gM G)))), (1, .inl x1), (2, .inl x2), (3, .inl x3)] [] := by
  unfold fMd_delete_j25
  refine s_blk C 13 1 [0, 1, 2, 3] (pc' := 26) (lv' := [(0, .inr (.inl (some (gM G)))), (1, .inl x1), (2, .inl x2), (3, .inl x3)]) (st' := [.inl (-1)]) rfl ?_
  exact wMd_delete_j26 hG C htab _ _ _ _ _
def fMd_delete (x1 : Int32) (x2 : Int32) (σ : Sg) : Option (Int32 × Sg) :=
  bdR (fMd_isRegion x1) fun v1 =>
  if v1 = 0 then
    fMd_delete_j25 x1 x2 v1 σ
  else
    bdR (fMd_isKey x2) fun v2 =>
    if v2 = 0 then
      fMd_delete_j25 x1 x2 v1 σ
    else
      bdR (fMd_latest x1 x2 σ) fun v3 =>
      fMd_delete_j26 x1 x2 v1 v3 σ
theorem wMd_delete {X : MC} {G : GE} {n0 : Nat} (hG : gH G = true) (C : CX X G RX12 cX12_delete pMd_delete 7 (some .int) n0) (htab : ∀ z ∈ X.2.2.2.2.2.2.2.2.exceptionTable.toList, False) {M : Mm} {n : Nat} (x1 : Int32) (x2 : Int32) (σ : Sg) : JS X G 7 300 0 n0 (EM X G n0 8 300 (eS rvI M n)) (fMd_delete x1 x2 σ) (σ, M, n) 0 [(0, .inr (.inl (some (gM G)))), (1, .inl x1), (2, .inl x2)] [] := by
  unfold fMd_delete
  refine s_blk C 0 1 [0, 1, 2] (pc' := 1) (lv' := [(0, .inr (.inl (some (gM G)))), (1, .inl x1), (2, .inl x2)]) (st' := [.inl x1]) rfl ?_
  refine s_RI (CE_EM _ _ _ _ _ _) (st := []) (fun o ho => j_callS (As := [.inl x1]) (st := []) C 1 rfl mf_Md_isRegion ml_X12_225 rfl (by decide) (by decide) (Nat.le_refl _) rfl (cMd_isRegion (CX_tr C) hG σ M n x1 o ho)) (fun v1 => ?_)
  refine s_blk C 2 2 [0, 1, 2, 3] (pc' := 6) (lv' := [(0, .inr (.inl (some (gM G)))), (1, .inl x1), (2, .inl x2), (3, .inl v1)]) (st' := [.inl v1]) rfl ?_
  refine s_ieq C 4 rfl (fun _ => ?_) (fun _ => ?_)
  · exact wMd_delete_j25 hG C htab _ _ _ _
  refine s_blk C 5 1 [0, 1, 2, 3] (pc' := 10) (lv' := [(0, .inr (.inl (some (gM G)))), (1, .inl x1), (2, .inl x2), (3, .inl v1)]) (st' := [.inl x2]) rfl ?_
  refine s_RI (CE_EM _ _ _ _ _ _) (st := []) (fun o ho => j_callS (As := [.inl x2]) (st := []) C 6 rfl mf_Md_isKey ml_X12_228 rfl (by decide) (by decide) (Nat.le_refl _) rfl (cMd_isKey (CX_tr C) hG σ M n x2 o ho)) (fun v2 => ?_)
  refine s_ieq C 7 rfl (fun _ => ?_) (fun _ => ?_)
  · exact wMd_delete_j25 hG C htab _ _ _ _
  refine s_blk C 8 3 [0, 1, 2, 3] (pc' := 19) (lv' := [(0, .inr (.inl (some (gM G)))), (1, .inl x1), (2, .inl x2), (3, .inl v1)]) (st' := [.inl x2, .inl x1, .inr (.inl (some (gM G)))]) rfl ?_
  refine s_RI (CE_EM _ _ _ _ _ _) (st := []) (fun o ho => j_callV (As := [.inl x1, .inl x2]) (st := []) (b := gM G) C 11 rfl mf_Md_latest ml_X12_247 rfl (recv_M hG C) (by decide) (by decide) (Nat.le_refl _) rfl (cMd_latest (CX_tr C) hG σ M n x1 x2 o ho)) (fun v3 => ?_)
  refine s_blk C 12 1 [0, 1, 2, 3] (pc' := 26) (lv' := [(0, .inr (.inl (some (gM G)))), (1, .inl x1), (2, .inl x2), (3, .inl v1)]) (st' := [.inl v3]) rfl ?_
  exact wMd_delete_j26 hG C htab _ _ _ _ _
theorem cMd_delete {l : Launch} {G : GE} (htr : l.stackTraces = false) (hG : gH G = true) (σ : Sg) (M : Mm) (n : Nat) (x1 : Int32) (x2 : Int32) : ∀ o, fMd_delete x1 x2 σ = some o → MetX l G yX12_delete cX12_delete 7 (some .int) 8 300 [.inr (.inl (some (gM G))), .inl x1, .inl x2] (σ, M, n) ((eS rvI M n) o) :=
  c_ofX (by decide) kMd_delete htr rfl rfl fun X _ _ C htab => wMd_delete hG C htab x1 x2 _
def pMd_draft_0 : List BR := [(0, .iload_n 1, 1, 0, 1), (1, .iconst 0, 1, 0, 2), (2, .bipush 15, 2, 15, 4), (4, .invokestatic 132, 3, 0, 7), (7, .ifCond .eq (27), 3, 0, 34), (10, .iload_n 2, 1, 0, 11), (11, .iconst 0, 1, 0, 12), (12, .bipush 15, 2, 15, 14), (14, .invokestatic 132, 3, 0, 17), (17, .ifCond .eq (17), 3, 0, 34), (20, .iload_n 3, 1, 0, 21), (21, .iconst 1, 1, 1, 22), (22, .bipush 40, 2, 40, 24), (24, .invokestatic 132, 3, 0, 27), (27, .ifCond .eq (7), 3, 0, 34), (30, .iconst 1, 1, 1, 31), (31, .goto (4), 3, 0, 35), (34, .iconst 0, 1, 0, 35), (35, .istore 4, 2, 0, 37), (37, .aload_n 0, 1, 0, 38), (38, .iload 4, 2, 0, 40), (40, .ifCond .ne (7), 3, 0, 47), (43, .iconst 1, 1, 1, 44), (44, .goto (19), 3, 0, 63), (47, .aload_n 0, 1, 0, 48), (48, .getfield 147, 3, 0, 51), (51, .iload_n 3, 1, 0, 52), (52, .iadd, 1, 0, 53), (53, .bipush 40, 2, 40, 55), (55, .if_icmp .le (7), 3, 0, 62), (58, .iconst 2, 1, 2, 59), (59, .goto (4), 3, 0, 63), (62, .iconst 0, 1, 0, 63), (63, .invokevirtual 150, 3, 0, 66), (66, .ifCond .ne (5), 3, 0, 71), (69, .iconst 0, 1, 0, 70), (70, .ireturn, 1, 0, 71), (71, .iconst 0, 1, 0, 72), (72, .istore 5, 2, 0, 74), (74, .iload 5, 2, 0, 76)]
theorem kMd_draft_0 : bOK cX12_draft 6 pMd_draft_0 = true := by decide +kernel
def pMd_draft_1 : List BR := [(76, .iload_n 3, 1, 0, 77), (77, .if_icmp .ge (37), 3, 0, 114), (80, .aload_n 0, 1, 0, 81), (81, .getfield 7, 3, 0, 84), (84, .aload_n 0, 1, 0, 85), (85, .getfield 147, 3, 0, 88), (88, .iload_n 1, 1, 0, 89), (89, .iload 5, 2, 0, 91), (91, .iload_n 2, 1, 0, 92), (92, .imul, 1, 0, 93), (93, .iadd, 1, 0, 94), (94, .bipush 16, 2, 16, 96), (96, .irem, 1, 0, 97), (97, .iastore, 1, 0, 98), (98, .aload_n 0, 1, 0, 99), (99, .dup, 1, 0, 100), (100, .getfield 147, 3, 0, 103), (103, .iconst 1, 1, 1, 104), (104, .iadd, 1, 0, 105), (105, .putfield 147, 3, 0, 108), (108, .iinc 5 (1), 3, 1, 111), (111, .goto (-37), 3, 0, 74), (114, .aload_n 0, 1, 0, 115), (115, .getfield 147, 3, 0, 118), (118, .ireturn, 1, 0, 119)]
theorem kMd_draft_1 : bOK cX12_draft 6 pMd_draft_1 = true := by decide +kernel
def pMd_draft : List BR := (pMd_draft_0 ++ pMd_draft_1)
theorem kMd_draft : bOK cX12_draft 6 pMd_draft = true := (bOK_app kMd_draft_0 kMd_draft_1)
def fMd_draft_b74 (k74 : Int32 → Int32 → Int32 → Int32 → Sg → Option (Int32 × Sg)) (x1 : Int32) (x2 : Int32) (x3 : Int32) (x5 : Int32) (σ : Sg) : Option (Int32 × Sg) :=
  if x3 ≤ x5 then
    mgF 1 σ fun v1 =>
    some (v1, σ)
  else
    mgF 1 σ fun v2 =>
    mpA 2 v2 ((x1 + (x5 * x2)) - (x1 + (x5 * x2)) / 16 * 16) σ fun σ3 =>
    mgF 1 σ3 fun v4 =>
    mpF 1 (v4 + 1) σ3 fun σ5 =>
    k74 x1 x2 x3 (x5 + 1) σ5
theorem wMd_draft_b74 {X : MC} {G : GE} {n0 : Nat} (hG : gH G = true) (C : CX X G RX12 cX12_draft pMd_draft 6 (some .int) n0) (htab : ∀ z ∈ X.2.2.2.2.2.2.2.2.exceptionTable.toList, False) {M : Mm} {n : Nat} (k74 : Int32 → Int32 → Int32 → Int32 → Sg → Option (Int32 × Sg)) (H74 : ∀ (x1 : Int32) (x2 : Int32) (x3 : Int32) (x5 : Int32) (σ : Sg), JS X G 6 300 0 n0 (EM X G n0 3 300 (eS rvI M n)) (k74 x1 x2 x3 x5 σ) (σ, M, n) 74 [(0, .inr (.inl (some (gM G)))), (1, .inl x1), (2, .inl x2), (3, .inl x3), (5, .inl x5)] []) (x1 : Int32) (x2 : Int32) (x3 : Int32) (x5 : Int32) (σ : Sg) : JS X G 6 300 0 n0 (EM X G n0 3 300 (eS rvI M n)) (fMd_draft_b74 k74 x1 x2 x3 x5 σ) (σ, M, n) 74 [(0, .inr (.inl (some (gM G)))), (1, .inl x1), (2, .inl x2), (3, .inl x3), (5, .inl x5)] [] := by
  unfold fMd_draft_b74
  refine s_blk C 39 2 [0, 1, 2, 3, 5] (pc' := 77) (lv' := [(0, .inr (.inl (some (gM G)))), (1, .inl x1), (2, .inl x2), (3, .inl x3), (5, .inl x5)]) (st' := [.inl x3, .inl x5]) rfl ?_
  refine s_icge C 41 rfl (fun _ => ?_) (fun _ => ?_)
  · refine s_blk C 62 1 [] (pc' := 115) (lv' := []) (st' := [.inr (.inl (some (gM G)))]) rfl ?_
    refine s_mF hG C 63 rfl fl_X12_147 rfl (fun v1 => ?_)
    exact s_iret C 64 rfl rfl
  refine s_blk C 42 1 [0, 1, 2, 3, 5] (pc' := 81) (lv' := [(0, .inr (.inl (some (gM G)))), (1, .inl x1), (2, .inl x2), (3, .inl x3), (5, .inl x5)]) (st' := [.inr (.inl (some (gM G)))]) rfl ?_
  refine s_mR hG C 43 rfl 2 fl_X12_7 rfl ?_
  refine s_blk C 44 1 [0, 1, 2, 3, 5] (pc' := 85) (lv' := [(0, .inr (.inl (some (gM G)))), (1, .inl x1), (2, .inl x2), (3, .inl x3), (5, .inl x5)]) (st' := [.inr (.inl (some (gM G))), .inr (.inl (some (gA G 2)))]) rfl ?_
  refine s_mF hG C 45 rfl fl_X12_147 rfl (fun v2 => ?_)
  refine s_blk C 46 6 [0, 1, 2, 3, 5] (pc' := 96) (lv' := [(0, .inr (.inl (some (gM G)))), (1, .inl x1), (2, .inl x2), (3, .inl x3), (5, .inl x5)]) (st' := [.inl 16, .inl (x1 + (x5 * x2)), .inl v2, .inr (.inl (some (gA G 2)))]) rfl ?_
  refine s_irem C 52 rfl (by decide) ?_
  refine s_mstI hG C 53 rfl rfl rfl (fun σ3 _ => ?_)
  refine s_blk C 54 2 [0, 1, 2, 3, 5] (pc' := 100) (lv' := [(0, .inr (.inl (some (gM G)))), (1, .inl x1), (2, .inl x2), (3, .inl x3), (5, .inl x5)]) (st' := [.inr (.inl (some (gM G))), .inr (.inl (some (gM G)))]) rfl ?_
  refine s_mF hG C 56 rfl fl_X12_147 rfl (fun v4 => ?_)
  refine s_blk C 57 2 [0, 1, 2, 3, 5] (pc' := 105) (lv' := [(0, .inr (.inl (some (gM G)))), (1, .inl x1), (2, .inl x2), (3, .inl x3), (5, .inl x5)]) (st' := [.inl (v4 + 1), .inr (.inl (some (gM G)))]) rfl ?_
  refine s_mpF hG C 59 rfl fl_X12_147 fp_X12_13_1 rfl (fun σ5 _ => ?_)
  refine s_blk C 60 2 [0, 1, 2, 3, 5] (pc' := 74) (lv' := [(0, .inr (.inl (some (gM G)))), (1, .inl x1), (2, .inl x2), (3, .inl x3), (5, .inl (x5 + 1))]) (st' := []) rfl ?_
  exact H74 _ _ _ _ _
def fMd_draft_l74 (fu : Nat) : Int32 → Int32 → Int32 → Int32 → Sg → Option (Int32 × Sg) := Nat.rec (fun x1 x2 x3 x5 σ => none) (fun _ k => fMd_draft_b74 k) fu
theorem wMd_draft_l74 {X : MC} {G : GE} {n0 : Nat} (hG : gH G = true) (C : CX X G RX12 cX12_draft pMd_draft 6 (some .int) n0) (htab : ∀ z ∈ X.2.2.2.2.2.2.2.2.exceptionTable.toList, False) {M : Mm} {n : Nat} : ∀ (fu : Nat) (x1 : Int32) (x2 : Int32) (x3 : Int32) (x5 : Int32) (σ : Sg), JS X G 6 300 0 n0 (EM X G n0 3 300 (eS rvI M n)) (fMd_draft_l74 fu x1 x2 x3 x5 σ) (σ, M, n) 74 [(0, .inr (.inl (some (gM G)))), (1, .inl x1), (2, .inl x2), (3, .inl x3), (5, .inl x5)] [] := by
  intro fu
  induction fu with
  | zero => intro x1 x2 x3 x5 σ; exact s_none
  | succ fu ih => intro x1 x2 x3 x5 σ; exact wMd_draft_b74 hG C htab (fMd_draft_l74 fu) ih _ _ _ _ _
def fMd_draft_j63 (x1 : Int32) (x2 : Int32) (x3 : Int32) (s0 : Int32) (σ : Sg) : Option (Int32 × Sg) :=
  bdW (fMd_holds s0 σ) fun v1 σ2 =>
  if v1 = 0 then
    some (0, σ2)
  else
    fMd_draft_l74 FU x1 x2 x3 0 σ2
theorem wMd_draft_j63 {X : MC} {G : GE} {n0 : Nat} (hG : gH G = true) (C : CX X G RX12 cX12_draft pMd_draft 6 (some .int) n0) (htab : ∀ z ∈ X.2.2.2.2.2.2.2.2.exceptionTable.toList, False) {M : Mm} {n : Nat} (x1 : Int32) (x2 : Int32) (x3 : Int32) (s0 : Int32) (σ : Sg) : JS X G 6 300 0 n0 (EM X G n0 3 300 (eS rvI M n)) (fMd_draft_j63 x1 x2 x3 s0 σ) (σ, M, n) 63 [(0, .inr (.inl (some (gM G)))), (1, .inl x1), (2, .inl x2), (3, .inl x3)] [.inl s0, .inr (.inl (some (gM G)))] := by
  unfold fMd_draft_j63
  refine s_SI (CE_EM _ _ _ _ _ _) (st := []) (fun o ho => j_callV (As := [.inl s0]) (st := []) (b := gM G) C 33 rfl mf_Md_holds ml_X12_150 rfl (recv_M hG C) (by decide) (by decide) (Nat.le_refl _) rfl (cMd_holds (CX_tr C) hG σ M n s0 o ho)) (fun v1 σ2 => ?_)
  refine s_ine C 34 rfl (fun _ => ?_) (fun _ => ?_)
  · refine s_blk C 35 1 [] (pc' := 70) (lv' := []) (st' := [.inl 0]) rfl ?_
    exact s_iret C 36 rfl rfl
  refine s_blk C 37 2 [0, 1, 2, 3, 5] (pc' := 74) (lv' := [(0, .inr (.inl (some (gM G)))), (1, .inl x1), (2, .inl x2), (3, .inl x3), (5, .inl 0)]) (st' := []) rfl ?_
  exact wMd_draft_l74 hG C htab FU _ _ _ _ _
def fMd_draft_j35 (x1 : Int32) (x2 : Int32) (x3 : Int32) (s0 : Int32) (σ : Sg) : Option (Int32 × Sg) :=
  if s0 = 0 then
    fMd_draft_j63 x1 x2 x3 1 σ
  else
    mgF 1 σ fun v1 =>
    if (v1 + x3) ≤ 40 then
      fMd_draft_j63 x1 x2 x3 0 σ
    else
      fMd_draft_j63 x1 x2 x3 2 σ
theorem wMd_draft_j35 {X : MC} {G : GE} {n0 : Nat} (hG : gH G = true) (C : CX X G RX12 cX12_draft pMd_draft 6 (some .int) n0) (htab : ∀ z ∈ X.2.2.2.2.2.2.2.2.exceptionTable.toList, False) {M : Mm} {n : Nat} (x1 : Int32) (x2 : Int32) (x3 : Int32) (s0 : Int32) (σ : Sg) : JS X G 6 300 0 n0 (EM X G n0 3 300 (eS rvI M n)) (fMd_draft_j35 x1 x2 x3 s0 σ) (σ, M, n) 35 [(0, .inr (.inl (some (gM G)))), (1, .inl x1), (2, .inl x2), (3, .inl x3)] [.inl s0] := by
  unfold fMd_draft_j35
  refine s_blk C 18 3 [0, 1, 2, 3] (pc' := 40) (lv' := [(0, .inr (.inl (some (gM G)))), (1, .inl x1), (2, .inl x2), (3, .inl x3)]) (st' := [.inl s0, .inr (.inl (some (gM G)))]) rfl ?_
  refine s_ine C 21 rfl (fun _ => ?_) (fun _ => ?_)
  · refine s_blk C 22 2 [0, 1, 2, 3] (pc' := 63) (lv' := [(0, .inr (.inl (some (gM G)))), (1, .inl x1), (2, .inl x2), (3, .inl x3)]) (st' := [.inl 1, .inr (.inl (some (gM G)))]) rfl ?_
    exact wMd_draft_j63 hG C htab _ _ _ _ _
  refine s_blk C 24 1 [0, 1, 2, 3] (pc' := 48) (lv' := [(0, .inr (.inl (some (gM G)))), (1, .inl x1), (2, .inl x2), (3, .inl x3)]) (st' := [.inr (.inl (some (gM G))), .inr (.inl (some (gM G)))]) rfl ?_
  refine s_mF hG C 25 rfl fl_X12_147 rfl (fun v1 => ?_)
  refine s_blk C 26 3 [0, 1, 2, 3] (pc' := 55) (lv' := [(0, .inr (.inl (some (gM G)))), (1, .inl x1), (2, .inl x2), (3, .inl x3)]) (st' := [.inl 40, .inl (v1 + x3), .inr (.inl (some (gM G)))]) rfl ?_
  refine s_icle C 29 rfl (fun _ => ?_) (fun _ => ?_)
  · refine s_blk C 32 1 [0, 1, 2, 3] (pc' := 63) (lv' := [(0, .inr (.inl (some (gM G)))), (1, .inl x1), (2, .inl x2), (3, .inl x3)]) (st' := [.inl 0, .inr (.inl (some (gM G)))]) rfl ?_
    exact wMd_draft_j63 hG C htab _ _ _ _ _
  refine s_blk C 30 2 [0, 1, 2, 3] (pc' := 63) (lv' := [(0, .inr (.inl (some (gM G)))), (1, .inl x1), (2, .inl x2), (3, .inl x3)]) (st' := [.inl 2, .inr (.inl (some (gM G)))]) rfl ?_
  exact wMd_draft_j63 hG C htab _ _ _ _ _
def fMd_draft_j34 (x1 : Int32) (x2 : Int32) (x3 : Int32) (σ : Sg) : Option (Int32 × Sg) :=
  fMd_draft_j35 x1 x2 x3 0 σ
theorem wMd_draft_j34 {X : MC} {G : GE} {n0 : Nat} (hG : gH G = true) (C : CX X G RX12 cX12_draft pMd_draft 6 (some .int) n0) (htab : ∀ z ∈ X.2.2.2.2.2.2.2.2.exceptionTable.toList, False) {M : Mm} {n : Nat} (x1 : Int32) (x2 : Int32) (x3 : Int32) (σ : Sg) : JS X G 6 300 0 n0 (EM X G n0 3 300 (eS rvI M n)) (fMd_draft_j34 x1 x2 x3 σ) (σ, M, n) 34 [(0, .inr (.inl (some (gM G)))), (1, .inl x1), (2, .inl x2), (3, .inl x3)] [] := by
  unfold fMd_draft_j34
  refine s_blk C 17 1 [0, 1, 2, 3] (pc' := 35) (lv' := [(0, .inr (.inl (some (gM G)))), (1, .inl x1), (2, .inl x2), (3, .inl x3)]) (st' := [.inl 0]) rfl ?_
  exact wMd_draft_j35 hG C htab _ _ _ _ _
def fMd_draft (x1 : Int32) (x2 : Int32) (x3 : Int32) (σ : Sg) : Option (Int32 × Sg) :=
  bdR (fMd_isIn x1 0 15) fun v1 =>
  if v1 = 0 then
    fMd_draft_j34 x1 x2 x3 σ
  else
    bdR (fMd_isIn x2 0 15) fun v2 =>
    if v2 = 0 then
      fMd_draft_j34 x1 x2 x3 σ
    else
      bdR (fMd_isIn x3 1 40) fun v3 =>
      if v3 = 0 then
        fMd_draft_j34 x1 x2 x3 σ
      else
        fMd_draft_j35 x1 x2 x3 1 σ
theorem wMd_draft {X : MC} {G : GE} {n0 : Nat} (hG : gH G = true) (C : CX X G RX12 cX12_draft pMd_draft 6 (some .int) n0) (htab : ∀ z ∈ X.2.2.2.2.2.2.2.2.exceptionTable.toList, False) {M : Mm} {n : Nat} (x1 : Int32) (x2 : Int32) (x3 : Int32) (σ : Sg) : JS X G 6 300 0 n0 (EM X G n0 3 300 (eS rvI M n)) (fMd_draft x1 x2 x3 σ) (σ, M, n) 0 [(0, .inr (.inl (some (gM G)))), (1, .inl x1), (2, .inl x2), (3, .inl x3)] [] := by
  unfold fMd_draft
  refine s_blk C 0 3 [0, 1, 2, 3] (pc' := 4) (lv' := [(0, .inr (.inl (some (gM G)))), (1, .inl x1), (2, .inl x2), (3, .inl x3)]) (st' := [.inl 15, .inl 0, .inl x1]) rfl ?_
  refine s_RI (CE_EM _ _ _ _ _ _) (st := []) (fun o ho => j_callS (As := [.inl x1, .inl 0, .inl 15]) (st := []) C 3 rfl mf_Md_isIn ml_X12_132 rfl (by decide) (by decide) (Nat.le_refl _) rfl (cMd_isIn (CX_tr C) hG σ M n x1 0 15 o ho)) (fun v1 => ?_)
  refine s_ieq C 4 rfl (fun _ => ?_) (fun _ => ?_)
  · exact wMd_draft_j34 hG C htab _ _ _ _
  refine s_blk C 5 3 [0, 1, 2, 3] (pc' := 14) (lv' := [(0, .inr (.inl (some (gM G)))), (1, .inl x1), (2, .inl x2), (3, .inl x3)]) (st' := [.inl 15, .inl 0, .inl x2]) rfl ?_
  refine s_RI (CE_EM _ _ _ _ _ _) (st := []) (fun o ho => j_callS (As := [.inl x2, .inl 0, .inl 15]) (st := []) C 8 rfl mf_Md_isIn ml_X12_132 rfl (by decide) (by decide) (Nat.le_refl _) rfl (cMd_isIn (CX_tr C) hG σ M n x2 0 15 o ho)) (fun v2 => ?_)
  refine s_ieq C 9 rfl (fun _ => ?_) (fun _ => ?_)
  · exact wMd_draft_j34 hG C htab _ _ _ _
  refine s_blk C 10 3 [0, 1, 2, 3] (pc' := 24) (lv' := [(0, .inr (.inl (some (gM G)))), (1, .inl x1), (2, .inl x2), (3, .inl x3)]) (st' := [.inl 40, .inl 1, .inl x3]) rfl ?_
  refine s_RI (CE_EM _ _ _ _ _ _) (st := []) (fun o ho => j_callS (As := [.inl x3, .inl 1, .inl 40]) (st := []) C 13 rfl mf_Md_isIn ml_X12_132 rfl (by decide) (by decide) (Nat.le_refl _) rfl (cMd_isIn (CX_tr C) hG σ M n x3 1 40 o ho)) (fun v3 => ?_)
  refine s_ieq C 14 rfl (fun _ => ?_) (fun _ => ?_)
  · exact wMd_draft_j34 hG C htab _ _ _ _
  refine s_blk C 15 2 [0, 1, 2, 3] (pc' := 35) (lv' := [(0, .inr (.inl (some (gM G)))), (1, .inl x1), (2, .inl x2), (3, .inl x3)]) (st' := [.inl 1]) rfl ?_
  exact wMd_draft_j35 hG C htab _ _ _ _ _
theorem cMd_draft {l : Launch} {G : GE} (htr : l.stackTraces = false) (hG : gH G = true) (σ : Sg) (M : Mm) (n : Nat) (x1 : Int32) (x2 : Int32) (x3 : Int32) : ∀ o, fMd_draft x1 x2 x3 σ = some o → MetX l G yX12_draft cX12_draft 6 (some .int) 3 300 [.inr (.inl (some (gM G))), .inl x1, .inl x2, .inl x3] (σ, M, n) ((eS rvI M n) o) :=
  c_ofX (by decide) kMd_draft htr rfl rfl fun X _ _ C htab => wMd_draft hG C htab x1 x2 x3 _
def pMd_manyOf : List BR := [(0, .iconst 0, 1, 0, 1), (1, .istore_n 3, 1, 0, 2), (2, .bipush 40, 2, 40, 4), (4, .iload_n 1, 1, 0, 5), (5, .imul, 1, 0, 6), (6, .istore 4, 2, 0, 8), (8, .iload 4, 2, 0, 10), (10, .aload_n 0, 1, 0, 11), (11, .iload_n 1, 1, 0, 12), (12, .invokevirtual 219, 3, 0, 15), (15, .if_icmp .ge (28), 3, 0, 43), (18, .iload_n 3, 1, 0, 19), (19, .aload_n 0, 1, 0, 20), (20, .getfield 74, 3, 0, 23), (23, .iload 4, 2, 0, 25), (25, .iaload, 1, 0, 26), (26, .iload_n 2, 1, 0, 27), (27, .if_icmp .ne (7), 3, 0, 34), (30, .iconst 1, 1, 1, 31), (31, .goto (4), 3, 0, 35), (34, .iconst 0, 1, 0, 35), (35, .iadd, 1, 0, 36), (36, .istore_n 3, 1, 0, 37), (37, .iinc 4 (1), 3, 1, 40), (40, .goto (-32), 3, 0, 8), (43, .iload_n 3, 1, 0, 44), (44, .ireturn, 1, 0, 45)]
theorem kMd_manyOf : bOK cX12_manyOf 5 pMd_manyOf = true := by decide +kernel
def fMd_manyOf_j35 (k8 : Int32 → Int32 → Int32 → Int32 → Sg → Option (Int32)) (x1 : Int32) (x2 : Int32) (x4 : Int32) (s0 : Int32) (s1 : Int32) (σ : Sg) : Option (Int32) :=
  k8 x1 x2 (s1 + s0) (x4 + 1) σ
theorem wMd_manyOf_j35 {X : MC} {G : GE} {n0 : Nat} (hG : gH G = true) (C : CX X G RX12 cX12_manyOf pMd_manyOf 5 (some .int) n0) (htab : ∀ z ∈ X.2.2.2.2.2.2.2.2.exceptionTable.toList, False) {σ : Sg} {M : Mm} {n : Nat} (k8 : Int32 → Int32 → Int32 → Int32 → Sg → Option (Int32)) (H8 : ∀ (x1 : Int32) (x2 : Int32) (x3 : Int32) (x4 : Int32), JS X G 5 300 0 n0 (EM X G n0 3 300 (eR rvI σ M n)) (k8 x1 x2 x3 x4 σ) (σ, M, n) 8 [(0, .inr (.inl (some (gM G)))), (1, .inl x1), (2, .inl x2), (3, .inl x3), (4, .inl x4)] []) (x1 : Int32) (x2 : Int32) (x4 : Int32) (s0 : Int32) (s1 : Int32) : JS X G 5 300 0 n0 (EM X G n0 3 300 (eR rvI σ M n)) (fMd_manyOf_j35 k8 x1 x2 x4 s0 s1 σ) (σ, M, n) 35 [(0, .inr (.inl (some (gM G)))), (1, .inl x1), (2, .inl x2), (4, .inl x4)] [.inl s0, .inl s1] := by
  unfold fMd_manyOf_j35
  refine s_blk C 21 4 [0, 1, 2, 3, 4] (pc' := 8) (lv' := [(0, .inr (.inl (some (gM G)))), (1, .inl x1), (2, .inl x2), (3, .inl (s1 + s0)), (4, .inl (x4 + 1))]) (st' := []) rfl ?_
  exact H8 _ _ _ _
def fMd_manyOf_b8 (k8 : Int32 → Int32 → Int32 → Int32 → Sg → Option (Int32)) (x1 : Int32) (x2 : Int32) (x3 : Int32) (x4 : Int32) (σ : Sg) : Option (Int32) :=
  bdR (fMd_endOf x1 σ) fun v1 =>
  if v1 ≤ x4 then
    some x3
  else
    mgA 28 x4 σ fun v2 =>
    if v2 = x2 then
      fMd_manyOf_j35 k8 x1 x2 x4 1 x3 σ
    else
      fMd_manyOf_j35 k8 x1 x2 x4 0 x3 σ
theorem wMd_manyOf_b8 {X : MC} {G : GE} {n0 : Nat} (hG : gH G = true) (C : CX X G RX12 cX12_manyOf pMd_manyOf 5 (some .int) n0) (htab : ∀ z ∈ X.2.2.2.2.2.2.2.2.exceptionTable.toList, False) {σ : Sg} {M : Mm} {n : Nat} (k8 : Int32 → Int32 → Int32 → Int32 → Sg → Option (Int32)) (H8 : ∀ (x1 : Int32) (x2 : Int32) (x3 : Int32) (x4 : Int32), JS X G 5 300 0 n0 (EM X G n0 3 300 (eR rvI σ M n)) (k8 x1 x2 x3 x4 σ) (σ, M, n) 8 [(0, .inr (.inl (some (gM G)))), (1, .inl x1), (2, .inl x2), (3, .inl x3), (4, .inl x4)] []) (x1 : Int32) (x2 : Int32) (x3 : Int32) (x4 : Int32) : JS X G 5 300 0 n0 (EM X G n0 3 300 (eR rvI σ M n)) (fMd_manyOf_b8 k8 x1 x2 x3 x4 σ) (σ, M, n) 8 [(0, .inr (.inl (some (gM G)))), (1, .inl x1), (2, .inl x2), (3, .inl x3), (4, .inl x4)] [] := by
  unfold fMd_manyOf_b8
  refine s_blk C 6 3 [0, 1, 2, 3, 4] (pc' := 12) (lv' := [(0, .inr (.inl (some (gM G)))), (1, .inl x1), (2, .inl x2), (3, .inl x3), (4, .inl x4)]) (st' := [.inl x1, .inr (.inl (some (gM G))), .inl x4]) rfl ?_
  refine s_RI (CE_EM _ _ _ _ _ _) (st := [.inl x4]) (fun o ho => j_callV (As := [.inl x1]) (st := [.inl x4]) (b := gM G) C 9 rfl mf_Md_endOf ml_X12_219 rfl (recv_M hG C) (by decide) (by decide) (Nat.le_refl _) rfl (cMd_endOf (CX_tr C) hG σ M n x1 o ho)) (fun v1 => ?_)
  refine s_icge C 10 rfl (fun _ => ?_) (fun _ => ?_)
  · refine s_blk C 25 1 [] (pc' := 44) (lv' := []) (st' := [.inl x3]) rfl ?_
    exact s_iret C 26 rfl rfl
  refine s_blk C 11 2 [0, 1, 2, 4] (pc' := 20) (lv' := [(0, .inr (.inl (some (gM G)))), (1, .inl x1), (2, .inl x2), (4, .inl x4)]) (st' := [.inr (.inl (some (gM G))), .inl x3]) rfl ?_
  refine s_mR hG C 13 rfl 28 fl_X12_74 rfl ?_
  refine s_blk C 14 1 [0, 1, 2, 4] (pc' := 25) (lv' := [(0, .inr (.inl (some (gM G)))), (1, .inl x1), (2, .inl x2), (4, .inl x4)]) (st' := [.inl x4, .inr (.inl (some (gA G 28))), .inl x3]) rfl ?_
  refine s_mldI hG C 15 rfl rfl rfl (fun v2 => ?_)
  refine s_blk C 16 1 [0, 1, 2, 4] (pc' := 27) (lv' := [(0, .inr (.inl (some (gM G)))), (1, .inl x1), (2, .inl x2), (4, .inl x4)]) (st' := [.inl x2, .inl v2, .inl x3]) rfl ?_
  refine s_icne C 17 rfl (fun _ => ?_) (fun _ => ?_)
  · refine s_blk C 18 2 [0, 1, 2, 4] (pc' := 35) (lv' := [(0, .inr (.inl (some (gM G)))), (1, .inl x1), (2, .inl x2), (4, .inl x4)]) (st' := [.inl 1, .inl x3]) rfl ?_
    exact wMd_manyOf_j35 hG C htab k8 H8 _ _ _ _ _
  refine s_blk C 20 1 [0, 1, 2, 4] (pc' := 35) (lv' := [(0, .inr (.inl (some (gM G)))), (1, .inl x1), (2, .inl x2), (4, .inl x4)]) (st' := [.inl 0, .inl x3]) rfl ?_
  exact wMd_manyOf_j35 hG C htab k8 H8 _ _ _ _ _
def fMd_manyOf_l8 (fu : Nat) : Int32 → Int32 → Int32 → Int32 → Sg → Option (Int32) := Nat.rec (fun x1 x2 x3 x4 σ => none) (fun _ k => fMd_manyOf_b8 k) fu
theorem wMd_manyOf_l8 {X : MC} {G : GE} {n0 : Nat} (hG : gH G = true) (C : CX X G RX12 cX12_manyOf pMd_manyOf 5 (some .int) n0) (htab : ∀ z ∈ X.2.2.2.2.2.2.2.2.exceptionTable.toList, False) {σ : Sg} {M : Mm} {n : Nat} : ∀ (fu : Nat) (x1 : Int32) (x2 : Int32) (x3 : Int32) (x4 : Int32), JS X G 5 300 0 n0 (EM X G n0 3 300 (eR rvI σ M n)) (fMd_manyOf_l8 fu x1 x2 x3 x4 σ) (σ, M, n) 8 [(0, .inr (.inl (some (gM G)))), (1, .inl x1), (2, .inl x2), (3, .inl x3), (4, .inl x4)] [] := by
  intro fu
  induction fu with
  | zero => intro x1 x2 x3 x4; exact s_none
  | succ fu ih => intro x1 x2 x3 x4; exact wMd_manyOf_b8 hG C htab (fMd_manyOf_l8 fu) ih _ _ _ _
def fMd_manyOf (x1 : Int32) (x2 : Int32) (σ : Sg) : Option (Int32) :=
  fMd_manyOf_l8 FU x1 x2 0 (40 * x1) σ
theorem wMd_manyOf {X : MC} {G : GE} {n0 : Nat} (hG : gH G = true) (C : CX X G RX12 cX12_manyOf pMd_manyOf 5 (some .int) n0) (htab : ∀ z ∈ X.2.2.2.2.2.2.2.2.exceptionTable.toList, False) {σ : Sg} {M : Mm} {n : Nat} (x1 : Int32) (x2 : Int32) : JS X G 5 300 0 n0 (EM X G n0 3 300 (eR rvI σ M n)) (fMd_manyOf x1 x2 σ) (σ, M, n) 0 [(0, .inr (.inl (some (gM G)))), (1, .inl x1), (2, .inl x2)] [] := by
  unfold fMd_manyOf
  refine s_blk C 0 6 [0, 1, 2, 3, 4] (pc' := 8) (lv' := [(0, .inr (.inl (some (gM G)))), (1, .inl x1), (2, .inl x2), (3, .inl 0), (4, .inl (40 * x1))]) (st' := []) rfl ?_
  exact wMd_manyOf_l8 hG C htab FU _ _ _ _
theorem cMd_manyOf {l : Launch} {G : GE} (htr : l.stackTraces = false) (hG : gH G = true) (σ : Sg) (M : Mm) (n : Nat) (x1 : Int32) (x2 : Int32) : ∀ o, fMd_manyOf x1 x2 σ = some o → MetX l G yX12_manyOf cX12_manyOf 5 (some .int) 3 300 [.inr (.inl (some (gM G))), .inl x1, .inl x2] (σ, M, n) ((eR rvI σ M n) o) :=
  c_ofX (by decide) kMd_manyOf htr rfl rfl fun X _ _ C htab => wMd_manyOf hG C htab x1 x2

def pMd_ask_0 : List BR := [(0, .aload_n 0, 1, 0, 1), (1, .iload_n 1, 1, 0, 2), (2, .iload_n 2, 1, 0, 3), (3, .iload_n 3, 1, 0, 4), (4, .invokevirtual 262, 3, 0, 7), (7, .istore 4, 2, 0, 9), (9, .iload 4, 2, 0, 11), (11, .ifCond .eq (13), 3, 0, 24), (14, .aload_n 0, 1, 0, 15), (15, .iload_n 1, 1, 0, 16), (16, .iload_n 2, 1, 0, 17), (17, .iload_n 3, 1, 0, 18), (18, .invokevirtual 231, 3, 0, 21), (21, .goto (4), 3, 0, 25), (24, .iconst 0, 1, 0, 25), (25, .istore 5, 2, 0, 27), (27, .iload 4, 2, 0, 29), (29, .ifCond .eq (54), 3, 0, 83), (32, .aload_n 0, 1, 0, 33), (33, .iload 5, 2, 0, 35), (35, .invokevirtual 250, 3, 0, 38), (38, .ifCond .ne (45), 3, 0, 83), (41, .aload_n 0, 1, 0, 42), (42, .getfield 80, 3, 0, 45), (45, .iload 5, 2, 0, 47), (47, .iaload, 1, 0, 48), (48, .iconst 2, 1, 2, 49), (49, .if_icmp .ne (34), 3, 0, 83), (52, .aload_n 0, 1, 0, 53), (53, .getfield 86, 3, 0, 56), (56, .iload 5, 2, 0, 58), (58, .iaload, 1, 0, 59), (59, .iconst (-1), 1, -1, 60), (60, .if_icmp .eq (19), 3, 0, 79), (63, .aload_n 0, 1, 0, 64), (64, .getfield 222, 3, 0, 67), (67, .aload_n 0, 1, 0, 68), (68, .getfield 86, 3, 0, 71), (71, .iload 5, 2, 0, 73), (73, .iaload, 1, 0, 74)]
theorem kMd_ask_0 : bOK cX12_ask 7 pMd_ask_0 = true := by decide +kernel
def pMd_ask_1 : List BR := [(74, .iconst 4, 1, 4, 75), (75, .iadd, 1, 0, 76), (76, .if_icmp .le (7), 3, 0, 83), (79, .iconst 1, 1, 1, 80), (80, .goto (4), 3, 0, 84), (83, .iconst 0, 1, 0, 84), (84, .istore 6, 2, 0, 86), (86, .aload_n 0, 1, 0, 87), (87, .iload 4, 2, 0, 89), (89, .ifCond .ne (7), 3, 0, 96), (92, .iconst 1, 1, 1, 93), (93, .goto (13), 3, 0, 106), (96, .iload 6, 2, 0, 98), (98, .ifCond .eq (7), 3, 0, 105), (101, .iconst 0, 1, 0, 102), (102, .goto (4), 3, 0, 106), (105, .iconst 3, 1, 3, 106), (106, .invokevirtual 150, 3, 0, 109), (109, .ifCond .ne (5), 3, 0, 114), (112, .iconst 0, 1, 0, 113), (113, .ireturn, 1, 0, 114), (114, .aload_n 0, 1, 0, 115), (115, .getfield 86, 3, 0, 118), (118, .iload 5, 2, 0, 120), (120, .aload_n 0, 1, 0, 121), (121, .getfield 222, 3, 0, 124), (124, .iastore, 1, 0, 125), (125, .aload_n 0, 1, 0, 126), (126, .getfield 222, 3, 0, 129), (129, .iconst 2, 1, 2, 130), (130, .iadd, 1, 0, 131), (131, .ireturn, 1, 0, 132)]
theorem kMd_ask_1 : bOK cX12_ask 7 pMd_ask_1 = true := by decide +kernel
def pMd_ask : List BR := (pMd_ask_0 ++ pMd_ask_1)
theorem kMd_ask : bOK cX12_ask 7 pMd_ask = true := (bOK_app kMd_ask_0 kMd_ask_1)
def fMd_ask_j106 (x5 : Int32) (s0 : Int32) (σ : Sg) : Option (Int32 × Sg) :=
  bdW (fMd_holds s0 σ) fun v1 σ2 =>
  if v1 = 0 then
    some (0, σ2)
  else
    mgF 11 σ2 fun v3 =>
    mpA 32 x5 v3 σ2 fun σ4 =>
    mgF 11 σ4 fun v5 =>
    some ((v5 + 2), σ4)
theorem wMd_ask_j106 {X : MC} {G : GE} {n0 : Nat} (hG : gH G = true) (C : CX X G RX12 cX12_ask pMd_ask 7 (some .int) n0) (htab : ∀ z ∈ X.2.2.2.2.2.2.2.2.exceptionTable.toList, False) {M : Mm} {n : Nat} (x5 : Int32) (s0 : Int32) (σ : Sg) : JS X G 7 300 0 n0 (EM X G n0 5 300 (eS rvI M n)) (fMd_ask_j106 x5 s0 σ) (σ, M, n) 106 [(0, .inr (.inl (some (gM G)))), (5, .inl x5)] [.inl s0, .inr (.inl (some (gM G)))] := by
  unfold fMd_ask_j106
  refine s_SI (CE_EM _ _ _ _ _ _) (st := []) (fun o ho => j_callV (As := [.inl s0]) (st := []) (b := gM G) C 57 rfl mf_Md_holds ml_X12_150 rfl (recv_M hG C) (by decide) (by decide) (Nat.le_refl _) rfl (cMd_holds (CX_tr C) hG σ M n s0 o ho)) (fun v1 σ2 => ?_)
  refine s_ine C 58 rfl (fun _ => ?_) (fun _ => ?_)
  · refine s_blk C 59 1 [] (pc' := 113) (lv' := []) (st' := [.inl 0]) rfl ?_
    exact s_iret C 60 rfl rfl
  refine s_blk C 61 1 [0, 5] (pc' := 115) (lv' := [(0, .inr (.inl (some (gM G)))), (5, .inl x5)]) (st' := [.inr (.inl (some (gM G)))]) rfl ?_
  refine s_mR hG C 62 rfl 32 fl_X12_86 rfl ?_
  refine s_blk C 63 2 [0] (pc' := 121) (lv' := [(0, .inr (.inl (some (gM G))))]) (st' := [.inr (.inl (some (gM G))), .inl x5, .inr (.inl (some (gA G 32)))]) rfl ?_
  refine s_mF hG C 65 rfl fl_X12_222 rfl (fun v3 => ?_)
  refine s_mstI hG C 66 rfl rfl rfl (fun σ4 _ => ?_)
  refine s_blk C 67 1 [] (pc' := 126) (lv' := []) (st' := [.inr (.inl (some (gM G)))]) rfl ?_
  refine s_mF hG C 68 rfl fl_X12_222 rfl (fun v5 => ?_)
  refine s_blk C 69 2 [] (pc' := 131) (lv' := []) (st' := [.inl (v5 + 2)]) rfl ?_
  exact s_iret C 71 rfl rfl
def fMd_ask_j84 (x4 : Int32) (x5 : Int32) (s0 : Int32) (σ : Sg) : Option (Int32 × Sg) :=
  if x4 = 0 then
    fMd_ask_j106 x5 1 σ
  else
    if s0 = 0 then
      fMd_ask_j106 x5 3 σ
    else
      fMd_ask_j106 x5 0 σ
theorem wMd_ask_j84 {X : MC} {G : GE} {n0 : Nat} (hG : gH G = true) (C : CX X G RX12 cX12_ask pMd_ask 7 (some .int) n0) (htab : ∀ z ∈ X.2.2.2.2.2.2.2.2.exceptionTable.toList, False) {M : Mm} {n : Nat} (x4 : Int32) (x5 : Int32) (s0 : Int32) (σ : Sg) : JS X G 7 300 0 n0 (EM X G n0 5 300 (eS rvI M n)) (fMd_ask_j84 x4 x5 s0 σ) (σ, M, n) 84 [(0, .inr (.inl (some (gM G)))), (4, .inl x4), (5, .inl x5)] [.inl s0] := by
  unfold fMd_ask_j84
  refine s_blk C 46 3 [0, 5, 6] (pc' := 89) (lv' := [(0, .inr (.inl (some (gM G)))), (5, .inl x5), (6, .inl s0)]) (st' := [.inl x4, .inr (.inl (some (gM G)))]) rfl ?_
  refine s_ine C 49 rfl (fun _ => ?_) (fun _ => ?_)
  · refine s_blk C 50 2 [0, 5] (pc' := 106) (lv' := [(0, .inr (.inl (some (gM G)))), (5, .inl x5)]) (st' := [.inl 1, .inr (.inl (some (gM G)))]) rfl ?_
    exact wMd_ask_j106 hG C htab _ _ _
  refine s_blk C 52 1 [0, 5] (pc' := 98) (lv' := [(0, .inr (.inl (some (gM G)))), (5, .inl x5)]) (st' := [.inl s0, .inr (.inl (some (gM G)))]) rfl ?_
  refine s_ieq C 53 rfl (fun _ => ?_) (fun _ => ?_)
  · refine s_blk C 56 1 [0, 5] (pc' := 106) (lv' := [(0, .inr (.inl (some (gM G)))), (5, .inl x5)]) (st' := [.inl 3, .inr (.inl (some (gM G)))]) rfl ?_
    exact wMd_ask_j106 hG C htab _ _ _
  refine s_blk C 54 2 [0, 5] (pc' := 106) (lv' := [(0, .inr (.inl (some (gM G)))), (5, .inl x5)]) (st' := [.inl 0, .inr (.inl (some (gM G)))]) rfl ?_
  exact wMd_ask_j106 hG C htab _ _ _
def fMd_ask_j83 (x4 : Int32) (x5 : Int32) (σ : Sg) : Option (Int32 × Sg) :=
  fMd_ask_j84 x4 x5 0 σ
theorem wMd_ask_j83 {X : MC} {G : GE} {n0 : Nat} (hG : gH G = true) (C : CX X G RX12 cX12_ask pMd_ask 7 (some .int) n0) (htab : ∀ z ∈ X.2.2.2.2.2.2.2.2.exceptionTable.toList, False) {M : Mm} {n : Nat} (x4 : Int32) (x5 : Int32) (σ : Sg) : JS X G 7 300 0 n0 (EM X G n0 5 300 (eS rvI M n)) (fMd_ask_j83 x4 x5 σ) (σ, M, n) 83 [(0, .inr (.inl (some (gM G)))), (4, .inl x4), (5, .inl x5)] [] := by
  unfold fMd_ask_j83
  refine s_blk C 45 1 [0, 4, 5] (pc' := 84) (lv' := [(0, .inr (.inl (some (gM G)))), (4, .inl x4), (5, .inl x5)]) (st' := [.inl 0]) rfl ?_
  exact wMd_ask_j84 hG C htab _ _ _ _
def fMd_ask_j79 (x4 : Int32) (x5 : Int32) (σ : Sg) : Option (Int32 × Sg) :=
  fMd_ask_j84 x4 x5 1 σ
theorem wMd_ask_j79 {X : MC} {G : GE} {n0 : Nat} (hG : gH G = true) (C : CX X G RX12 cX12_ask pMd_ask 7 (some .int) n0) (htab : ∀ z ∈ X.2.2.2.2.2.2.2.2.exceptionTable.toList, False) {M : Mm} {n : Nat} (x4 : Int32) (x5 : Int32) (σ : Sg) : JS X G 7 300 0 n0 (EM X G n0 5 300 (eS rvI M n)) (fMd_ask_j79 x4 x5 σ) (σ, M, n) 79 [(0, .inr (.inl (some (gM G)))), (4, .inl x4), (5, .inl x5)] [] := by
  unfold fMd_ask_j79
  refine s_blk C 43 2 [0, 4, 5] (pc' := 84) (lv' := [(0, .inr (.inl (some (gM G)))), (4, .inl x4), (5, .inl x5)]) (st' := [.inl 1]) rfl ?_
  exact wMd_ask_j84 hG C htab _ _ _ _
def fMd_ask_j25 (x4 : Int32) (s0 : Int32) (σ : Sg) : Option (Int32 × Sg) :=
  if x4 = 0 then
    fMd_ask_j83 x4 s0 σ
  else
    bdR (fMd_isMark s0 σ) fun v1 =>
    if v1 = 0 then
      mgA 30 s0 σ fun v2 =>
      if v2 = 2 then
        mgA 32 s0 σ fun v3 =>
        if v3 = (-1) then
          fMd_ask_j79 x4 s0 σ
        else
          mgF 11 σ fun v4 =>
          mgA 32 s0 σ fun v5 =>
          if v4 ≤ (v5 + 4) then
            fMd_ask_j83 x4 s0 σ
          else
            fMd_ask_j79 x4 s0 σ
      else
        fMd_ask_j83 x4 s0 σ
    else
      fMd_ask_j83 x4 s0 σ
theorem wMd_ask_j25 {X : MC} {G : GE} {n0 : Nat} (hG : gH G = true) (C : CX X G RX12 cX12_ask pMd_ask 7 (some .int) n0) (htab : ∀ z ∈ X.2.2.2.2.2.2.2.2.exceptionTable.toList, False) {M : Mm} {n : Nat} (x4 : Int32) (s0 : Int32) (σ : Sg) : JS X G 7 300 0 n0 (EM X G n0 5 300 (eS rvI M n)) (fMd_ask_j25 x4 s0 σ) (σ, M, n) 25 [(0, .inr (.inl (some (gM G)))), (4, .inl x4)] [.inl s0] := by
  unfold fMd_ask_j25
  refine s_blk C 15 2 [0, 4, 5] (pc' := 29) (lv' := [(0, .inr (.inl (some (gM G)))), (4, .inl x4), (5, .inl s0)]) (st' := [.inl x4]) rfl ?_
  refine s_ieq C 17 rfl (fun _ => ?_) (fun _ => ?_)
  · exact wMd_ask_j83 hG C htab _ _ _
  refine s_blk C 18 2 [0, 4, 5] (pc' := 35) (lv' := [(0, .inr (.inl (some (gM G)))), (4, .inl x4), (5, .inl s0)]) (st' := [.inl s0, .inr (.inl (some (gM G)))]) rfl ?_
  refine s_RI (CE_EM _ _ _ _ _ _) (st := []) (fun o ho => j_callV (As := [.inl s0]) (st := []) (b := gM G) C 20 rfl mf_Md_isMark ml_X12_250 rfl (recv_M hG C) (by decide) (by decide) (Nat.le_refl _) rfl (cMd_isMark (CX_tr C) hG σ M n s0 o ho)) (fun v1 => ?_)
  refine s_ine C 21 rfl (fun _ => ?_) (fun _ => ?_)
  · refine s_blk C 22 1 [0, 4, 5] (pc' := 42) (lv' := [(0, .inr (.inl (some (gM G)))), (4, .inl x4), (5, .inl s0)]) (st' := [.inr (.inl (some (gM G)))]) rfl ?_
    refine s_mR hG C 23 rfl 30 fl_X12_80 rfl ?_
    refine s_blk C 24 1 [0, 4, 5] (pc' := 47) (lv' := [(0, .inr (.inl (some (gM G)))), (4, .inl x4), (5, .inl s0)]) (st' := [.inl s0, .inr (.inl (some (gA G 30)))]) rfl ?_
    refine s_mldI hG C 25 rfl rfl rfl (fun v2 => ?_)
    refine s_blk C 26 1 [0, 4, 5] (pc' := 49) (lv' := [(0, .inr (.inl (some (gM G)))), (4, .inl x4), (5, .inl s0)]) (st' := [.inl 2, .inl v2]) rfl ?_
    refine s_icne C 27 rfl (fun _ => ?_) (fun _ => ?_)
    · refine s_blk C 28 1 [0, 4, 5] (pc' := 53) (lv' := [(0, .inr (.inl (some (gM G)))), (4, .inl x4), (5, .inl s0)]) (st' := [.inr (.inl (some (gM G)))]) rfl ?_
      refine s_mR hG C 29 rfl 32 fl_X12_86 rfl ?_
      refine s_blk C 30 1 [0, 4, 5] (pc' := 58) (lv' := [(0, .inr (.inl (some (gM G)))), (4, .inl x4), (5, .inl s0)]) (st' := [.inl s0, .inr (.inl (some (gA G 32)))]) rfl ?_
      refine s_mldI hG C 31 rfl rfl rfl (fun v3 => ?_)
      refine s_blk C 32 1 [0, 4, 5] (pc' := 60) (lv' := [(0, .inr (.inl (some (gM G)))), (4, .inl x4), (5, .inl s0)]) (st' := [.inl (-1), .inl v3]) rfl ?_
      refine s_iceq C 33 rfl (fun _ => ?_) (fun _ => ?_)
      · exact wMd_ask_j79 hG C htab _ _ _
      refine s_blk C 34 1 [0, 4, 5] (pc' := 64) (lv' := [(0, .inr (.inl (some (gM G)))), (4, .inl x4), (5, .inl s0)]) (st' := [.inr (.inl (some (gM G)))]) rfl ?_
      refine s_mF hG C 35 rfl fl_X12_222 rfl (fun v4 => ?_)
      refine s_blk C 36 1 [0, 4, 5] (pc' := 68) (lv' := [(0, .inr (.inl (some (gM G)))), (4, .inl x4), (5, .inl s0)]) (st' := [.inr (.inl (some (gM G))), .inl v4]) rfl ?_
      refine s_mR hG C 37 rfl 32 fl_X12_86 rfl ?_
      refine s_blk C 38 1 [0, 4, 5] (pc' := 73) (lv' := [(0, .inr (.inl (some (gM G)))), (4, .inl x4), (5, .inl s0)]) (st' := [.inl s0, .inr (.inl (some (gA G 32))), .inl v4]) rfl ?_
      refine s_mldI hG C 39 rfl rfl rfl (fun v5 => ?_)
      refine s_blk C 40 2 [0, 4, 5] (pc' := 76) (lv' := [(0, .inr (.inl (some (gM G)))), (4, .inl x4), (5, .inl s0)]) (st' := [.inl (v5 + 4), .inl v4]) rfl ?_
      refine s_icle C 42 rfl (fun _ => ?_) (fun _ => ?_)
      · exact wMd_ask_j83 hG C htab _ _ _
      exact wMd_ask_j79 hG C htab _ _ _
    exact wMd_ask_j83 hG C htab _ _ _
  exact wMd_ask_j83 hG C htab _ _ _
def fMd_ask (x1 : Int32) (x2 : Int32) (x3 : Int32) (σ : Sg) : Option (Int32 × Sg) :=
  bdR (fMd_isVersion x1 x2 x3 σ) fun v1 =>
  if v1 = 0 then
    fMd_ask_j25 v1 0 σ
  else
    bdR (fMd_versionAt x1 x2 x3 σ) fun v2 =>
    fMd_ask_j25 v1 v2 σ
theorem wMd_ask {X : MC} {G : GE} {n0 : Nat} (hG : gH G = true) (C : CX X G RX12 cX12_ask pMd_ask 7 (some .int) n0) (htab : ∀ z ∈ X.2.2.2.2.2.2.2.2.exceptionTable.toList, False) {M : Mm} {n : Nat} (x1 : Int32) (x2 : Int32) (x3 : Int32) (σ : Sg) : JS X G 7 300 0 n0 (EM X G n0 5 300 (eS rvI M n)) (fMd_ask x1 x2 x3 σ) (σ, M, n) 0 [(0, .inr (.inl (some (gM G)))), (1, .inl x1), (2, .inl x2), (3, .inl x3)] [] := by
  unfold fMd_ask
  refine s_blk C 0 4 [0, 1, 2, 3] (pc' := 4) (lv' := [(0, .inr (.inl (some (gM G)))), (1, .inl x1), (2, .inl x2), (3, .inl x3)]) (st' := [.inl x3, .inl x2, .inl x1, .inr (.inl (some (gM G)))]) rfl ?_
  refine s_RI (CE_EM _ _ _ _ _ _) (st := []) (fun o ho => j_callV (As := [.inl x1, .inl x2, .inl x3]) (st := []) (b := gM G) C 4 rfl mf_Md_isVersion ml_X12_262 rfl (recv_M hG C) (by decide) (by decide) (Nat.le_refl _) rfl (cMd_isVersion (CX_tr C) hG σ M n x1 x2 x3 o ho)) (fun v1 => ?_)
  refine s_blk C 5 2 [0, 1, 2, 3, 4] (pc' := 11) (lv' := [(0, .inr (.inl (some (gM G)))), (1, .inl x1), (2, .inl x2), (3, .inl x3), (4, .inl v1)]) (st' := [.inl v1]) rfl ?_
  refine s_ieq C 7 rfl (fun _ => ?_) (fun _ => ?_)
  · refine s_blk C 14 1 [0, 4] (pc' := 25) (lv' := [(0, .inr (.inl (some (gM G)))), (4, .inl v1)]) (st' := [.inl 0]) rfl ?_
    exact wMd_ask_j25 hG C htab _ _ _
  refine s_blk C 8 4 [0, 4] (pc' := 18) (lv' := [(0, .inr (.inl (some (gM G)))), (4, .inl v1)]) (st' := [.inl x3, .inl x2, .inl x1, .inr (.inl (some (gM G)))]) rfl ?_
  refine s_RI (CE_EM _ _ _ _ _ _) (st := []) (fun o ho => j_callV (As := [.inl x1, .inl x2, .inl x3]) (st := []) (b := gM G) C 12 rfl mf_Md_versionAt ml_X12_231 rfl (recv_M hG C) (by decide) (by decide) (Nat.le_refl _) rfl (cMd_versionAt (CX_tr C) hG σ M n x1 x2 x3 o ho)) (fun v2 => ?_)
  refine s_blk C 13 1 [0, 4] (pc' := 25) (lv' := [(0, .inr (.inl (some (gM G)))), (4, .inl v1)]) (st' := [.inl v2]) rfl ?_
  exact wMd_ask_j25 hG C htab _ _ _
theorem cMd_ask {l : Launch} {G : GE} (htr : l.stackTraces = false) (hG : gH G = true) (σ : Sg) (M : Mm) (n : Nat) (x1 : Int32) (x2 : Int32) (x3 : Int32) : ∀ o, fMd_ask x1 x2 x3 σ = some o → MetX l G yX12_ask cX12_ask 7 (some .int) 5 300 [.inr (.inl (some (gM G))), .inl x1, .inl x2, .inl x3] (σ, M, n) ((eS rvI M n) o) :=
  c_ofX (by decide) kMd_ask htr rfl rfl fun X _ _ C htab => wMd_ask hG C htab x1 x2 x3 _
def pMd_cuts_0 : List BR := [(0, .aload_n 0, 1, 0, 1), (1, .iconst 0, 1, 0, 2), (2, .putfield 154, 3, 0, 5), (5, .iconst 0, 1, 0, 6), (6, .istore_n 1, 1, 0, 7), (7, .iconst 0, 1, 0, 8), (8, .istore_n 2, 1, 0, 9), (9, .iload_n 2, 1, 0, 10), (10, .aload_n 0, 1, 0, 11), (11, .getfield 157, 3, 0, 14), (14, .if_icmp .ge (104), 3, 0, 118), (17, .iload_n 2, 1, 0, 18), (18, .iconst 1, 1, 1, 19), (19, .iadd, 1, 0, 20), (20, .iload_n 1, 1, 0, 21), (21, .isub, 1, 0, 22), (22, .istore_n 3, 1, 0, 23), (23, .iload_n 3, 1, 0, 24), (24, .bipush 6, 2, 6, 26), (26, .if_icmp .eq (40), 3, 0, 66), (29, .iload_n 3, 1, 0, 30), (30, .iconst 1, 1, 1, 31), (31, .if_icmp .le (25), 3, 0, 56), (34, .iconst 3, 1, 3, 35), (35, .aload_n 0, 1, 0, 36), (36, .getfield 13, 3, 0, 39), (39, .iload_n 2, 1, 0, 40), (40, .iconst 1, 1, 1, 41), (41, .isub, 1, 0, 42), (42, .iaload, 1, 0, 43), (43, .imul, 1, 0, 44), (44, .aload_n 0, 1, 0, 45), (45, .getfield 13, 3, 0, 48), (48, .iload_n 2, 1, 0, 49), (49, .iaload, 1, 0, 50), (50, .iadd, 1, 0, 51), (51, .iconst 5, 1, 5, 52), (52, .irem, 1, 0, 53), (53, .ifCond .eq (13), 3, 0, 66), (56, .iload_n 2, 1, 0, 57)]
theorem kMd_cuts_0 : bOK cX12_cuts 5 pMd_cuts_0 = true := by decide +kernel
def pMd_cuts_1 : List BR := [(57, .iconst 1, 1, 1, 58), (58, .iadd, 1, 0, 59), (59, .aload_n 0, 1, 0, 60), (60, .getfield 157, 3, 0, 63), (63, .if_icmp .ne (7), 3, 0, 70), (66, .iconst 1, 1, 1, 67), (67, .goto (4), 3, 0, 71), (70, .iconst 0, 1, 0, 71), (71, .istore 4, 2, 0, 73), (73, .iload 4, 2, 0, 75), (75, .ifCond .eq (37), 3, 0, 112), (78, .aload_n 0, 1, 0, 79), (79, .getfield 16, 3, 0, 82), (82, .aload_n 0, 1, 0, 83), (83, .getfield 154, 3, 0, 86), (86, .iload_n 1, 1, 0, 87), (87, .iastore, 1, 0, 88), (88, .aload_n 0, 1, 0, 89), (89, .getfield 19, 3, 0, 92), (92, .aload_n 0, 1, 0, 93), (93, .getfield 154, 3, 0, 96), (96, .iload_n 3, 1, 0, 97), (97, .iastore, 1, 0, 98), (98, .aload_n 0, 1, 0, 99), (99, .dup, 1, 0, 100), (100, .getfield 154, 3, 0, 103), (103, .iconst 1, 1, 1, 104), (104, .iadd, 1, 0, 105), (105, .putfield 154, 3, 0, 108), (108, .iload_n 2, 1, 0, 109), (109, .iconst 1, 1, 1, 110), (110, .iadd, 1, 0, 111), (111, .istore_n 1, 1, 0, 112), (112, .iinc 2 (1), 3, 1, 115), (115, .goto (-106), 3, 0, 9), (118, .return_, 1, 0, 119)]
theorem kMd_cuts_1 : bOK cX12_cuts 5 pMd_cuts_1 = true := by decide +kernel
def pMd_cuts : List BR := (pMd_cuts_0 ++ pMd_cuts_1)
theorem kMd_cuts : bOK cX12_cuts 5 pMd_cuts = true := (bOK_app kMd_cuts_0 kMd_cuts_1)
def fMd_cuts_j112 (k9 : Int32 → Int32 → Sg → Option (Unit × Sg)) (x1 : Int32) (x2 : Int32) (σ : Sg) : Option (Unit × Sg) :=
  k9 x1 (x2 + 1) σ
theorem wMd_cuts_j112 {X : MC} {G : GE} {n0 : Nat} (hG : gH G = true) (C : CX X G RX12 cX12_cuts pMd_cuts 5 none n0) (htab : ∀ z ∈ X.2.2.2.2.2.2.2.2.exceptionTable.toList, False) {M : Mm} {n : Nat} (k9 : Int32 → Int32 → Sg → Option (Unit × Sg)) (H9 : ∀ (x1 : Int32) (x2 : Int32) (σ : Sg), JS X G 5 300 0 n0 (EM X G n0 2 300 (eS rvU M n)) (k9 x1 x2 σ) (σ, M, n) 9 [(0, .inr (.inl (some (gM G)))), (1, .inl x1), (2, .inl x2)] []) (x1 : Int32) (x2 : Int32) (σ : Sg) : JS X G 5 300 0 n0 (EM X G n0 2 300 (eS rvU M n)) (fMd_cuts_j112 k9 x1 x2 σ) (σ, M, n) 112 [(0, .inr (.inl (some (gM G)))), (1, .inl x1), (2, .inl x2)] [] := by
  unfold fMd_cuts_j112
  refine s_blk C 73 2 [0, 1, 2] (pc' := 9) (lv' := [(0, .inr (.inl (some (gM G)))), (1, .inl x1), (2, .inl (x2 + 1))]) (st' := []) rfl ?_
  exact H9 _ _ _
def fMd_cuts_j71 (k9 : Int32 → Int32 → Sg → Option (Unit × Sg)) (x1 : Int32) (x2 : Int32) (x3 : Int32) (s0 : Int32) (σ : Sg) : Option (Unit × Sg) :=
  if s0 = 0 then
    fMd_cuts_j112 k9 x1 x2 σ
  else
    mgF 5 σ fun v1 =>
    mpA 6 v1 x1 σ fun σ2 =>
    mgF 5 σ2 fun v3 =>
    mpA 7 v3 x3 σ2 fun σ4 =>
    mgF 5 σ4 fun v5 =>
    mpF 5 (v5 + 1) σ4 fun σ6 =>
    fMd_cuts_j112 k9 (x2 + 1) x2 σ6
theorem wMd_cuts_j71 {X : MC} {G : GE} {n0 : Nat} (hG : gH G = true) (C : CX X G RX12 cX12_cuts pMd_cuts 5 none n0) (htab : ∀ z ∈ X.2.2.2.2.2.2.2.2.exceptionTable.toList, False) {M : Mm} {n : Nat} (k9 : Int32 → Int32 → Sg → Option (Unit × Sg)) (H9 : ∀ (x1 : Int32) (x2 : Int32) (σ : Sg), JS X G 5 300 0 n0 (EM X G n0 2 300 (eS rvU M n)) (k9 x1 x2 σ) (σ, M, n) 9 [(0, .inr (.inl (some (gM G)))), (1, .inl x1), (2, .inl x2)] []) (x1 : Int32) (x2 : Int32) (x3 : Int32) (s0 : Int32) (σ : Sg) : JS X G 5 300 0 n0 (EM X G n0 2 300 (eS rvU M n)) (fMd_cuts_j71 k9 x1 x2 x3 s0 σ) (σ, M, n) 71 [(0, .inr (.inl (some (gM G)))), (1, .inl x1), (2, .inl x2), (3, .inl x3)] [.inl s0] := by
  unfold fMd_cuts_j71
  refine s_blk C 48 2 [0, 1, 2, 3] (pc' := 75) (lv' := [(0, .inr (.inl (some (gM G)))), (1, .inl x1), (2, .inl x2), (3, .inl x3)]) (st' := [.inl s0]) rfl ?_
  refine s_ieq C 50 rfl (fun _ => ?_) (fun _ => ?_)
  · refine s_blk C 0 0 [0, 1, 2] (pc' := 112) (lv' := [(0, .inr (.inl (some (gM G)))), (1, .inl x1), (2, .inl x2)]) (st' := []) rfl ?_
    exact wMd_cuts_j112 hG C htab k9 H9 _ _ _
  refine s_blk C 51 1 [0, 1, 2, 3] (pc' := 79) (lv' := [(0, .inr (.inl (some (gM G)))), (1, .inl x1), (2, .inl x2), (3, .inl x3)]) (st' := [.inr (.inl (some (gM G)))]) rfl ?_
  refine s_mR hG C 52 rfl 6 fl_X12_16 rfl ?_
  refine s_blk C 53 1 [0, 1, 2, 3] (pc' := 83) (lv' := [(0, .inr (.inl (some (gM G)))), (1, .inl x1), (2, .inl x2), (3, .inl x3)]) (st' := [.inr (.inl (some (gM G))), .inr (.inl (some (gA G 6)))]) rfl ?_
  refine s_mF hG C 54 rfl fl_X12_154 rfl (fun v1 => ?_)
  refine s_blk C 55 1 [0, 2, 3] (pc' := 87) (lv' := [(0, .inr (.inl (some (gM G)))), (2, .inl x2), (3, .inl x3)]) (st' := [.inl x1, .inl v1, .inr (.inl (some (gA G 6)))]) rfl ?_
  refine s_mstI hG C 56 rfl rfl rfl (fun σ2 _ => ?_)
  refine s_blk C 57 1 [0, 2, 3] (pc' := 89) (lv' := [(0, .inr (.inl (some (gM G)))), (2, .inl x2), (3, .inl x3)]) (st' := [.inr (.inl (some (gM G)))]) rfl ?_
  refine s_mR hG C 58 rfl 7 fl_X12_19 rfl ?_
  refine s_blk C 59 1 [0, 2, 3] (pc' := 93) (lv' := [(0, .inr (.inl (some (gM G)))), (2, .inl x2), (3, .inl x3)]) (st' := [.inr (.inl (some (gM G))), .inr (.inl (some (gA G 7)))]) rfl ?_
  refine s_mF hG C 60 rfl fl_X12_154 rfl (fun v3 => ?_)
  refine s_blk C 61 1 [0, 2] (pc' := 97) (lv' := [(0, .inr (.inl (some (gM G)))), (2, .inl x2)]) (st' := [.inl x3, .inl v3, .inr (.inl (some (gA G 7)))]) rfl ?_
  refine s_mstI hG C 62 rfl rfl rfl (fun σ4 _ => ?_)
  refine s_blk C 63 2 [0, 2] (pc' := 100) (lv' := [(0, .inr (.inl (some (gM G)))), (2, .inl x2)]) (st' := [.inr (.inl (some (gM G))), .inr (.inl (some (gM G)))]) rfl ?_
  refine s_mF hG C 65 rfl fl_X12_154 rfl (fun v5 => ?_)
  refine s_blk C 66 2 [0, 2] (pc' := 105) (lv' := [(0, .inr (.inl (some (gM G)))), (2, .inl x2)]) (st' := [.inl (v5 + 1), .inr (.inl (some (gM G)))]) rfl ?_
  refine s_mpF hG C 68 rfl fl_X12_154 fp_X12_13_5 rfl (fun σ6 _ => ?_)
  refine s_blk C 69 4 [0, 1, 2] (pc' := 112) (lv' := [(0, .inr (.inl (some (gM G)))), (1, .inl (x2 + 1)), (2, .inl x2)]) (st' := []) rfl ?_
  exact wMd_cuts_j112 hG C htab k9 H9 _ _ _
def fMd_cuts_j66 (k9 : Int32 → Int32 → Sg → Option (Unit × Sg)) (x1 : Int32) (x2 : Int32) (x3 : Int32) (σ : Sg) : Option (Unit × Sg) :=
  fMd_cuts_j71 k9 x1 x2 x3 1 σ
theorem wMd_cuts_j66 {X : MC} {G : GE} {n0 : Nat} (hG : gH G = true) (C : CX X G RX12 cX12_cuts pMd_cuts 5 none n0) (htab : ∀ z ∈ X.2.2.2.2.2.2.2.2.exceptionTable.toList, False) {M : Mm} {n : Nat} (k9 : Int32 → Int32 → Sg → Option (Unit × Sg)) (H9 : ∀ (x1 : Int32) (x2 : Int32) (σ : Sg), JS X G 5 300 0 n0 (EM X G n0 2 300 (eS rvU M n)) (k9 x1 x2 σ) (σ, M, n) 9 [(0, .inr (.inl (some (gM G)))), (1, .inl x1), (2, .inl x2)] []) (x1 : Int32) (x2 : Int32) (x3 : Int32) (σ : Sg) : JS X G 5 300 0 n0 (EM X G n0 2 300 (eS rvU M n)) (fMd_cuts_j66 k9 x1 x2 x3 σ) (σ, M, n) 66 [(0, .inr (.inl (some (gM G)))), (1, .inl x1), (2, .inl x2), (3, .inl x3)] [] := by
  unfold fMd_cuts_j66
  refine s_blk C 45 2 [0, 1, 2, 3] (pc' := 71) (lv' := [(0, .inr (.inl (some (gM G)))), (1, .inl x1), (2, .inl x2), (3, .inl x3)]) (st' := [.inl 1]) rfl ?_
  exact wMd_cuts_j71 hG C htab k9 H9 _ _ _ _ _
def fMd_cuts_j56 (k9 : Int32 → Int32 → Sg → Option (Unit × Sg)) (x1 : Int32) (x2 : Int32) (x3 : Int32) (σ : Sg) : Option (Unit × Sg) :=
  mgF 3 σ fun v1 =>
  if (x2 + 1) = v1 then
    fMd_cuts_j66 k9 x1 x2 x3 σ
  else
    fMd_cuts_j71 k9 x1 x2 x3 0 σ
theorem wMd_cuts_j56 {X : MC} {G : GE} {n0 : Nat} (hG : gH G = true) (C : CX X G RX12 cX12_cuts pMd_cuts 5 none n0) (htab : ∀ z ∈ X.2.2.2.2.2.2.2.2.exceptionTable.toList, False) {M : Mm} {n : Nat} (k9 : Int32 → Int32 → Sg → Option (Unit × Sg)) (H9 : ∀ (x1 : Int32) (x2 : Int32) (σ : Sg), JS X G 5 300 0 n0 (EM X G n0 2 300 (eS rvU M n)) (k9 x1 x2 σ) (σ, M, n) 9 [(0, .inr (.inl (some (gM G)))), (1, .inl x1), (2, .inl x2)] []) (x1 : Int32) (x2 : Int32) (x3 : Int32) (σ : Sg) : JS X G 5 300 0 n0 (EM X G n0 2 300 (eS rvU M n)) (fMd_cuts_j56 k9 x1 x2 x3 σ) (σ, M, n) 56 [(0, .inr (.inl (some (gM G)))), (1, .inl x1), (2, .inl x2), (3, .inl x3)] [] := by
  unfold fMd_cuts_j56
  refine s_blk C 39 4 [0, 1, 2, 3] (pc' := 60) (lv' := [(0, .inr (.inl (some (gM G)))), (1, .inl x1), (2, .inl x2), (3, .inl x3)]) (st' := [.inr (.inl (some (gM G))), .inl (x2 + 1)]) rfl ?_
  refine s_mF hG C 43 rfl fl_X12_157 rfl (fun v1 => ?_)
  refine s_icne C 44 rfl (fun _ => ?_) (fun _ => ?_)
  · exact wMd_cuts_j66 hG C htab k9 H9 _ _ _ _
  refine s_blk C 47 1 [0, 1, 2, 3] (pc' := 71) (lv' := [(0, .inr (.inl (some (gM G)))), (1, .inl x1), (2, .inl x2), (3, .inl x3)]) (st' := [.inl 0]) rfl ?_
  exact wMd_cuts_j71 hG C htab k9 H9 _ _ _ _ _
def fMd_cuts_b9 (k9 : Int32 → Int32 → Sg → Option (Unit × Sg)) (x1 : Int32) (x2 : Int32) (σ : Sg) : Option (Unit × Sg) :=
  mgF 3 σ fun v1 =>
  if v1 ≤ x2 then
    some ((), σ)
  else
    if ((x2 + 1) - x1) = 6 then
      fMd_cuts_j66 k9 x1 x2 ((x2 + 1) - x1) σ
    else
      if ((x2 + 1) - x1) ≤ 1 then
        fMd_cuts_j56 k9 x1 x2 ((x2 + 1) - x1) σ
      else
        mgA 4 (x2 - 1) σ fun v2 =>
        mgA 4 x2 σ fun v3 =>
        if (((3 * v2) + v3) - ((3 * v2) + v3) / 5 * 5) = 0 then
          fMd_cuts_j66 k9 x1 x2 ((x2 + 1) - x1) σ
        else
          fMd_cuts_j56 k9 x1 x2 ((x2 + 1) - x1) σ
theorem wMd_cuts_b9 {X : MC} {G : GE} {n0 : Nat} (hG : gH G = true) (C : CX X G RX12 cX12_cuts pMd_cuts 5 none n0) (htab : ∀ z ∈ X.2.2.2.2.2.2.2.2.exceptionTable.toList, False) {M : Mm} {n : Nat} (k9 : Int32 → Int32 → Sg → Option (Unit × Sg)) (H9 : ∀ (x1 : Int32) (x2 : Int32) (σ : Sg), JS X G 5 300 0 n0 (EM X G n0 2 300 (eS rvU M n)) (k9 x1 x2 σ) (σ, M, n) 9 [(0, .inr (.inl (some (gM G)))), (1, .inl x1), (2, .inl x2)] []) (x1 : Int32) (x2 : Int32) (σ : Sg) : JS X G 5 300 0 n0 (EM X G n0 2 300 (eS rvU M n)) (fMd_cuts_b9 k9 x1 x2 σ) (σ, M, n) 9 [(0, .inr (.inl (some (gM G)))), (1, .inl x1), (2, .inl x2)] [] := by
  unfold fMd_cuts_b9
  refine s_blk C 7 2 [0, 1, 2] (pc' := 11) (lv' := [(0, .inr (.inl (some (gM G)))), (1, .inl x1), (2, .inl x2)]) (st' := [.inr (.inl (some (gM G))), .inl x2]) rfl ?_
  refine s_mF hG C 9 rfl fl_X12_157 rfl (fun v1 => ?_)
  refine s_icge C 10 rfl (fun _ => ?_) (fun _ => ?_)
  · exact s_vret C 75 rfl rfl
  refine s_blk C 11 8 [0, 1, 2, 3] (pc' := 26) (lv' := [(0, .inr (.inl (some (gM G)))), (1, .inl x1), (2, .inl x2), (3, .inl ((x2 + 1) - x1))]) (st' := [.inl 6, .inl ((x2 + 1) - x1)]) rfl ?_
  refine s_iceq C 19 rfl (fun _ => ?_) (fun _ => ?_)
  · exact wMd_cuts_j66 hG C htab k9 H9 _ _ _ _
  refine s_blk C 20 2 [0, 1, 2, 3] (pc' := 31) (lv' := [(0, .inr (.inl (some (gM G)))), (1, .inl x1), (2, .inl x2), (3, .inl ((x2 + 1) - x1))]) (st' := [.inl 1, .inl ((x2 + 1) - x1)]) rfl ?_
  refine s_icle C 22 rfl (fun _ => ?_) (fun _ => ?_)
  · exact wMd_cuts_j56 hG C htab k9 H9 _ _ _ _
  refine s_blk C 23 2 [0, 1, 2, 3] (pc' := 36) (lv' := [(0, .inr (.inl (some (gM G)))), (1, .inl x1), (2, .inl x2), (3, .inl ((x2 + 1) - x1))]) (st' := [.inr (.inl (some (gM G))), .inl 3]) rfl ?_
  refine s_mR hG C 25 rfl 4 fl_X12_13 rfl ?_
  refine s_blk C 26 3 [0, 1, 2, 3] (pc' := 42) (lv' := [(0, .inr (.inl (some (gM G)))), (1, .inl x1), (2, .inl x2), (3, .inl ((x2 + 1) - x1))]) (st' := [.inl (x2 - 1), .inr (.inl (some (gA G 4))), .inl 3]) rfl ?_
  refine s_mldI hG C 29 rfl rfl rfl (fun v2 => ?_)
  refine s_blk C 30 2 [0, 1, 2, 3] (pc' := 45) (lv' := [(0, .inr (.inl (some (gM G)))), (1, .inl x1), (2, .inl x2), (3, .inl ((x2 + 1) - x1))]) (st' := [.inr (.inl (some (gM G))), .inl (3 * v2)]) rfl ?_
  refine s_mR hG C 32 rfl 4 fl_X12_13 rfl ?_
  refine s_blk C 33 1 [0, 1, 2, 3] (pc' := 49) (lv' := [(0, .inr (.inl (some (gM G)))), (1, .inl x1), (2, .inl x2), (3, .inl ((x2 + 1) - x1))]) (st' := [.inl x2, .inr (.inl (some (gA G 4))), .inl (3 * v2)]) rfl ?_
  refine s_mldI hG C 34 rfl rfl rfl (fun v3 => ?_)
  refine s_blk C 35 2 [0, 1, 2, 3] (pc' := 52) (lv' := [(0, .inr (.inl (some (gM G)))), (1, .inl x1), (2, .inl x2), (3, .inl ((x2 + 1) - x1))]) (st' := [.inl 5, .inl ((3 * v2) + v3)]) rfl ?_
  refine s_irem C 37 rfl (by decide) ?_
  refine s_ieq C 38 rfl (fun _ => ?_) (fun _ => ?_)
  · exact wMd_cuts_j66 hG C htab k9 H9 _ _ _ _
  exact wMd_cuts_j56 hG C htab k9 H9 _ _ _ _
def fMd_cuts_l9 (fu : Nat) : Int32 → Int32 → Sg → Option (Unit × Sg) := Nat.rec (fun x1 x2 σ => none) (fun _ k => fMd_cuts_b9 k) fu
theorem wMd_cuts_l9 {X : MC} {G : GE} {n0 : Nat} (hG : gH G = true) (C : CX X G RX12 cX12_cuts pMd_cuts 5 none n0) (htab : ∀ z ∈ X.2.2.2.2.2.2.2.2.exceptionTable.toList, False) {M : Mm} {n : Nat} : ∀ (fu : Nat) (x1 : Int32) (x2 : Int32) (σ : Sg), JS X G 5 300 0 n0 (EM X G n0 2 300 (eS rvU M n)) (fMd_cuts_l9 fu x1 x2 σ) (σ, M, n) 9 [(0, .inr (.inl (some (gM G)))), (1, .inl x1), (2, .inl x2)] [] := by
  intro fu
  induction fu with
  | zero => intro x1 x2 σ; exact s_none
  | succ fu ih => intro x1 x2 σ; exact wMd_cuts_b9 hG C htab (fMd_cuts_l9 fu) ih _ _ _
def fMd_cuts (σ : Sg) : Option (Unit × Sg) :=
  mpF 5 0 σ fun σ1 =>
  fMd_cuts_l9 FU 0 0 σ1
theorem wMd_cuts {X : MC} {G : GE} {n0 : Nat} (hG : gH G = true) (C : CX X G RX12 cX12_cuts pMd_cuts 5 none n0) (htab : ∀ z ∈ X.2.2.2.2.2.2.2.2.exceptionTable.toList, False) {M : Mm} {n : Nat} (σ : Sg) : JS X G 5 300 0 n0 (EM X G n0 2 300 (eS rvU M n)) (fMd_cuts σ) (σ, M, n) 0 [(0, .inr (.inl (some (gM G))))] [] := by
  unfold fMd_cuts
  refine s_blk C 0 2 [0] (pc' := 2) (lv' := [(0, .inr (.inl (some (gM G))))]) (st' := [.inl 0, .inr (.inl (some (gM G)))]) rfl ?_
  refine s_mpF hG C 2 rfl fl_X12_154 fp_X12_13_5 rfl (fun σ1 _ => ?_)
  refine s_blk C 3 4 [0, 1, 2] (pc' := 9) (lv' := [(0, .inr (.inl (some (gM G)))), (1, .inl 0), (2, .inl 0)]) (st' := []) rfl ?_
  exact wMd_cuts_l9 hG C htab FU _ _ _
theorem cMd_cuts {l : Launch} {G : GE} (htr : l.stackTraces = false) (hG : gH G = true) (σ : Sg) (M : Mm) (n : Nat) : ∀ o, fMd_cuts σ = some o → MetX l G yX12_cuts cX12_cuts 5 none 2 300 [.inr (.inl (some (gM G)))] (σ, M, n) ((eS rvU M n) o) :=
  c_ofX (by decide) kMd_cuts htr rfl rfl fun X _ _ C htab => wMd_cuts hG C htab _
def pMd_atHand : List BR := [(0, .aload_n 0, 1, 0, 1), (1, .aload_n 0, 1, 0, 2), (2, .getfield 147, 3, 0, 5), (5, .putfield 157, 3, 0, 8), (8, .iconst 0, 1, 0, 9), (9, .istore_n 1, 1, 0, 10), (10, .iload_n 1, 1, 0, 11), (11, .aload_n 0, 1, 0, 12), (12, .getfield 157, 3, 0, 15), (15, .if_icmp .ge (21), 3, 0, 36), (18, .aload_n 0, 1, 0, 19), (19, .getfield 13, 3, 0, 22), (22, .iload_n 1, 1, 0, 23), (23, .aload_n 0, 1, 0, 24), (24, .getfield 7, 3, 0, 27), (27, .iload_n 1, 1, 0, 28), (28, .iaload, 1, 0, 29), (29, .iastore, 1, 0, 30), (30, .iinc 1 (1), 3, 1, 33), (33, .goto (-23), 3, 0, 10), (36, .aload_n 0, 1, 0, 37), (37, .invokevirtual 160, 3, 0, 40), (40, .return_, 1, 0, 41)]
theorem kMd_atHand : bOK cX12_atHand 2 pMd_atHand = true := by decide +kernel
def fMd_atHand_b10 (k10 : Int32 → Sg → Option (Unit × Sg)) (x1 : Int32) (σ : Sg) : Option (Unit × Sg) :=
  mgF 3 σ fun v1 =>
  if v1 ≤ x1 then
    bdW (fMd_cuts σ) fun v2 σ3 =>
    some ((), σ3)
  else
    mgA 2 x1 σ fun v4 =>
    mpA 4 x1 v4 σ fun σ5 =>
    k10 (x1 + 1) σ5
theorem wMd_atHand_b10 {X : MC} {G : GE} {n0 : Nat} (hG : gH G = true) (C : CX X G RX12 cX12_atHand pMd_atHand 2 none n0) (htab : ∀ z ∈ X.2.2.2.2.2.2.2.2.exceptionTable.toList, False) {M : Mm} {n : Nat} (k10 : Int32 → Sg → Option (Unit × Sg)) (H10 : ∀ (x1 : Int32) (σ : Sg), JS X G 2 300 0 n0 (EM X G n0 3 300 (eS rvU M n)) (k10 x1 σ) (σ, M, n) 10 [(0, .inr (.inl (some (gM G)))), (1, .inl x1)] []) (x1 : Int32) (σ : Sg) : JS X G 2 300 0 n0 (EM X G n0 3 300 (eS rvU M n)) (fMd_atHand_b10 k10 x1 σ) (σ, M, n) 10 [(0, .inr (.inl (some (gM G)))), (1, .inl x1)] [] := by
  unfold fMd_atHand_b10
  refine s_blk C 6 2 [0, 1] (pc' := 12) (lv' := [(0, .inr (.inl (some (gM G)))), (1, .inl x1)]) (st' := [.inr (.inl (some (gM G))), .inl x1]) rfl ?_
  refine s_mF hG C 8 rfl fl_X12_157 rfl (fun v1 => ?_)
  refine s_icge C 9 rfl (fun _ => ?_) (fun _ => ?_)
  · refine s_blk C 20 1 [] (pc' := 37) (lv' := []) (st' := [.inr (.inl (some (gM G)))]) rfl ?_
    refine s_SU (CE_EM _ _ _ _ _ _) (st := []) (fun o ho => j_callV (As := []) (st := []) (b := gM G) C 21 rfl mf_Md_cuts ml_X12_160 rfl (recv_M hG C) (by decide) (by decide) (Nat.le_refl _) rfl (cMd_cuts (CX_tr C) hG σ M n o ho)) (fun v2 σ3 => ?_)
    exact s_vret C 22 rfl rfl
  refine s_blk C 10 1 [0, 1] (pc' := 19) (lv' := [(0, .inr (.inl (some (gM G)))), (1, .inl x1)]) (st' := [.inr (.inl (some (gM G)))]) rfl ?_
  refine s_mR hG C 11 rfl 4 fl_X12_13 rfl ?_
  refine s_blk C 12 2 [0, 1] (pc' := 24) (lv' := [(0, .inr (.inl (some (gM G)))), (1, .inl x1)]) (st' := [.inr (.inl (some (gM G))), .inl x1, .inr (.inl (some (gA G 4)))]) rfl ?_
  refine s_mR hG C 14 rfl 2 fl_X12_7 rfl ?_
  refine s_blk C 15 1 [0, 1] (pc' := 28) (lv' := [(0, .inr (.inl (some (gM G)))), (1, .inl x1)]) (st' := [.inl x1, .inr (.inl (some (gA G 2))), .inl x1, .inr (.inl (some (gA G 4)))]) rfl ?_
  refine s_mldI hG C 16 rfl rfl rfl (fun v4 => ?_)
  refine s_mstI hG C 17 rfl rfl rfl (fun σ5 _ => ?_)
  refine s_blk C 18 2 [0, 1] (pc' := 10) (lv' := [(0, .inr (.inl (some (gM G)))), (1, .inl (x1 + 1))]) (st' := []) rfl ?_
  exact H10 _ _
def fMd_atHand_l10 (fu : Nat) : Int32 → Sg → Option (Unit × Sg) := Nat.rec (fun x1 σ => none) (fun _ k => fMd_atHand_b10 k) fu
theorem wMd_atHand_l10 {X : MC} {G : GE} {n0 : Nat} (hG : gH G = true) (C : CX X G RX12 cX12_atHand pMd_atHand 2 none n0) (htab : ∀ z ∈ X.2.2.2.2.2.2.2.2.exceptionTable.toList, False) {M : Mm} {n : Nat} : ∀ (fu : Nat) (x1 : Int32) (σ : Sg), JS X G 2 300 0 n0 (EM X G n0 3 300 (eS rvU M n)) (fMd_atHand_l10 fu x1 σ) (σ, M, n) 10 [(0, .inr (.inl (some (gM G)))), (1, .inl x1)] [] := by
  intro fu
  induction fu with
  | zero => intro x1 σ; exact s_none
  | succ fu ih => intro x1 σ; exact wMd_atHand_b10 hG C htab (fMd_atHand_l10 fu) ih _ _
def fMd_atHand (σ : Sg) : Option (Unit × Sg) :=
  mgF 1 σ fun v1 =>
  mpF 3 v1 σ fun σ2 =>
  fMd_atHand_l10 FU 0 σ2
theorem wMd_atHand {X : MC} {G : GE} {n0 : Nat} (hG : gH G = true) (C : CX X G RX12 cX12_atHand pMd_atHand 2 none n0) (htab : ∀ z ∈ X.2.2.2.2.2.2.2.2.exceptionTable.toList, False) {M : Mm} {n : Nat} (σ : Sg) : JS X G 2 300 0 n0 (EM X G n0 3 300 (eS rvU M n)) (fMd_atHand σ) (σ, M, n) 0 [(0, .inr (.inl (some (gM G))))] [] := by
  unfold fMd_atHand
  refine s_blk C 0 2 [0] (pc' := 2) (lv' := [(0, .inr (.inl (some (gM G))))]) (st' := [.inr (.inl (some (gM G))), .inr (.inl (some (gM G)))]) rfl ?_
  refine s_mF hG C 2 rfl fl_X12_147 rfl (fun v1 => ?_)
  refine s_mpF hG C 3 rfl fl_X12_157 fp_X12_13_3 rfl (fun σ2 _ => ?_)
  refine s_blk C 4 2 [0, 1] (pc' := 10) (lv' := [(0, .inr (.inl (some (gM G)))), (1, .inl 0)]) (st' := []) rfl ?_
  exact wMd_atHand_l10 hG C htab FU _ _
theorem cMd_atHand {l : Launch} {G : GE} (htr : l.stackTraces = false) (hG : gH G = true) (σ : Sg) (M : Mm) (n : Nat) : ∀ o, fMd_atHand σ = some o → MetX l G yX12_atHand cX12_atHand 2 none 3 300 [.inr (.inl (some (gM G)))] (σ, M, n) ((eS rvU M n) o) :=
  c_ofX (by decide) kMd_atHand htr rfl rfl fun X _ _ C htab => wMd_atHand hG C htab _
def pMd_behind : List BR := [(0, .aload_n 0, 1, 0, 1), (1, .iload_n 1, 1, 0, 2), (2, .invokestatic 225, 3, 0, 5), (5, .ifCond .eq (7), 3, 0, 12), (8, .iconst 0, 1, 0, 9), (9, .goto (4), 3, 0, 13), (12, .iconst 1, 1, 1, 13), (13, .invokevirtual 150, 3, 0, 16), (16, .ifCond .eq (12), 3, 0, 28), (19, .aload_n 0, 1, 0, 20), (20, .getfield 98, 3, 0, 23), (23, .iload_n 1, 1, 0, 24), (24, .iaload, 1, 0, 25), (25, .goto (4), 3, 0, 29), (28, .iconst 0, 1, 0, 29), (29, .ireturn, 1, 0, 30)]
theorem kMd_behind : bOK cX12_behind 2 pMd_behind = true := by decide +kernel
def fMd_behind_j13 (x1 : Int32) (s0 : Int32) (σ : Sg) : Option (Int32 × Sg) :=
  bdW (fMd_holds s0 σ) fun v1 σ2 =>
  if v1 = 0 then
    some (0, σ2)
  else
    mgA 36 x1 σ2 fun v3 =>
    some (v3, σ2)
theorem wMd_behind_j13 {X : MC} {G : GE} {n0 : Nat} (hG : gH G = true) (C : CX X G RX12 cX12_behind pMd_behind 2 (some .int) n0) (htab : ∀ z ∈ X.2.2.2.2.2.2.2.2.exceptionTable.toList, False) {M : Mm} {n : Nat} (x1 : Int32) (s0 : Int32) (σ : Sg) : JS X G 2 300 0 n0 (EM X G n0 4 300 (eS rvI M n)) (fMd_behind_j13 x1 s0 σ) (σ, M, n) 13 [(0, .inr (.inl (some (gM G)))), (1, .inl x1)] [.inl s0, .inr (.inl (some (gM G)))] := by
  unfold fMd_behind_j13
  refine s_SI (CE_EM _ _ _ _ _ _) (st := []) (fun o ho => j_callV (As := [.inl s0]) (st := []) (b := gM G) C 7 rfl mf_Md_holds ml_X12_150 rfl (recv_M hG C) (by decide) (by decide) (Nat.le_refl _) rfl (cMd_holds (CX_tr C) hG σ M n s0 o ho)) (fun v1 σ2 => ?_)
  refine s_ieq C 8 rfl (fun _ => ?_) (fun _ => ?_)
  · refine s_blk C 14 1 [] (pc' := 29) (lv' := []) (st' := [.inl 0]) rfl ?_
    exact s_iret C 15 rfl rfl
  refine s_blk C 9 1 [1] (pc' := 20) (lv' := [(1, .inl x1)]) (st' := [.inr (.inl (some (gM G)))]) rfl ?_
  refine s_mR hG C 10 rfl 36 fl_X12_98 rfl ?_
  refine s_blk C 11 1 [] (pc' := 24) (lv' := []) (st' := [.inl x1, .inr (.inl (some (gA G 36)))]) rfl ?_
  refine s_mldI hG C 12 rfl rfl rfl (fun v3 => ?_)
  refine s_blk C 13 1 [] (pc' := 29) (lv' := []) (st' := [.inl v3]) rfl ?_
  exact s_iret C 15 rfl rfl
def fMd_behind (x1 : Int32) (σ : Sg) : Option (Int32 × Sg) :=
  bdR (fMd_isRegion x1) fun v1 =>
  if v1 = 0 then
    fMd_behind_j13 x1 1 σ
  else
    fMd_behind_j13 x1 0 σ
theorem wMd_behind {X : MC} {G : GE} {n0 : Nat} (hG : gH G = true) (C : CX X G RX12 cX12_behind pMd_behind 2 (some .int) n0) (htab : ∀ z ∈ X.2.2.2.2.2.2.2.2.exceptionTable.toList, False) {M : Mm} {n : Nat} (x1 : Int32) (σ : Sg) : JS X G 2 300 0 n0 (EM X G n0 4 300 (eS rvI M n)) (fMd_behind x1 σ) (σ, M, n) 0 [(0, .inr (.inl (some (gM G)))), (1, .inl x1)] [] := by
  unfold fMd_behind
  refine s_blk C 0 2 [0, 1] (pc' := 2) (lv' := [(0, .inr (.inl (some (gM G)))), (1, .inl x1)]) (st' := [.inl x1, .inr (.inl (some (gM G)))]) rfl ?_
  refine s_RI (CE_EM _ _ _ _ _ _) (st := [.inr (.inl (some (gM G)))]) (fun o ho => j_callS (As := [.inl x1]) (st := [.inr (.inl (some (gM G)))]) C 2 rfl mf_Md_isRegion ml_X12_225 rfl (by decide) (by decide) (Nat.le_refl _) rfl (cMd_isRegion (CX_tr C) hG σ M n x1 o ho)) (fun v1 => ?_)
  refine s_ieq C 3 rfl (fun _ => ?_) (fun _ => ?_)
  · refine s_blk C 6 1 [0, 1] (pc' := 13) (lv' := [(0, .inr (.inl (some (gM G)))), (1, .inl x1)]) (st' := [.inl 1, .inr (.inl (some (gM G)))]) rfl ?_
    exact wMd_behind_j13 hG C htab _ _ _
  refine s_blk C 4 2 [0, 1] (pc' := 13) (lv' := [(0, .inr (.inl (some (gM G)))), (1, .inl x1)]) (st' := [.inl 0, .inr (.inl (some (gM G)))]) rfl ?_
  exact wMd_behind_j13 hG C htab _ _ _
theorem cMd_behind {l : Launch} {G : GE} (htr : l.stackTraces = false) (hG : gH G = true) (σ : Sg) (M : Mm) (n : Nat) (x1 : Int32) : ∀ o, fMd_behind x1 σ = some o → MetX l G yX12_behind cX12_behind 2 (some .int) 4 300 [.inr (.inl (some (gM G))), .inl x1] (σ, M, n) ((eS rvI M n) o) :=
  c_ofX (by decide) kMd_behind htr rfl rfl fun X _ _ C htab => wMd_behind hG C htab x1 _
def pMd_clear : List BR := [(0, .aload_n 0, 1, 0, 1), (1, .iconst 0, 1, 0, 2), (2, .putfield 128, 3, 0, 5), (5, .aload_n 0, 1, 0, 6), (6, .getfield 147, 3, 0, 9), (9, .istore_n 1, 1, 0, 10), (10, .aload_n 0, 1, 0, 11), (11, .iconst 0, 1, 0, 12), (12, .putfield 147, 3, 0, 15), (15, .iload_n 1, 1, 0, 16), (16, .ireturn, 1, 0, 17)]
theorem kMd_clear : bOK cX12_clear 2 pMd_clear = true := by decide +kernel
def fMd_clear (σ : Sg) : Option (Int32 × Sg) :=
  mpF 0 0 σ fun σ1 =>
  mgF 1 σ1 fun v2 =>
  mpF 1 0 σ1 fun σ3 =>
  some (v2, σ3)
theorem wMd_clear {X : MC} {G : GE} {n0 : Nat} (hG : gH G = true) (C : CX X G RX12 cX12_clear pMd_clear 2 (some .int) n0) (htab : ∀ z ∈ X.2.2.2.2.2.2.2.2.exceptionTable.toList, False) {M : Mm} {n : Nat} (σ : Sg) : JS X G 2 300 0 n0 (EM X G n0 2 300 (eS rvI M n)) (fMd_clear σ) (σ, M, n) 0 [(0, .inr (.inl (some (gM G))))] [] := by
  unfold fMd_clear
  refine s_blk C 0 2 [0] (pc' := 2) (lv' := [(0, .inr (.inl (some (gM G))))]) (st' := [.inl 0, .inr (.inl (some (gM G)))]) rfl ?_
  refine s_mpF hG C 2 rfl fl_X12_128 fp_X12_13_0 rfl (fun σ1 _ => ?_)
  refine s_blk C 3 1 [0] (pc' := 6) (lv' := [(0, .inr (.inl (some (gM G))))]) (st' := [.inr (.inl (some (gM G)))]) rfl ?_
  refine s_mF hG C 4 rfl fl_X12_147 rfl (fun v2 => ?_)
  refine s_blk C 5 3 [1] (pc' := 12) (lv' := [(1, .inl v2)]) (st' := [.inl 0, .inr (.inl (some (gM G)))]) rfl ?_
  refine s_mpF hG C 8 rfl fl_X12_147 fp_X12_13_1 rfl (fun σ3 _ => ?_)
  refine s_blk C 9 1 [] (pc' := 16) (lv' := []) (st' := [.inl v2]) rfl ?_
  exact s_iret C 10 rfl rfl
theorem cMd_clear {l : Launch} {G : GE} (htr : l.stackTraces = false) (hG : gH G = true) (σ : Sg) (M : Mm) (n : Nat) : ∀ o, fMd_clear σ = some o → MetX l G yX12_clear cX12_clear 2 (some .int) 2 300 [.inr (.inl (some (gM G)))] (σ, M, n) ((eS rvI M n) o) :=
  c_ofX (by decide) kMd_clear htr rfl rfl fun X _ _ C htab => wMd_clear hG C htab _
def pMd_weigh : List BR := [(0, .bipush 7, 2, 7, 2), (2, .iload_n 0, 1, 0, 3), (3, .imul, 1, 0, 4), (4, .bipush 13, 2, 13, 6), (6, .iload_n 1, 1, 0, 7), (7, .imul, 1, 0, 8), (8, .iadd, 1, 0, 9), (9, .iconst 5, 1, 5, 10), (10, .iload_n 0, 1, 0, 11), (11, .imul, 1, 0, 12), (12, .iload_n 1, 1, 0, 13), (13, .imul, 1, 0, 14), (14, .iadd, 1, 0, 15), (15, .bipush 31, 2, 31, 17), (17, .irem, 1, 0, 18), (18, .ireturn, 1, 0, 19)]
theorem kMd_weigh : bOK cX12_weigh 2 pMd_weigh = true := by decide +kernel
def fMd_weigh (x0 : Int32) (x1 : Int32) : Option (Int32) :=
  some ((((7 * x0) + (13 * x1)) + ((5 * x0) * x1)) - (((7 * x0) + (13 * x1)) + ((5 * x0) * x1)) / 31 * 31)
theorem wMd_weigh {X : MC} {G : GE} {n0 : Nat} (hG : gH G = true) (C : CX X G RX12 cX12_weigh pMd_weigh 2 (some .int) n0) (htab : ∀ z ∈ X.2.2.2.2.2.2.2.2.exceptionTable.toList, False) {σ : Sg} {M : Mm} {n : Nat} (x0 : Int32) (x1 : Int32) : JS X G 2 300 0 n0 (EM X G n0 2 300 (eR rvI σ M n)) (fMd_weigh x0 x1) (σ, M, n) 0 [(0, .inl x0), (1, .inl x1)] [] := by
  unfold fMd_weigh
  refine s_blk C 0 14 [] (pc' := 17) (lv' := []) (st' := [.inl 31, .inl (((7 * x0) + (13 * x1)) + ((5 * x0) * x1))]) rfl ?_
  refine s_irem C 14 rfl (by decide) ?_
  exact s_iret C 15 rfl rfl
theorem cMd_weigh {l : Launch} {G : GE} (htr : l.stackTraces = false) (hG : gH G = true) (σ : Sg) (M : Mm) (n : Nat) (x0 : Int32) (x1 : Int32) : ∀ o, fMd_weigh x0 x1 = some o → MetX l G yX12_weigh cX12_weigh 2 (some .int) 2 300 [.inl x0, .inl x1] (σ, M, n) ((eR rvI σ M n) o) :=
  c_ofX (by decide) kMd_weigh htr rfl rfl fun X _ _ C htab => wMd_weigh hG C htab x0 x1

def pMd_put_0 : List BR := [(0, .iload_n 1, 1, 0, 1), (1, .invokestatic 225, 3, 0, 4), (4, .istore 4, 2, 0, 6), (6, .iload_n 2, 1, 0, 7), (7, .invokestatic 228, 3, 0, 10), (10, .ifCond .eq (12), 3, 0, 22), (13, .iload_n 3, 1, 0, 14), (14, .iconst (-1), 1, -1, 15), (15, .if_icmp .lt (7), 3, 0, 22), (18, .iconst 1, 1, 1, 19), (19, .goto (4), 3, 0, 23), (22, .iconst 0, 1, 0, 23), (23, .istore 5, 2, 0, 25), (25, .iload 4, 2, 0, 27), (27, .ifCond .eq (17), 3, 0, 44), (30, .iload 5, 2, 0, 32), (32, .ifCond .eq (12), 3, 0, 44), (35, .aload_n 0, 1, 0, 36), (36, .iload_n 1, 1, 0, 37), (37, .iload_n 2, 1, 0, 38), (38, .invokevirtual 247, 3, 0, 41), (41, .goto (4), 3, 0, 45), (44, .iconst (-1), 1, -1, 45), (45, .istore 6, 2, 0, 47), (47, .iload_n 3, 1, 0, 48), (48, .iconst (-1), 1, -1, 49), (49, .if_icmp .eq (42), 3, 0, 91), (52, .iload_n 3, 1, 0, 53), (53, .ifCond .ne (21), 3, 0, 74), (56, .iload 6, 2, 0, 58), (58, .iconst (-1), 1, -1, 59), (59, .if_icmp .eq (32), 3, 0, 91), (62, .aload_n 0, 1, 0, 63), (63, .iload 6, 2, 0, 65), (65, .invokevirtual 250, 3, 0, 68), (68, .ifCond .eq (27), 3, 0, 95), (71, .goto (20), 3, 0, 91), (74, .iload 6, 2, 0, 76), (76, .iconst (-1), 1, -1, 77), (77, .if_icmp .eq (18), 3, 0, 95)]
theorem kMd_put_0 : bOK cX12_put 8 pMd_put_0 = true := by decide +kernel
def pMd_put_1 : List BR := [(80, .aload_n 0, 1, 0, 81), (81, .getfield 71, 3, 0, 84), (84, .iload 6, 2, 0, 86), (86, .iaload, 1, 0, 87), (87, .iload_n 3, 1, 0, 88), (88, .if_icmp .ne (7), 3, 0, 95), (91, .iconst 1, 1, 1, 92), (92, .goto (4), 3, 0, 96), (95, .iconst 0, 1, 0, 96), (96, .istore 7, 2, 0, 98), (98, .aload_n 0, 1, 0, 99), (99, .invokevirtual 253, 3, 0, 102), (102, .aload_n 0, 1, 0, 103), (103, .iload 4, 2, 0, 105), (105, .ifCond .ne (7), 3, 0, 112), (108, .iconst 1, 1, 1, 109), (109, .goto (37), 3, 0, 146), (112, .iload 5, 2, 0, 114), (114, .ifCond .ne (7), 3, 0, 121), (117, .iconst 2, 1, 2, 118), (118, .goto (28), 3, 0, 146), (121, .aload_n 0, 1, 0, 122), (122, .getfield 147, 3, 0, 125), (125, .ifCond .eq (16), 3, 0, 141), (128, .iload 7, 2, 0, 130), (130, .ifCond .eq (15), 3, 0, 145), (133, .aload_n 0, 1, 0, 134), (134, .iload_n 1, 1, 0, 135), (135, .invokevirtual 256, 3, 0, 138), (138, .ifCond .eq (7), 3, 0, 145), (141, .iconst 3, 1, 3, 142), (142, .goto (4), 3, 0, 146), (145, .iconst 0, 1, 0, 146), (146, .invokevirtual 150, 3, 0, 149), (149, .ifCond .ne (5), 3, 0, 154), (152, .iconst 0, 1, 0, 153), (153, .ireturn, 1, 0, 154), (154, .iload 7, 2, 0, 156), (156, .ifCond .ne (5), 3, 0, 161), (159, .iconst 0, 1, 0, 160)]
theorem kMd_put_1 : bOK cX12_put 8 pMd_put_1 = true := by decide +kernel
def pMd_put_2 : List BR := [(160, .ireturn, 1, 0, 161), (161, .aload_n 0, 1, 0, 162), (162, .iconst 0, 1, 0, 163), (163, .putfield 147, 3, 0, 166), (166, .aload_n 0, 1, 0, 167), (167, .iload_n 1, 1, 0, 168), (168, .iload_n 2, 1, 0, 169), (169, .invokevirtual 259, 3, 0, 172), (172, .ireturn, 1, 0, 173)]
theorem kMd_put_2 : bOK cX12_put 8 pMd_put_2 = true := by decide +kernel
def pMd_put : List BR := (pMd_put_0 ++ (pMd_put_1 ++ pMd_put_2))
theorem kMd_put : bOK cX12_put 8 pMd_put = true := (bOK_app kMd_put_0 (bOK_app kMd_put_1 kMd_put_2))
def fMd_put_j146 (x1 : Int32) (x2 : Int32) (x7 : Int32) (s0 : Int32) (σ : Sg) : Option (Int32 × Sg) :=
  bdW (fMd_holds s0 σ) fun v1 σ2 =>
  if v1 = 0 then
    some (0, σ2)
  else
    if x7 = 0 then
      some (0, σ2)
    else
      mpF 1 0 σ2 fun σ3 =>
      bdW (fMd_puts x1 x2 σ3) fun v4 σ5 =>
      some (v4, σ5)
theorem wMd_put_j146 {X : MC} {G : GE} {n0 : Nat} (hG : gH G = true) (C : CX X G RX12 cX12_put pMd_put 8 (some .int) n0) (htab : ∀ z ∈ X.2.2.2.2.2.2.2.2.exceptionTable.toList, False) {M : Mm} {n : Nat} (x1 : Int32) (x2 : Int32) (x7 : Int32) (s0 : Int32) (σ : Sg) : JS X G 8 300 0 n0 (EM X G n0 9 300 (eS rvI M n)) (fMd_put_j146 x1 x2 x7 s0 σ) (σ, M, n) 146 [(0, .inr (.inl (some (gM G)))), (1, .inl x1), (2, .inl x2), (7, .inl x7)] [.inl s0, .inr (.inl (some (gM G)))] := by
  unfold fMd_put_j146
  refine s_SI (CE_EM _ _ _ _ _ _) (st := []) (fun o ho => j_callV (As := [.inl s0]) (st := []) (b := gM G) C 73 rfl mf_Md_holds ml_X12_150 rfl (recv_M hG C) (by decide) (by decide) (Nat.le_refl _) rfl (cMd_holds (CX_tr C) hG σ M n s0 o ho)) (fun v1 σ2 => ?_)
  refine s_ine C 74 rfl (fun _ => ?_) (fun _ => ?_)
  · refine s_blk C 75 1 [] (pc' := 153) (lv' := []) (st' := [.inl 0]) rfl ?_
    exact s_iret C 76 rfl rfl
  refine s_blk C 77 1 [0, 1, 2] (pc' := 156) (lv' := [(0, .inr (.inl (some (gM G)))), (1, .inl x1), (2, .inl x2)]) (st' := [.inl x7]) rfl ?_
  refine s_ine C 78 rfl (fun _ => ?_) (fun _ => ?_)
  · refine s_blk C 79 1 [] (pc' := 160) (lv' := []) (st' := [.inl 0]) rfl ?_
    exact s_iret C 80 rfl rfl
  refine s_blk C 81 2 [0, 1, 2] (pc' := 163) (lv' := [(0, .inr (.inl (some (gM G)))), (1, .inl x1), (2, .inl x2)]) (st' := [.inl 0, .inr (.inl (some (gM G)))]) rfl ?_
  refine s_mpF hG C 83 rfl fl_X12_147 fp_X12_13_1 rfl (fun σ3 _ => ?_)
  refine s_blk C 84 3 [] (pc' := 169) (lv' := []) (st' := [.inl x2, .inl x1, .inr (.inl (some (gM G)))]) rfl ?_
  refine s_SI (CE_EM _ _ _ _ _ _) (st := []) (fun o ho => j_callV (As := [.inl x1, .inl x2]) (st := []) (b := gM G) C 87 rfl mf_Md_puts ml_X12_259 rfl (recv_M hG C) (by decide) (by decide) (Nat.le_refl _) rfl (cMd_puts (CX_tr C) hG σ3 M n x1 x2 o ho)) (fun v4 σ5 => ?_)
  exact s_iret C 88 rfl rfl
def fMd_put_j141 (x1 : Int32) (x2 : Int32) (x7 : Int32) (σ : Sg) : Option (Int32 × Sg) :=
  fMd_put_j146 x1 x2 x7 3 σ
theorem wMd_put_j141 {X : MC} {G : GE} {n0 : Nat} (hG : gH G = true) (C : CX X G RX12 cX12_put pMd_put 8 (some .int) n0) (htab : ∀ z ∈ X.2.2.2.2.2.2.2.2.exceptionTable.toList, False) {M : Mm} {n : Nat} (x1 : Int32) (x2 : Int32) (x7 : Int32) (σ : Sg) : JS X G 8 300 0 n0 (EM X G n0 9 300 (eS rvI M n)) (fMd_put_j141 x1 x2 x7 σ) (σ, M, n) 141 [(0, .inr (.inl (some (gM G)))), (1, .inl x1), (2, .inl x2), (7, .inl x7)] [.inr (.inl (some (gM G)))] := by
  unfold fMd_put_j141
  refine s_blk C 70 2 [0, 1, 2, 7] (pc' := 146) (lv' := [(0, .inr (.inl (some (gM G)))), (1, .inl x1), (2, .inl x2), (7, .inl x7)]) (st' := [.inl 3, .inr (.inl (some (gM G)))]) rfl ?_
  exact wMd_put_j146 hG C htab _ _ _ _ _
def fMd_put_j145 (x1 : Int32) (x2 : Int32) (x7 : Int32) (σ : Sg) : Option (Int32 × Sg) :=
  fMd_put_j146 x1 x2 x7 0 σ
theorem wMd_put_j145 {X : MC} {G : GE} {n0 : Nat} (hG : gH G = true) (C : CX X G RX12 cX12_put pMd_put 8 (some .int) n0) (htab : ∀ z ∈ X.2.2.2.2.2.2.2.2.exceptionTable.toList, False) {M : Mm} {n : Nat} (x1 : Int32) (x2 : Int32) (x7 : Int32) (σ : Sg) : JS X G 8 300 0 n0 (EM X G n0 9 300 (eS rvI M n)) (fMd_put_j145 x1 x2 x7 σ) (σ, M, n) 145 [(0, .inr (.inl (some (gM G)))), (1, .inl x1), (2, .inl x2), (7, .inl x7)] [.inr (.inl (some (gM G)))] := by
  unfold fMd_put_j145
  refine s_blk C 72 1 [0, 1, 2, 7] (pc' := 146) (lv' := [(0, .inr (.inl (some (gM G)))), (1, .inl x1), (2, .inl x2), (7, .inl x7)]) (st' := [.inl 0, .inr (.inl (some (gM G)))]) rfl ?_
  exact wMd_put_j146 hG C htab _ _ _ _ _
def fMd_put_j96 (x1 : Int32) (x2 : Int32) (x4 : Int32) (x5 : Int32) (s0 : Int32) (σ : Sg) : Option (Int32 × Sg) :=
  bdW (fMd_atHand σ) fun v1 σ2 =>
  if x4 = 0 then
    fMd_put_j146 x1 x2 s0 1 σ2
  else
    if x5 = 0 then
      fMd_put_j146 x1 x2 s0 2 σ2
    else
      mgF 1 σ2 fun v3 =>
      if v3 = 0 then
        fMd_put_j141 x1 x2 s0 σ2
      else
        if s0 = 0 then
          fMd_put_j145 x1 x2 s0 σ2
        else
          bdR (fMd_isFull x1 σ2) fun v4 =>
          if v4 = 0 then
            fMd_put_j145 x1 x2 s0 σ2
          else
            fMd_put_j141 x1 x2 s0 σ2
theorem wMd_put_j96 {X : MC} {G : GE} {n0 : Nat} (hG : gH G = true) (C : CX X G RX12 cX12_put pMd_put 8 (some .int) n0) (htab : ∀ z ∈ X.2.2.2.2.2.2.2.2.exceptionTable.toList, False) {M : Mm} {n : Nat} (x1 : Int32) (x2 : Int32) (x4 : Int32) (x5 : Int32) (s0 : Int32) (σ : Sg) : JS X G 8 300 0 n0 (EM X G n0 9 300 (eS rvI M n)) (fMd_put_j96 x1 x2 x4 x5 s0 σ) (σ, M, n) 96 [(0, .inr (.inl (some (gM G)))), (1, .inl x1), (2, .inl x2), (4, .inl x4), (5, .inl x5)] [.inl s0] := by
  unfold fMd_put_j96
  refine s_blk C 49 2 [0, 1, 2, 4, 5, 7] (pc' := 99) (lv' := [(0, .inr (.inl (some (gM G)))), (1, .inl x1), (2, .inl x2), (4, .inl x4), (5, .inl x5), (7, .inl s0)]) (st' := [.inr (.inl (some (gM G)))]) rfl ?_
  refine s_SU (CE_EM _ _ _ _ _ _) (st := []) (fun o ho => j_callV (As := []) (st := []) (b := gM G) C 51 rfl mf_Md_atHand ml_X12_253 rfl (recv_M hG C) (by decide) (by decide) (Nat.le_refl _) rfl (cMd_atHand (CX_tr C) hG σ M n o ho)) (fun v1 σ2 => ?_)
  refine s_blk C 52 2 [0, 1, 2, 5, 7] (pc' := 105) (lv' := [(0, .inr (.inl (some (gM G)))), (1, .inl x1), (2, .inl x2), (5, .inl x5), (7, .inl s0)]) (st' := [.inl x4, .inr (.inl (some (gM G)))]) rfl ?_
  refine s_ine C 54 rfl (fun _ => ?_) (fun _ => ?_)
  · refine s_blk C 55 2 [0, 1, 2, 7] (pc' := 146) (lv' := [(0, .inr (.inl (some (gM G)))), (1, .inl x1), (2, .inl x2), (7, .inl s0)]) (st' := [.inl 1, .inr (.inl (some (gM G)))]) rfl ?_
    exact wMd_put_j146 hG C htab _ _ _ _ _
  refine s_blk C 57 1 [0, 1, 2, 7] (pc' := 114) (lv' := [(0, .inr (.inl (some (gM G)))), (1, .inl x1), (2, .inl x2), (7, .inl s0)]) (st' := [.inl x5, .inr (.inl (some (gM G)))]) rfl ?_
  refine s_ine C 58 rfl (fun _ => ?_) (fun _ => ?_)
  · refine s_blk C 59 2 [0, 1, 2, 7] (pc' := 146) (lv' := [(0, .inr (.inl (some (gM G)))), (1, .inl x1), (2, .inl x2), (7, .inl s0)]) (st' := [.inl 2, .inr (.inl (some (gM G)))]) rfl ?_
    exact wMd_put_j146 hG C htab _ _ _ _ _
  refine s_blk C 61 1 [0, 1, 2, 7] (pc' := 122) (lv' := [(0, .inr (.inl (some (gM G)))), (1, .inl x1), (2, .inl x2), (7, .inl s0)]) (st' := [.inr (.inl (some (gM G))), .inr (.inl (some (gM G)))]) rfl ?_
  refine s_mF hG C 62 rfl fl_X12_147 rfl (fun v3 => ?_)
  refine s_ieq C 63 rfl (fun _ => ?_) (fun _ => ?_)
  · exact wMd_put_j141 hG C htab _ _ _ _
  refine s_blk C 64 1 [0, 1, 2, 7] (pc' := 130) (lv' := [(0, .inr (.inl (some (gM G)))), (1, .inl x1), (2, .inl x2), (7, .inl s0)]) (st' := [.inl s0, .inr (.inl (some (gM G)))]) rfl ?_
  refine s_ieq C 65 rfl (fun _ => ?_) (fun _ => ?_)
  · exact wMd_put_j145 hG C htab _ _ _ _
  refine s_blk C 66 2 [0, 1, 2, 7] (pc' := 135) (lv' := [(0, .inr (.inl (some (gM G)))), (1, .inl x1), (2, .inl x2), (7, .inl s0)]) (st' := [.inl x1, .inr (.inl (some (gM G))), .inr (.inl (some (gM G)))]) rfl ?_
  refine s_RI (CE_EM _ _ _ _ _ _) (st := [.inr (.inl (some (gM G)))]) (fun o ho => j_callV (As := [.inl x1]) (st := [.inr (.inl (some (gM G)))]) (b := gM G) C 68 rfl mf_Md_isFull ml_X12_256 rfl (recv_M hG C) (by decide) (by decide) (Nat.le_refl _) rfl (cMd_isFull (CX_tr C) hG σ2 M n x1 o ho)) (fun v4 => ?_)
  refine s_ieq C 69 rfl (fun _ => ?_) (fun _ => ?_)
  · exact wMd_put_j145 hG C htab _ _ _ _
  exact wMd_put_j141 hG C htab _ _ _ _
def fMd_put_j91 (x1 : Int32) (x2 : Int32) (x4 : Int32) (x5 : Int32) (σ : Sg) : Option (Int32 × Sg) :=
  fMd_put_j96 x1 x2 x4 x5 1 σ
theorem wMd_put_j91 {X : MC} {G : GE} {n0 : Nat} (hG : gH G = true) (C : CX X G RX12 cX12_put pMd_put 8 (some .int) n0) (htab : ∀ z ∈ X.2.2.2.2.2.2.2.2.exceptionTable.toList, False) {M : Mm} {n : Nat} (x1 : Int32) (x2 : Int32) (x4 : Int32) (x5 : Int32) (σ : Sg) : JS X G 8 300 0 n0 (EM X G n0 9 300 (eS rvI M n)) (fMd_put_j91 x1 x2 x4 x5 σ) (σ, M, n) 91 [(0, .inr (.inl (some (gM G)))), (1, .inl x1), (2, .inl x2), (4, .inl x4), (5, .inl x5)] [] := by
  unfold fMd_put_j91
  refine s_blk C 46 2 [0, 1, 2, 4, 5] (pc' := 96) (lv' := [(0, .inr (.inl (some (gM G)))), (1, .inl x1), (2, .inl x2), (4, .inl x4), (5, .inl x5)]) (st' := [.inl 1]) rfl ?_
  exact wMd_put_j96 hG C htab _ _ _ _ _ _
def fMd_put_j95 (x1 : Int32) (x2 : Int32) (x4 : Int32) (x5 : Int32) (σ : Sg) : Option (Int32 × Sg) :=
  fMd_put_j96 x1 x2 x4 x5 0 σ
theorem wMd_put_j95 {X : MC} {G : GE} {n0 : Nat} (hG : gH G = true) (C : CX X G RX12 cX12_put pMd_put 8 (some .int) n0) (htab : ∀ z ∈ X.2.2.2.2.2.2.2.2.exceptionTable.toList, False) {M : Mm} {n : Nat} (x1 : Int32) (x2 : Int32) (x4 : Int32) (x5 : Int32) (σ : Sg) : JS X G 8 300 0 n0 (EM X G n0 9 300 (eS rvI M n)) (fMd_put_j95 x1 x2 x4 x5 σ) (σ, M, n) 95 [(0, .inr (.inl (some (gM G)))), (1, .inl x1), (2, .inl x2), (4, .inl x4), (5, .inl x5)] [] := by
  unfold fMd_put_j95
  refine s_blk C 48 1 [0, 1, 2, 4, 5] (pc' := 96) (lv' := [(0, .inr (.inl (some (gM G)))), (1, .inl x1), (2, .inl x2), (4, .inl x4), (5, .inl x5)]) (st' := [.inl 0]) rfl ?_
  exact wMd_put_j96 hG C htab _ _ _ _ _ _
def fMd_put_j45 (x1 : Int32) (x2 : Int32) (x3 : Int32) (x4 : Int32) (x5 : Int32) (s0 : Int32) (σ : Sg) : Option (Int32 × Sg) :=
  if x3 = (-1) then
    fMd_put_j91 x1 x2 x4 x5 σ
  else
    if x3 = 0 then
      if s0 = (-1) then
        fMd_put_j91 x1 x2 x4 x5 σ
      else
        bdR (fMd_isMark s0 σ) fun v1 =>
        if v1 = 0 then
          fMd_put_j95 x1 x2 x4 x5 σ
        else
          fMd_put_j91 x1 x2 x4 x5 σ
    else
      if s0 = (-1) then
        fMd_put_j95 x1 x2 x4 x5 σ
      else
        mgA 27 s0 σ fun v2 =>
        if v2 = x3 then
          fMd_put_j91 x1 x2 x4 x5 σ
        else
          fMd_put_j95 x1 x2 x4 x5 σ
theorem wMd_put_j45 {X : MC} {G : GE} {n0 : Nat} (hG : gH G = true) (C : CX X G RX12 cX12_put pMd_put 8 (some .int) n0) (htab : ∀ z ∈ X.2.2.2.2.2.2.2.2.exceptionTable.toList, False) {M : Mm} {n : Nat} (x1 : Int32) (x2 : Int32) (x3 : Int32) (x4 : Int32) (x5 : Int32) (s0 : Int32) (σ : Sg) : JS X G 8 300 0 n0 (EM X G n0 9 300 (eS rvI M n)) (fMd_put_j45 x1 x2 x3 x4 x5 s0 σ) (σ, M, n) 45 [(0, .inr (.inl (some (gM G)))), (1, .inl x1), (2, .inl x2), (3, .inl x3), (4, .inl x4), (5, .inl x5)] [.inl s0] := by
  unfold fMd_put_j45
  refine s_blk C 23 3 [0, 1, 2, 3, 4, 5, 6] (pc' := 49) (lv' := [(0, .inr (.inl (some (gM G)))), (1, .inl x1), (2, .inl x2), (3, .inl x3), (4, .inl x4), (5, .inl x5), (6, .inl s0)]) (st' := [.inl (-1), .inl x3]) rfl ?_
  refine s_iceq C 26 rfl (fun _ => ?_) (fun _ => ?_)
  · refine s_blk C 0 0 [0, 1, 2, 4, 5] (pc' := 91) (lv' := [(0, .inr (.inl (some (gM G)))), (1, .inl x1), (2, .inl x2), (4, .inl x4), (5, .inl x5)]) (st' := []) rfl ?_
    exact wMd_put_j91 hG C htab _ _ _ _ _
  refine s_blk C 27 1 [0, 1, 2, 3, 4, 5, 6] (pc' := 53) (lv' := [(0, .inr (.inl (some (gM G)))), (1, .inl x1), (2, .inl x2), (3, .inl x3), (4, .inl x4), (5, .inl x5), (6, .inl s0)]) (st' := [.inl x3]) rfl ?_
  refine s_ine C 28 rfl (fun _ => ?_) (fun _ => ?_)
  · refine s_blk C 29 2 [0, 1, 2, 4, 5, 6] (pc' := 59) (lv' := [(0, .inr (.inl (some (gM G)))), (1, .inl x1), (2, .inl x2), (4, .inl x4), (5, .inl x5), (6, .inl s0)]) (st' := [.inl (-1), .inl s0]) rfl ?_
    refine s_iceq C 31 rfl (fun _ => ?_) (fun _ => ?_)
    · refine s_blk C 0 0 [0, 1, 2, 4, 5] (pc' := 91) (lv' := [(0, .inr (.inl (some (gM G)))), (1, .inl x1), (2, .inl x2), (4, .inl x4), (5, .inl x5)]) (st' := []) rfl ?_
      exact wMd_put_j91 hG C htab _ _ _ _ _
    refine s_blk C 32 2 [0, 1, 2, 4, 5] (pc' := 65) (lv' := [(0, .inr (.inl (some (gM G)))), (1, .inl x1), (2, .inl x2), (4, .inl x4), (5, .inl x5)]) (st' := [.inl s0, .inr (.inl (some (gM G)))]) rfl ?_
    refine s_RI (CE_EM _ _ _ _ _ _) (st := []) (fun o ho => j_callV (As := [.inl s0]) (st := []) (b := gM G) C 34 rfl mf_Md_isMark ml_X12_250 rfl (recv_M hG C) (by decide) (by decide) (Nat.le_refl _) rfl (cMd_isMark (CX_tr C) hG σ M n s0 o ho)) (fun v1 => ?_)
    refine s_ieq C 35 rfl (fun _ => ?_) (fun _ => ?_)
    · exact wMd_put_j95 hG C htab _ _ _ _ _
    refine s_blk C 36 1 [0, 1, 2, 4, 5] (pc' := 91) (lv' := [(0, .inr (.inl (some (gM G)))), (1, .inl x1), (2, .inl x2), (4, .inl x4), (5, .inl x5)]) (st' := []) rfl ?_
    exact wMd_put_j91 hG C htab _ _ _ _ _
  refine s_blk C 37 2 [0, 1, 2, 3, 4, 5, 6] (pc' := 77) (lv' := [(0, .inr (.inl (some (gM G)))), (1, .inl x1), (2, .inl x2), (3, .inl x3), (4, .inl x4), (5, .inl x5), (6, .inl s0)]) (st' := [.inl (-1), .inl s0]) rfl ?_
  refine s_iceq C 39 rfl (fun _ => ?_) (fun _ => ?_)
  · refine s_blk C 0 0 [0, 1, 2, 4, 5] (pc' := 95) (lv' := [(0, .inr (.inl (some (gM G)))), (1, .inl x1), (2, .inl x2), (4, .inl x4), (5, .inl x5)]) (st' := []) rfl ?_
    exact wMd_put_j95 hG C htab _ _ _ _ _
  refine s_blk C 40 1 [0, 1, 2, 3, 4, 5, 6] (pc' := 81) (lv' := [(0, .inr (.inl (some (gM G)))), (1, .inl x1), (2, .inl x2), (3, .inl x3), (4, .inl x4), (5, .inl x5), (6, .inl s0)]) (st' := [.inr (.inl (some (gM G)))]) rfl ?_
  refine s_mR hG C 41 rfl 27 fl_X12_71 rfl ?_
  refine s_blk C 42 1 [0, 1, 2, 3, 4, 5] (pc' := 86) (lv' := [(0, .inr (.inl (some (gM G)))), (1, .inl x1), (2, .inl x2), (3, .inl x3), (4, .inl x4), (5, .inl x5)]) (st' := [.inl s0, .inr (.inl (some (gA G 27)))]) rfl ?_
  refine s_mldI hG C 43 rfl rfl rfl (fun v2 => ?_)
  refine s_blk C 44 1 [0, 1, 2, 4, 5] (pc' := 88) (lv' := [(0, .inr (.inl (some (gM G)))), (1, .inl x1), (2, .inl x2), (4, .inl x4), (5, .inl x5)]) (st' := [.inl x3, .inl v2]) rfl ?_
  refine s_icne C 45 rfl (fun _ => ?_) (fun _ => ?_)
  · exact wMd_put_j91 hG C htab _ _ _ _ _
  exact wMd_put_j95 hG C htab _ _ _ _ _
def fMd_put_j44 (x1 : Int32) (x2 : Int32) (x3 : Int32) (x4 : Int32) (x5 : Int32) (σ : Sg) : Option (Int32 × Sg) :=
  fMd_put_j45 x1 x2 x3 x4 x5 (-1) σ
theorem wMd_put_j44 {X : MC} {G : GE} {n0 : Nat} (hG : gH G = true) (C : CX X G RX12 cX12_put pMd_put 8 (some .int) n0) (htab : ∀ z ∈ X.2.2.2.2.2.2.2.2.exceptionTable.toList, False) {M : Mm} {n : Nat} (x1 : Int32) (x2 : Int32) (x3 : Int32) (x4 : Int32) (x5 : Int32) (σ : Sg) : JS X G 8 300 0 n0 (EM X G n0 9 300 (eS rvI M n)) (fMd_put_j44 x1 x2 x3 x4 x5 σ) (σ, M, n) 44 [(0, .inr (.inl (some (gM G)))), (1, .inl x1), (2, .inl x2), (3, .inl x3), (4, .inl x4), (5, .inl x5)] [] := by
  unfold fMd_put_j44
  refine s_blk C 22 1 [0, 1, 2, 3, 4, 5] (pc' := 45) (lv' := [(0, .inr (.inl (some (gM G)))), (1, .inl x1), (2, .inl x2), (3, .inl x3), (4, .inl x4), (5, .inl x5)]) (st' := [.inl (-1)]) rfl ?_
  exact wMd_put_j45 hG C htab _ _ _ _ _ _ _
def fMd_put_j23 (x1 : Int32) (x2 : Int32) (x3 : Int32) (x4 : Int32) (s0 : Int32) (σ : Sg) : Option (Int32 × Sg) :=
  if x4 = 0 then
    fMd_put_j44 x1 x2 x3 x4 s0 σ
  else
    if s0 = 0 then
      fMd_put_j44 x1 x2 x3 x4 s0 σ
    else
      bdR (fMd_latest x1 x2 σ) fun v1 =>
      fMd_put_j45 x1 x2 x3 x4 s0 v1 σ
theorem wMd_put_j23 {X : MC} {G : GE} {n0 : Nat} (hG : gH G = true) (C : CX X G RX12 cX12_put pMd_put 8 (some .int) n0) (htab : ∀ z ∈ X.2.2.2.2.2.2.2.2.exceptionTable.toList, False) {M : Mm} {n : Nat} (x1 : Int32) (x2 : Int32) (x3 : Int32) (x4 : Int32) (s0 : Int32) (σ : Sg) : JS X G 8 300 0 n0 (EM X G n0 9 300 (eS rvI M n)) (fMd_put_j23 x1 x2 x3 x4 s0 σ) (σ, M, n) 23 [(0, .inr (.inl (some (gM G)))), (1, .inl x1), (2, .inl x2), (3, .inl x3), (4, .inl x4)] [.inl s0] := by
  unfold fMd_put_j23
  refine s_blk C 12 2 [0, 1, 2, 3, 4, 5] (pc' := 27) (lv' := [(0, .inr (.inl (some (gM G)))), (1, .inl x1), (2, .inl x2), (3, .inl x3), (4, .inl x4), (5, .inl s0)]) (st' := [.inl x4]) rfl ?_
  refine s_ieq C 14 rfl (fun _ => ?_) (fun _ => ?_)
  · exact wMd_put_j44 hG C htab _ _ _ _ _ _
  refine s_blk C 15 1 [0, 1, 2, 3, 4, 5] (pc' := 32) (lv' := [(0, .inr (.inl (some (gM G)))), (1, .inl x1), (2, .inl x2), (3, .inl x3), (4, .inl x4), (5, .inl s0)]) (st' := [.inl s0]) rfl ?_
  refine s_ieq C 16 rfl (fun _ => ?_) (fun _ => ?_)
  · exact wMd_put_j44 hG C htab _ _ _ _ _ _
  refine s_blk C 17 3 [0, 1, 2, 3, 4, 5] (pc' := 38) (lv' := [(0, .inr (.inl (some (gM G)))), (1, .inl x1), (2, .inl x2), (3, .inl x3), (4, .inl x4), (5, .inl s0)]) (st' := [.inl x2, .inl x1, .inr (.inl (some (gM G)))]) rfl ?_
  refine s_RI (CE_EM _ _ _ _ _ _) (st := []) (fun o ho => j_callV (As := [.inl x1, .inl x2]) (st := []) (b := gM G) C 20 rfl mf_Md_latest ml_X12_247 rfl (recv_M hG C) (by decide) (by decide) (Nat.le_refl _) rfl (cMd_latest (CX_tr C) hG σ M n x1 x2 o ho)) (fun v1 => ?_)
  refine s_blk C 21 1 [0, 1, 2, 3, 4, 5] (pc' := 45) (lv' := [(0, .inr (.inl (some (gM G)))), (1, .inl x1), (2, .inl x2), (3, .inl x3), (4, .inl x4), (5, .inl s0)]) (st' := [.inl v1]) rfl ?_
  exact wMd_put_j45 hG C htab _ _ _ _ _ _ _
def fMd_put_j22 (x1 : Int32) (x2 : Int32) (x3 : Int32) (x4 : Int32) (σ : Sg) : Option (Int32 × Sg) :=
  fMd_put_j23 x1 x2 x3 x4 0 σ
theorem wMd_put_j22 {X : MC} {G : GE} {n0 : Nat} (hG : gH G = true) (C : CX X G RX12 cX12_put pMd_put 8 (some .int) n0) (htab : ∀ z ∈ X.2.2.2.2.2.2.2.2.exceptionTable.toList, False) {M : Mm} {n : Nat} (x1 : Int32) (x2 : Int32) (x3 : Int32) (x4 : Int32) (σ : Sg) : JS X G 8 300 0 n0 (EM X G n0 9 300 (eS rvI M n)) (fMd_put_j22 x1 x2 x3 x4 σ) (σ, M, n) 22 [(0, .inr (.inl (some (gM G)))), (1, .inl x1), (2, .inl x2), (3, .inl x3), (4, .inl x4)] [] := by
  unfold fMd_put_j22
  refine s_blk C 11 1 [0, 1, 2, 3, 4] (pc' := 23) (lv' := [(0, .inr (.inl (some (gM G)))), (1, .inl x1), (2, .inl x2), (3, .inl x3), (4, .inl x4)]) (st' := [.inl 0]) rfl ?_
  exact wMd_put_j23 hG C htab _ _ _ _ _ _
def fMd_put (x1 : Int32) (x2 : Int32) (x3 : Int32) (σ : Sg) : Option (Int32 × Sg) :=
  bdR (fMd_isRegion x1) fun v1 =>
  bdR (fMd_isKey x2) fun v2 =>
  if v2 = 0 then
    fMd_put_j22 x1 x2 x3 v1 σ
  else
    if x3 < (-1) then
      fMd_put_j22 x1 x2 x3 v1 σ
    else
      fMd_put_j23 x1 x2 x3 v1 1 σ
theorem wMd_put {X : MC} {G : GE} {n0 : Nat} (hG : gH G = true) (C : CX X G RX12 cX12_put pMd_put 8 (some .int) n0) (htab : ∀ z ∈ X.2.2.2.2.2.2.2.2.exceptionTable.toList, False) {M : Mm} {n : Nat} (x1 : Int32) (x2 : Int32) (x3 : Int32) (σ : Sg) : JS X G 8 300 0 n0 (EM X G n0 9 300 (eS rvI M n)) (fMd_put x1 x2 x3 σ) (σ, M, n) 0 [(0, .inr (.inl (some (gM G)))), (1, .inl x1), (2, .inl x2), (3, .inl x3)] [] := by
  unfold fMd_put
  refine s_blk C 0 1 [0, 1, 2, 3] (pc' := 1) (lv' := [(0, .inr (.inl (some (gM G)))), (1, .inl x1), (2, .inl x2), (3, .inl x3)]) (st' := [.inl x1]) rfl ?_
  refine s_RI (CE_EM _ _ _ _ _ _) (st := []) (fun o ho => j_callS (As := [.inl x1]) (st := []) C 1 rfl mf_Md_isRegion ml_X12_225 rfl (by decide) (by decide) (Nat.le_refl _) rfl (cMd_isRegion (CX_tr C) hG σ M n x1 o ho)) (fun v1 => ?_)
  refine s_blk C 2 2 [0, 1, 2, 3, 4] (pc' := 7) (lv' := [(0, .inr (.inl (some (gM G)))), (1, .inl x1), (2, .inl x2), (3, .inl x3), (4, .inl v1)]) (st' := [.inl x2]) rfl ?_
  refine s_RI (CE_EM _ _ _ _ _ _) (st := []) (fun o ho => j_callS (As := [.inl x2]) (st := []) C 4 rfl mf_Md_isKey ml_X12_228 rfl (by decide) (by decide) (Nat.le_refl _) rfl (cMd_isKey (CX_tr C) hG σ M n x2 o ho)) (fun v2 => ?_)
  refine s_ieq C 5 rfl (fun _ => ?_) (fun _ => ?_)
  · exact wMd_put_j22 hG C htab _ _ _ _ _
  refine s_blk C 6 2 [0, 1, 2, 3, 4] (pc' := 15) (lv' := [(0, .inr (.inl (some (gM G)))), (1, .inl x1), (2, .inl x2), (3, .inl x3), (4, .inl v1)]) (st' := [.inl (-1), .inl x3]) rfl ?_
  refine s_iclt C 8 rfl (fun _ => ?_) (fun _ => ?_)
  · exact wMd_put_j22 hG C htab _ _ _ _ _
  refine s_blk C 9 2 [0, 1, 2, 3, 4] (pc' := 23) (lv' := [(0, .inr (.inl (some (gM G)))), (1, .inl x1), (2, .inl x2), (3, .inl x3), (4, .inl v1)]) (st' := [.inl 1]) rfl ?_
  exact wMd_put_j23 hG C htab _ _ _ _ _ _
theorem cMd_put {l : Launch} {G : GE} (htr : l.stackTraces = false) (hG : gH G = true) (σ : Sg) (M : Mm) (n : Nat) (x1 : Int32) (x2 : Int32) (x3 : Int32) : ∀ o, fMd_put x1 x2 x3 σ = some o → MetX l G yX12_put cX12_put 8 (some .int) 9 300 [.inr (.inl (some (gM G))), .inl x1, .inl x2, .inl x3] (σ, M, n) ((eS rvI M n) o) :=
  c_ofX (by decide) kMd_put htr rfl rfl fun X _ _ C htab => wMd_put hG C htab x1 x2 x3 _
def pMd_read_0 : List BR := [(0, .iload_n 1, 1, 0, 1), (1, .invokestatic 225, 3, 0, 4), (4, .ifCond .eq (26), 3, 0, 30), (7, .iload 4, 2, 0, 9), (9, .ifCond .lt (21), 3, 0, 30), (12, .iload_n 3, 1, 0, 13), (13, .ifCond .eq (13), 3, 0, 26), (16, .aload_n 0, 1, 0, 17), (17, .iload_n 1, 1, 0, 18), (18, .iload_n 2, 1, 0, 19), (19, .iload_n 3, 1, 0, 20), (20, .invokevirtual 262, 3, 0, 23), (23, .ifCond .eq (7), 3, 0, 30), (26, .iconst 1, 1, 1, 27), (27, .goto (4), 3, 0, 31), (30, .iconst 0, 1, 0, 31), (31, .istore 5, 2, 0, 33), (33, .aload_n 0, 1, 0, 34), (34, .iload 5, 2, 0, 36), (36, .ifCond .ne (7), 3, 0, 43), (39, .iconst 1, 1, 1, 40), (40, .goto (15), 3, 0, 55), (43, .iload_n 2, 1, 0, 44), (44, .invokestatic 228, 3, 0, 47), (47, .ifCond .eq (7), 3, 0, 54), (50, .iconst 0, 1, 0, 51), (51, .goto (4), 3, 0, 55), (54, .iconst 2, 1, 2, 55), (55, .invokevirtual 150, 3, 0, 58), (58, .ifCond .ne (5), 3, 0, 63), (61, .iconst 0, 1, 0, 62), (62, .ireturn, 1, 0, 63), (63, .iload_n 3, 1, 0, 64), (64, .ifCond .ne (12), 3, 0, 76), (67, .aload_n 0, 1, 0, 68), (68, .iload_n 1, 1, 0, 69), (69, .iload_n 2, 1, 0, 70), (70, .invokevirtual 247, 3, 0, 73), (73, .goto (10), 3, 0, 83), (76, .aload_n 0, 1, 0, 77)]
theorem kMd_read_0 : bOK cX12_read 7 pMd_read_0 = true := by decide +kernel
def pMd_read_1 : List BR := [(77, .iload_n 1, 1, 0, 78), (78, .iload_n 2, 1, 0, 79), (79, .iload_n 3, 1, 0, 80), (80, .invokevirtual 231, 3, 0, 83), (83, .istore 6, 2, 0, 85), (85, .iload 6, 2, 0, 87), (87, .iconst (-1), 1, -1, 88), (88, .if_icmp .eq (12), 3, 0, 100), (91, .aload_n 0, 1, 0, 92), (92, .iload 6, 2, 0, 94), (94, .invokevirtual 250, 3, 0, 97), (97, .ifCond .eq (6), 3, 0, 103), (100, .bipush (-2), 2, -2, 102), (102, .ireturn, 1, 0, 103), (103, .aload_n 0, 1, 0, 104), (104, .iload 6, 2, 0, 106), (106, .invokevirtual 277, 3, 0, 109), (109, .ifCond .ne (6), 3, 0, 115), (112, .bipush (-3), 2, -3, 114), (114, .ireturn, 1, 0, 115), (115, .iload 4, 2, 0, 117), (117, .aload_n 0, 1, 0, 118), (118, .getfield 22, 3, 0, 121), (121, .aload_n 0, 1, 0, 122), (122, .getfield 71, 3, 0, 125), (125, .iload 6, 2, 0, 127), (127, .iaload, 1, 0, 128), (128, .iaload, 1, 0, 129), (129, .if_icmp .lt (7), 3, 0, 136), (132, .iconst (-1), 1, -1, 133), (133, .goto (12), 3, 0, 145), (136, .aload_n 0, 1, 0, 137), (137, .iload_n 1, 1, 0, 138), (138, .iload 6, 2, 0, 140), (140, .iload 4, 2, 0, 142), (142, .invokevirtual 280, 3, 0, 145), (145, .ireturn, 1, 0, 146)]
theorem kMd_read_1 : bOK cX12_read 7 pMd_read_1 = true := by decide +kernel
def pMd_read : List BR := (pMd_read_0 ++ pMd_read_1)
theorem kMd_read : bOK cX12_read 7 pMd_read = true := (bOK_app kMd_read_0 kMd_read_1)
def fMd_read_j83 (x1 : Int32) (x4 : Int32) (s0 : Int32) (σ : Sg) : Option (Int32 × Sg) :=
  if s0 = (-1) then
    some ((-2), σ)
  else
    bdR (fMd_isMark s0 σ) fun v1 =>
    if v1 = 0 then
      bdR (fMd_isWarm s0 σ) fun v2 =>
      if v2 = 0 then
        some ((-3), σ)
      else
        mgA 27 s0 σ fun v3 =>
        mgA 9 v3 σ fun v4 =>
        if x4 < v4 then
          bdW (fMd_byteOf x1 s0 x4 σ) fun v5 σ6 =>
          some (v5, σ6)
        else
          some ((-1), σ)
    else
      some ((-2), σ)
theorem wMd_read_j83 {X : MC} {G : GE} {n0 : Nat} (hG : gH G = true) (C : CX X G RX12 cX12_read pMd_read 7 (some .int) n0) (htab : ∀ z ∈ X.2.2.2.2.2.2.2.2.exceptionTable.toList, False) {M : Mm} {n : Nat} (x1 : Int32) (x4 : Int32) (s0 : Int32) (σ : Sg) : JS X G 7 300 0 n0 (EM X G n0 7 300 (eS rvI M n)) (fMd_read_j83 x1 x4 s0 σ) (σ, M, n) 83 [(0, .inr (.inl (some (gM G)))), (1, .inl x1), (4, .inl x4)] [.inl s0] := by
  unfold fMd_read_j83
  refine s_blk C 44 3 [0, 1, 4, 6] (pc' := 88) (lv' := [(0, .inr (.inl (some (gM G)))), (1, .inl x1), (4, .inl x4), (6, .inl s0)]) (st' := [.inl (-1), .inl s0]) rfl ?_
  refine s_iceq C 47 rfl (fun _ => ?_) (fun _ => ?_)
  · refine s_blk C 52 1 [] (pc' := 102) (lv' := []) (st' := [.inl (-2)]) rfl ?_
    exact s_iret C 53 rfl rfl
  refine s_blk C 48 2 [0, 1, 4, 6] (pc' := 94) (lv' := [(0, .inr (.inl (some (gM G)))), (1, .inl x1), (4, .inl x4), (6, .inl s0)]) (st' := [.inl s0, .inr (.inl (some (gM G)))]) rfl ?_
  refine s_RI (CE_EM _ _ _ _ _ _) (st := []) (fun o ho => j_callV (As := [.inl s0]) (st := []) (b := gM G) C 50 rfl mf_Md_isMark ml_X12_250 rfl (recv_M hG C) (by decide) (by decide) (Nat.le_refl _) rfl (cMd_isMark (CX_tr C) hG σ M n s0 o ho)) (fun v1 => ?_)
  refine s_ieq C 51 rfl (fun _ => ?_) (fun _ => ?_)
  · refine s_blk C 54 2 [0, 1, 4, 6] (pc' := 106) (lv' := [(0, .inr (.inl (some (gM G)))), (1, .inl x1), (4, .inl x4), (6, .inl s0)]) (st' := [.inl s0, .inr (.inl (some (gM G)))]) rfl ?_
    refine s_RI (CE_EM _ _ _ _ _ _) (st := []) (fun o ho => j_callV (As := [.inl s0]) (st := []) (b := gM G) C 56 rfl mf_Md_isWarm ml_X12_277 rfl (recv_M hG C) (by decide) (by decide) (Nat.le_refl _) rfl (cMd_isWarm (CX_tr C) hG σ M n s0 o ho)) (fun v2 => ?_)
    refine s_ine C 57 rfl (fun _ => ?_) (fun _ => ?_)
    · refine s_blk C 58 1 [] (pc' := 114) (lv' := []) (st' := [.inl (-3)]) rfl ?_
      exact s_iret C 59 rfl rfl
    refine s_blk C 60 2 [0, 1, 4, 6] (pc' := 118) (lv' := [(0, .inr (.inl (some (gM G)))), (1, .inl x1), (4, .inl x4), (6, .inl s0)]) (st' := [.inr (.inl (some (gM G))), .inl x4]) rfl ?_
    refine s_mR hG C 62 rfl 9 fl_X12_22 rfl ?_
    refine s_blk C 63 1 [0, 1, 4, 6] (pc' := 122) (lv' := [(0, .inr (.inl (some (gM G)))), (1, .inl x1), (4, .inl x4), (6, .inl s0)]) (st' := [.inr (.inl (some (gM G))), .inr (.inl (some (gA G 9))), .inl x4]) rfl ?_
    refine s_mR hG C 64 rfl 27 fl_X12_71 rfl ?_
    refine s_blk C 65 1 [0, 1, 4, 6] (pc' := 127) (lv' := [(0, .inr (.inl (some (gM G)))), (1, .inl x1), (4, .inl x4), (6, .inl s0)]) (st' := [.inl s0, .inr (.inl (some (gA G 27))), .inr (.inl (some (gA G 9))), .inl x4]) rfl ?_
    refine s_mldI hG C 66 rfl rfl rfl (fun v3 => ?_)
    refine s_mldI hG C 67 rfl rfl rfl (fun v4 => ?_)
    refine s_iclt C 68 rfl (fun _ => ?_) (fun _ => ?_)
    · refine s_blk C 71 4 [] (pc' := 142) (lv' := []) (st' := [.inl x4, .inl s0, .inl x1, .inr (.inl (some (gM G)))]) rfl ?_
      refine s_SI (CE_EM _ _ _ _ _ _) (st := []) (fun o ho => j_callV (As := [.inl x1, .inl s0, .inl x4]) (st := []) (b := gM G) C 75 rfl mf_Md_byteOf ml_X12_280 rfl (recv_M hG C) (by decide) (by decide) (Nat.le_refl _) rfl (cMd_byteOf (CX_tr C) hG σ M n x1 s0 x4 o ho)) (fun v5 σ6 => ?_)
      exact s_iret C 76 rfl rfl
    refine s_blk C 69 2 [] (pc' := 145) (lv' := []) (st' := [.inl (-1)]) rfl ?_
    exact s_iret C 76 rfl rfl
  refine s_blk C 52 1 [] (pc' := 102) (lv' := []) (st' := [.inl (-2)]) rfl ?_
  exact s_iret C 53 rfl rfl
def fMd_read_j55 (x1 : Int32) (x2 : Int32) (x3 : Int32) (x4 : Int32) (s0 : Int32) (σ : Sg) : Option (Int32 × Sg) :=
  bdW (fMd_holds s0 σ) fun v1 σ2 =>
  if v1 = 0 then
    some (0, σ2)
  else
    if x3 = 0 then
      bdR (fMd_latest x1 x2 σ2) fun v3 =>
      fMd_read_j83 x1 x4 v3 σ2
    else
      bdR (fMd_versionAt x1 x2 x3 σ2) fun v4 =>
      fMd_read_j83 x1 x4 v4 σ2
theorem wMd_read_j55 {X : MC} {G : GE} {n0 : Nat} (hG : gH G = true) (C : CX X G RX12 cX12_read pMd_read 7 (some .int) n0) (htab : ∀ z ∈ X.2.2.2.2.2.2.2.2.exceptionTable.toList, False) {M : Mm} {n : Nat} (x1 : Int32) (x2 : Int32) (x3 : Int32) (x4 : Int32) (s0 : Int32) (σ : Sg) : JS X G 7 300 0 n0 (EM X G n0 7 300 (eS rvI M n)) (fMd_read_j55 x1 x2 x3 x4 s0 σ) (σ, M, n) 55 [(0, .inr (.inl (some (gM G)))), (1, .inl x1), (2, .inl x2), (3, .inl x3), (4, .inl x4)] [.inl s0, .inr (.inl (some (gM G)))] := by
  unfold fMd_read_j55
  refine s_SI (CE_EM _ _ _ _ _ _) (st := []) (fun o ho => j_callV (As := [.inl s0]) (st := []) (b := gM G) C 28 rfl mf_Md_holds ml_X12_150 rfl (recv_M hG C) (by decide) (by decide) (Nat.le_refl _) rfl (cMd_holds (CX_tr C) hG σ M n s0 o ho)) (fun v1 σ2 => ?_)
  refine s_ine C 29 rfl (fun _ => ?_) (fun _ => ?_)
  · refine s_blk C 30 1 [] (pc' := 62) (lv' := []) (st' := [.inl 0]) rfl ?_
    exact s_iret C 31 rfl rfl
  refine s_blk C 32 1 [0, 1, 2, 3, 4] (pc' := 64) (lv' := [(0, .inr (.inl (some (gM G)))), (1, .inl x1), (2, .inl x2), (3, .inl x3), (4, .inl x4)]) (st' := [.inl x3]) rfl ?_
  refine s_ine C 33 rfl (fun _ => ?_) (fun _ => ?_)
  · refine s_blk C 34 3 [0, 1, 4] (pc' := 70) (lv' := [(0, .inr (.inl (some (gM G)))), (1, .inl x1), (4, .inl x4)]) (st' := [.inl x2, .inl x1, .inr (.inl (some (gM G)))]) rfl ?_
    refine s_RI (CE_EM _ _ _ _ _ _) (st := []) (fun o ho => j_callV (As := [.inl x1, .inl x2]) (st := []) (b := gM G) C 37 rfl mf_Md_latest ml_X12_247 rfl (recv_M hG C) (by decide) (by decide) (Nat.le_refl _) rfl (cMd_latest (CX_tr C) hG σ2 M n x1 x2 o ho)) (fun v3 => ?_)
    refine s_blk C 38 1 [0, 1, 4] (pc' := 83) (lv' := [(0, .inr (.inl (some (gM G)))), (1, .inl x1), (4, .inl x4)]) (st' := [.inl v3]) rfl ?_
    exact wMd_read_j83 hG C htab _ _ _ _
  refine s_blk C 39 4 [0, 1, 4] (pc' := 80) (lv' := [(0, .inr (.inl (some (gM G)))), (1, .inl x1), (4, .inl x4)]) (st' := [.inl x3, .inl x2, .inl x1, .inr (.inl (some (gM G)))]) rfl ?_
  refine s_RI (CE_EM _ _ _ _ _ _) (st := []) (fun o ho => j_callV (As := [.inl x1, .inl x2, .inl x3]) (st := []) (b := gM G) C 43 rfl mf_Md_versionAt ml_X12_231 rfl (recv_M hG C) (by decide) (by decide) (Nat.le_refl _) rfl (cMd_versionAt (CX_tr C) hG σ2 M n x1 x2 x3 o ho)) (fun v4 => ?_)
  exact wMd_read_j83 hG C htab _ _ _ _
def fMd_read_j31 (x1 : Int32) (x2 : Int32) (x3 : Int32) (x4 : Int32) (s0 : Int32) (σ : Sg) : Option (Int32 × Sg) :=
  if s0 = 0 then
    fMd_read_j55 x1 x2 x3 x4 1 σ
  else
    bdR (fMd_isKey x2) fun v1 =>
    if v1 = 0 then
      fMd_read_j55 x1 x2 x3 x4 2 σ
    else
      fMd_read_j55 x1 x2 x3 x4 0 σ
theorem wMd_read_j31 {X : MC} {G : GE} {n0 : Nat} (hG : gH G = true) (C : CX X G RX12 cX12_read pMd_read 7 (some .int) n0) (htab : ∀ z ∈ X.2.2.2.2.2.2.2.2.exceptionTable.toList, False) {M : Mm} {n : Nat} (x1 : Int32) (x2 : Int32) (x3 : Int32) (x4 : Int32) (s0 : Int32) (σ : Sg) : JS X G 7 300 0 n0 (EM X G n0 7 300 (eS rvI M n)) (fMd_read_j31 x1 x2 x3 x4 s0 σ) (σ, M, n) 31 [(0, .inr (.inl (some (gM G)))), (1, .inl x1), (2, .inl x2), (3, .inl x3), (4, .inl x4)] [.inl s0] := by
  unfold fMd_read_j31
  refine s_blk C 16 3 [0, 1, 2, 3, 4] (pc' := 36) (lv' := [(0, .inr (.inl (some (gM G)))), (1, .inl x1), (2, .inl x2), (3, .inl x3), (4, .inl x4)]) (st' := [.inl s0, .inr (.inl (some (gM G)))]) rfl ?_
  refine s_ine C 19 rfl (fun _ => ?_) (fun _ => ?_)
  · refine s_blk C 20 2 [0, 1, 2, 3, 4] (pc' := 55) (lv' := [(0, .inr (.inl (some (gM G)))), (1, .inl x1), (2, .inl x2), (3, .inl x3), (4, .inl x4)]) (st' := [.inl 1, .inr (.inl (some (gM G)))]) rfl ?_
    exact wMd_read_j55 hG C htab _ _ _ _ _ _
  refine s_blk C 22 1 [0, 1, 2, 3, 4] (pc' := 44) (lv' := [(0, .inr (.inl (some (gM G)))), (1, .inl x1), (2, .inl x2), (3, .inl x3), (4, .inl x4)]) (st' := [.inl x2, .inr (.inl (some (gM G)))]) rfl ?_
  refine s_RI (CE_EM _ _ _ _ _ _) (st := [.inr (.inl (some (gM G)))]) (fun o ho => j_callS (As := [.inl x2]) (st := [.inr (.inl (some (gM G)))]) C 23 rfl mf_Md_isKey ml_X12_228 rfl (by decide) (by decide) (Nat.le_refl _) rfl (cMd_isKey (CX_tr C) hG σ M n x2 o ho)) (fun v1 => ?_)
  refine s_ieq C 24 rfl (fun _ => ?_) (fun _ => ?_)
  · refine s_blk C 27 1 [0, 1, 2, 3, 4] (pc' := 55) (lv' := [(0, .inr (.inl (some (gM G)))), (1, .inl x1), (2, .inl x2), (3, .inl x3), (4, .inl x4)]) (st' := [.inl 2, .inr (.inl (some (gM G)))]) rfl ?_
    exact wMd_read_j55 hG C htab _ _ _ _ _ _
  refine s_blk C 25 2 [0, 1, 2, 3, 4] (pc' := 55) (lv' := [(0, .inr (.inl (some (gM G)))), (1, .inl x1), (2, .inl x2), (3, .inl x3), (4, .inl x4)]) (st' := [.inl 0, .inr (.inl (some (gM G)))]) rfl ?_
  exact wMd_read_j55 hG C htab _ _ _ _ _ _
def fMd_read_j30 (x1 : Int32) (x2 : Int32) (x3 : Int32) (x4 : Int32) (σ : Sg) : Option (Int32 × Sg) :=
  fMd_read_j31 x1 x2 x3 x4 0 σ
theorem wMd_read_j30 {X : MC} {G : GE} {n0 : Nat} (hG : gH G = true) (C : CX X G RX12 cX12_read pMd_read 7 (some .int) n0) (htab : ∀ z ∈ X.2.2.2.2.2.2.2.2.exceptionTable.toList, False) {M : Mm} {n : Nat} (x1 : Int32) (x2 : Int32) (x3 : Int32) (x4 : Int32) (σ : Sg) : JS X G 7 300 0 n0 (EM X G n0 7 300 (eS rvI M n)) (fMd_read_j30 x1 x2 x3 x4 σ) (σ, M, n) 30 [(0, .inr (.inl (some (gM G)))), (1, .inl x1), (2, .inl x2), (3, .inl x3), (4, .inl x4)] [] := by
  unfold fMd_read_j30
  refine s_blk C 15 1 [0, 1, 2, 3, 4] (pc' := 31) (lv' := [(0, .inr (.inl (some (gM G)))), (1, .inl x1), (2, .inl x2), (3, .inl x3), (4, .inl x4)]) (st' := [.inl 0]) rfl ?_
  exact wMd_read_j31 hG C htab _ _ _ _ _ _
def fMd_read_j26 (x1 : Int32) (x2 : Int32) (x3 : Int32) (x4 : Int32) (σ : Sg) : Option (Int32 × Sg) :=
  fMd_read_j31 x1 x2 x3 x4 1 σ
theorem wMd_read_j26 {X : MC} {G : GE} {n0 : Nat} (hG : gH G = true) (C : CX X G RX12 cX12_read pMd_read 7 (some .int) n0) (htab : ∀ z ∈ X.2.2.2.2.2.2.2.2.exceptionTable.toList, False) {M : Mm} {n : Nat} (x1 : Int32) (x2 : Int32) (x3 : Int32) (x4 : Int32) (σ : Sg) : JS X G 7 300 0 n0 (EM X G n0 7 300 (eS rvI M n)) (fMd_read_j26 x1 x2 x3 x4 σ) (σ, M, n) 26 [(0, .inr (.inl (some (gM G)))), (1, .inl x1), (2, .inl x2), (3, .inl x3), (4, .inl x4)] [] := by
  unfold fMd_read_j26
  refine s_blk C 13 2 [0, 1, 2, 3, 4] (pc' := 31) (lv' := [(0, .inr (.inl (some (gM G)))), (1, .inl x1), (2, .inl x2), (3, .inl x3), (4, .inl x4)]) (st' := [.inl 1]) rfl ?_
  exact wMd_read_j31 hG C htab _ _ _ _ _ _
def fMd_read (x1 : Int32) (x2 : Int32) (x3 : Int32) (x4 : Int32) (σ : Sg) : Option (Int32 × Sg) :=
  bdR (fMd_isRegion x1) fun v1 =>
  if v1 = 0 then
    fMd_read_j30 x1 x2 x3 x4 σ
  else
    if x4 < 0 then
      fMd_read_j30 x1 x2 x3 x4 σ
    else
      if x3 = 0 then
        fMd_read_j26 x1 x2 x3 x4 σ
      else
        bdR (fMd_isVersion x1 x2 x3 σ) fun v2 =>
        if v2 = 0 then
          fMd_read_j30 x1 x2 x3 x4 σ
        else
          fMd_read_j26 x1 x2 x3 x4 σ
theorem wMd_read {X : MC} {G : GE} {n0 : Nat} (hG : gH G = true) (C : CX X G RX12 cX12_read pMd_read 7 (some .int) n0) (htab : ∀ z ∈ X.2.2.2.2.2.2.2.2.exceptionTable.toList, False) {M : Mm} {n : Nat} (x1 : Int32) (x2 : Int32) (x3 : Int32) (x4 : Int32) (σ : Sg) : JS X G 7 300 0 n0 (EM X G n0 7 300 (eS rvI M n)) (fMd_read x1 x2 x3 x4 σ) (σ, M, n) 0 [(0, .inr (.inl (some (gM G)))), (1, .inl x1), (2, .inl x2), (3, .inl x3), (4, .inl x4)] [] := by
  unfold fMd_read
  refine s_blk C 0 1 [0, 1, 2, 3, 4] (pc' := 1) (lv' := [(0, .inr (.inl (some (gM G)))), (1, .inl x1), (2, .inl x2), (3, .inl x3), (4, .inl x4)]) (st' := [.inl x1]) rfl ?_
  refine s_RI (CE_EM _ _ _ _ _ _) (st := []) (fun o ho => j_callS (As := [.inl x1]) (st := []) C 1 rfl mf_Md_isRegion ml_X12_225 rfl (by decide) (by decide) (Nat.le_refl _) rfl (cMd_isRegion (CX_tr C) hG σ M n x1 o ho)) (fun v1 => ?_)
  refine s_ieq C 2 rfl (fun _ => ?_) (fun _ => ?_)
  · exact wMd_read_j30 hG C htab _ _ _ _ _
  refine s_blk C 3 1 [0, 1, 2, 3, 4] (pc' := 9) (lv' := [(0, .inr (.inl (some (gM G)))), (1, .inl x1), (2, .inl x2), (3, .inl x3), (4, .inl x4)]) (st' := [.inl x4]) rfl ?_
  refine s_ilt C 4 rfl (fun _ => ?_) (fun _ => ?_)
  · exact wMd_read_j30 hG C htab _ _ _ _ _
  refine s_blk C 5 1 [0, 1, 2, 3, 4] (pc' := 13) (lv' := [(0, .inr (.inl (some (gM G)))), (1, .inl x1), (2, .inl x2), (3, .inl x3), (4, .inl x4)]) (st' := [.inl x3]) rfl ?_
  refine s_ieq C 6 rfl (fun _ => ?_) (fun _ => ?_)
  · exact wMd_read_j26 hG C htab _ _ _ _ _
  refine s_blk C 7 4 [0, 1, 2, 3, 4] (pc' := 20) (lv' := [(0, .inr (.inl (some (gM G)))), (1, .inl x1), (2, .inl x2), (3, .inl x3), (4, .inl x4)]) (st' := [.inl x3, .inl x2, .inl x1, .inr (.inl (some (gM G)))]) rfl ?_
  refine s_RI (CE_EM _ _ _ _ _ _) (st := []) (fun o ho => j_callV (As := [.inl x1, .inl x2, .inl x3]) (st := []) (b := gM G) C 11 rfl mf_Md_isVersion ml_X12_262 rfl (recv_M hG C) (by decide) (by decide) (Nat.le_refl _) rfl (cMd_isVersion (CX_tr C) hG σ M n x1 x2 x3 o ho)) (fun v2 => ?_)
  refine s_ieq C 12 rfl (fun _ => ?_) (fun _ => ?_)
  · exact wMd_read_j30 hG C htab _ _ _ _ _
  exact wMd_read_j26 hG C htab _ _ _ _ _
theorem cMd_read {l : Launch} {G : GE} (htr : l.stackTraces = false) (hG : gH G = true) (σ : Sg) (M : Mm) (n : Nat) (x1 : Int32) (x2 : Int32) (x3 : Int32) (x4 : Int32) : ∀ o, fMd_read x1 x2 x3 x4 σ = some o → MetX l G yX12_read cX12_read 7 (some .int) 7 300 [.inr (.inl (some (gM G))), .inl x1, .inl x2, .inl x3, .inl x4] (σ, M, n) ((eS rvI M n) o) :=
  c_ofX (by decide) kMd_read htr rfl rfl fun X _ _ C htab => wMd_read hG C htab x1 x2 x3 x4 _

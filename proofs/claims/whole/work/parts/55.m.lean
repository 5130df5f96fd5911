def pMd_follows_0 : List BR := [(0, .iconst 1, 1, 1, 1), (1, .iload_n 1, 1, 0, 2), (2, .isub, 1, 0, 3), (3, .istore_n 2, 1, 0, 4), (4, .aload_n 0, 1, 0, 5), (5, .getfield 101, 3, 0, 8), (8, .sipush 200, 3, 200, 11), (11, .iload_n 1, 1, 0, 12), (12, .imul, 1, 0, 13), (13, .iaload, 1, 0, 14), (14, .istore_n 3, 1, 0, 15), (15, .aload_n 0, 1, 0, 16), (16, .iload_n 3, 1, 0, 17), (17, .invokevirtual 321, 3, 0, 20), (20, .aload_n 0, 1, 0, 21), (21, .getfield 95, 3, 0, 24), (24, .sipush 201, 3, 201, 27), (27, .iload_n 2, 1, 0, 28), (28, .imul, 1, 0, 29), (29, .iload_n 3, 1, 0, 30), (30, .iadd, 1, 0, 31), (31, .baload, 1, 0, 32), (32, .istore 4, 2, 0, 34), (34, .iload 4, 2, 0, 36), (36, .ifCond .ne (32), 3, 0, 68), (39, .aload_n 0, 1, 0, 40), (40, .getfield 157, 3, 0, 43), (43, .ifCond .ne (17), 3, 0, 60), (46, .aload_n 0, 1, 0, 47), (47, .getfield 68, 3, 0, 50), (50, .iload_n 2, 1, 0, 51), (51, .iaload, 1, 0, 52), (52, .bipush 40, 2, 40, 54), (54, .if_icmp .ge (18), 3, 0, 72), (57, .goto (11), 3, 0, 68), (60, .aload_n 0, 1, 0, 61), (61, .iload_n 2, 1, 0, 62), (62, .invokevirtual 244, 3, 0, 65), (65, .ifCond .eq (7), 3, 0, 72), (68, .iconst 1, 1, 1, 69)]
theorem kMd_follows_0 : bOK cX12_follows 7 pMd_follows_0 = true := by decide +kernel
def pMd_follows_1 : List BR := [(69, .goto (4), 3, 0, 73), (72, .iconst 0, 1, 0, 73), (73, .istore 5, 2, 0, 75), (75, .iload 5, 2, 0, 77), (77, .ifCond .ne (5), 3, 0, 82), (80, .iconst 0, 1, 0, 81), (81, .ireturn, 1, 0, 82), (82, .iload 4, 2, 0, 84), (84, .ifCond .ne (21), 3, 0, 105), (87, .aload_n 0, 1, 0, 88), (88, .iload_n 2, 1, 0, 89), (89, .iload_n 3, 1, 0, 90), (90, .aload_n 0, 1, 0, 91), (91, .getfield 157, 3, 0, 94), (94, .ifCond .ne (7), 3, 0, 101), (97, .iconst 1, 1, 1, 98), (98, .goto (4), 3, 0, 102), (101, .iconst 0, 1, 0, 102), (102, .invokevirtual 240, 3, 0, 105), (105, .aload_n 0, 1, 0, 106), (106, .getfield 98, 3, 0, 109), (109, .iload_n 1, 1, 0, 110), (110, .dup2, 1, 0, 111), (111, .iaload, 1, 0, 112), (112, .iconst 1, 1, 1, 113), (113, .isub, 1, 0, 114), (114, .iastore, 1, 0, 115), (115, .iconst 0, 1, 0, 116), (116, .istore 6, 2, 0, 118), (118, .iload 6, 2, 0, 120), (120, .aload_n 0, 1, 0, 121), (121, .getfield 98, 3, 0, 124), (124, .iload_n 1, 1, 0, 125), (125, .iaload, 1, 0, 126), (126, .if_icmp .ge (37), 3, 0, 163), (129, .aload_n 0, 1, 0, 130), (130, .getfield 101, 3, 0, 133), (133, .sipush 200, 3, 200, 136), (136, .iload_n 1, 1, 0, 137), (137, .imul, 1, 0, 138)]
theorem kMd_follows_1 : bOK cX12_follows 7 pMd_follows_1 = true := by decide +kernel
def pMd_follows_2 : List BR := [(138, .iload 6, 2, 0, 140), (140, .iadd, 1, 0, 141), (141, .aload_n 0, 1, 0, 142), (142, .getfield 101, 3, 0, 145), (145, .sipush 200, 3, 200, 148), (148, .iload_n 1, 1, 0, 149), (149, .imul, 1, 0, 150), (150, .iload 6, 2, 0, 152), (152, .iadd, 1, 0, 153), (153, .iconst 1, 1, 1, 154), (154, .iadd, 1, 0, 155), (155, .iaload, 1, 0, 156), (156, .iastore, 1, 0, 157), (157, .iinc 6 (1), 3, 1, 160), (160, .goto (-42), 3, 0, 118), (163, .iconst 1, 1, 1, 164), (164, .ireturn, 1, 0, 165)]
theorem kMd_follows_2 : bOK cX12_follows 7 pMd_follows_2 = true := by decide +kernel
def pMd_follows : List BR := (pMd_follows_0 ++ (pMd_follows_1 ++ pMd_follows_2))
theorem kMd_follows : bOK cX12_follows 7 pMd_follows = true := (bOK_app kMd_follows_0 (bOK_app kMd_follows_1 kMd_follows_2))
def fMd_follows_b118 (k118 : Int32 → Int32 → Sg → Option (Int32 × Sg)) (x1 : Int32) (x6 : Int32) (σ : Sg) : Option (Int32 × Sg) :=
  mgA 36 x1 σ fun v1 =>
  if v1 ≤ x6 then
    rZ 1 (some (1, σ))
  else
    mgA 37 (((200 * x1) + x6) + 1) σ fun v2 =>
    mpA 37 ((200 * x1) + x6) v2 σ fun σ3 =>
    k118 x1 (x6 + 1) σ3
theorem wMd_follows_b118 {X : MC} {G : GE} {n0 : Nat} (hG : gH G = true) (C : CX X G RX12 cX12_follows pMd_follows 7 (some .boolean) n0) (htab : ∀ z ∈ X.2.2.2.2.2.2.2.2.exceptionTable.toList, False) {M : Mm} {n : Nat} (k118 : Int32 → Int32 → Sg → Option (Int32 × Sg)) (H118 : ∀ (x1 : Int32) (x6 : Int32) (σ : Sg), JS X G 7 300 0 n0 (EM X G n0 8 300 (eS rvI M n)) (k118 x1 x6 σ) (σ, M, n) 118 [(0, .inr (.inl (some (gM G)))), (1, .inl x1), (6, .inl x6)] []) (x1 : Int32) (x6 : Int32) (σ : Sg) : JS X G 7 300 0 n0 (EM X G n0 8 300 (eS rvI M n)) (fMd_follows_b118 k118 x1 x6 σ) (σ, M, n) 118 [(0, .inr (.inl (some (gM G)))), (1, .inl x1), (6, .inl x6)] [] := by
  unfold fMd_follows_b118
  refine s_blk C 69 2 [0, 1, 6] (pc' := 121) (lv' := [(0, .inr (.inl (some (gM G)))), (1, .inl x1), (6, .inl x6)]) (st' := [.inr (.inl (some (gM G))), .inl x6]) rfl ?_
  refine s_mR hG C 71 rfl 36 fl_X12_98 rfl ?_
  refine s_blk C 72 1 [0, 1, 6] (pc' := 125) (lv' := [(0, .inr (.inl (some (gM G)))), (1, .inl x1), (6, .inl x6)]) (st' := [.inl x1, .inr (.inl (some (gA G 36))), .inl x6]) rfl ?_
  refine s_mldI hG C 73 rfl rfl rfl (fun v1 => ?_)
  refine s_icge C 74 rfl (fun _ => ?_) (fun _ => ?_)
  · refine s_blk C 95 1 [] (pc' := 164) (lv' := []) (st' := [.inl 1]) rfl ?_
    exact s_zret C 96 rfl rfl
  refine s_blk C 75 1 [0, 1, 6] (pc' := 130) (lv' := [(0, .inr (.inl (some (gM G)))), (1, .inl x1), (6, .inl x6)]) (st' := [.inr (.inl (some (gM G)))]) rfl ?_
  refine s_mR hG C 76 rfl 37 fl_X12_101 rfl ?_
  refine s_blk C 77 6 [0, 1, 6] (pc' := 142) (lv' := [(0, .inr (.inl (some (gM G)))), (1, .inl x1), (6, .inl x6)]) (st' := [.inr (.inl (some (gM G))), .inl ((200 * x1) + x6), .inr (.inl (some (gA G 37)))]) rfl ?_
  refine s_mR hG C 83 rfl 37 fl_X12_101 rfl ?_
  refine s_blk C 84 7 [0, 1, 6] (pc' := 155) (lv' := [(0, .inr (.inl (some (gM G)))), (1, .inl x1), (6, .inl x6)]) (st' := [.inl (((200 * x1) + x6) + 1), .inr (.inl (some (gA G 37))), .inl ((200 * x1) + x6), .inr (.inl (some (gA G 37)))]) rfl ?_
  refine s_mldI hG C 91 rfl rfl rfl (fun v2 => ?_)
  refine s_mstI hG C 92 rfl rfl rfl (fun σ3 _ => ?_)
  refine s_blk C 93 2 [0, 1, 6] (pc' := 118) (lv' := [(0, .inr (.inl (some (gM G)))), (1, .inl x1), (6, .inl (x6 + 1))]) (st' := []) rfl ?_
  exact H118 _ _ _
def fMd_follows_l118 (fu : Nat) : Int32 → Int32 → Sg → Option (Int32 × Sg) := Nat.rec (fun x1 x6 σ => none) (fun _ k => fMd_follows_b118 k) fu
theorem wMd_follows_l118 {X : MC} {G : GE} {n0 : Nat} (hG : gH G = true) (C : CX X G RX12 cX12_follows pMd_follows 7 (some .boolean) n0) (htab : ∀ z ∈ X.2.2.2.2.2.2.2.2.exceptionTable.toList, False) {M : Mm} {n : Nat} : ∀ (fu : Nat) (x1 : Int32) (x6 : Int32) (σ : Sg), JS X G 7 300 0 n0 (EM X G n0 8 300 (eS rvI M n)) (fMd_follows_l118 fu x1 x6 σ) (σ, M, n) 118 [(0, .inr (.inl (some (gM G)))), (1, .inl x1), (6, .inl x6)] [] := by
  intro fu
  induction fu with
  | zero => intro x1 x6 σ; exact s_none
  | succ fu ih => intro x1 x6 σ; exact wMd_follows_b118 hG C htab (fMd_follows_l118 fu) ih _ _ _
def fMd_follows_j105 (x1 : Int32) (σ : Sg) : Option (Int32 × Sg) :=
  mgA 36 x1 σ fun v1 =>
  mpA 36 x1 (v1 - 1) σ fun σ2 =>
  fMd_follows_l118 FU x1 0 σ2
theorem wMd_follows_j105 {X : MC} {G : GE} {n0 : Nat} (hG : gH G = true) (C : CX X G RX12 cX12_follows pMd_follows 7 (some .boolean) n0) (htab : ∀ z ∈ X.2.2.2.2.2.2.2.2.exceptionTable.toList, False) {M : Mm} {n : Nat} (x1 : Int32) (σ : Sg) : JS X G 7 300 0 n0 (EM X G n0 8 300 (eS rvI M n)) (fMd_follows_j105 x1 σ) (σ, M, n) 105 [(0, .inr (.inl (some (gM G)))), (1, .inl x1)] [] := by
  unfold fMd_follows_j105
  refine s_blk C 59 1 [0, 1] (pc' := 106) (lv' := [(0, .inr (.inl (some (gM G)))), (1, .inl x1)]) (st' := [.inr (.inl (some (gM G)))]) rfl ?_
  refine s_mR hG C 60 rfl 36 fl_X12_98 rfl ?_
  refine s_blk C 61 2 [0, 1] (pc' := 111) (lv' := [(0, .inr (.inl (some (gM G)))), (1, .inl x1)]) (st' := [.inl x1, .inr (.inl (some (gA G 36))), .inl x1, .inr (.inl (some (gA G 36)))]) rfl ?_
  refine s_mldI hG C 63 rfl rfl rfl (fun v1 => ?_)
  refine s_blk C 64 2 [0, 1] (pc' := 114) (lv' := [(0, .inr (.inl (some (gM G)))), (1, .inl x1)]) (st' := [.inl (v1 - 1), .inl x1, .inr (.inl (some (gA G 36)))]) rfl ?_
  refine s_mstI hG C 66 rfl rfl rfl (fun σ2 _ => ?_)
  refine s_blk C 67 2 [0, 1, 6] (pc' := 118) (lv' := [(0, .inr (.inl (some (gM G)))), (1, .inl x1), (6, .inl 0)]) (st' := []) rfl ?_
  exact wMd_follows_l118 hG C htab FU _ _ _
def fMd_follows_j102 (x1 : Int32) (s0 : Int32) (s1 : Int32) (s2 : Int32) (σ : Sg) : Option (Int32 × Sg) :=
  bdW (fMd_enters s2 s1 s0 σ) fun v1 σ2 =>
  fMd_follows_j105 x1 σ2
theorem wMd_follows_j102 {X : MC} {G : GE} {n0 : Nat} (hG : gH G = true) (C : CX X G RX12 cX12_follows pMd_follows 7 (some .boolean) n0) (htab : ∀ z ∈ X.2.2.2.2.2.2.2.2.exceptionTable.toList, False) {M : Mm} {n : Nat} (x1 : Int32) (s0 : Int32) (s1 : Int32) (s2 : Int32) (σ : Sg) : JS X G 7 300 0 n0 (EM X G n0 8 300 (eS rvI M n)) (fMd_follows_j102 x1 s0 s1 s2 σ) (σ, M, n) 102 [(0, .inr (.inl (some (gM G)))), (1, .inl x1)] [.inl s0, .inl s1, .inl s2, .inr (.inl (some (gM G)))] := by
  unfold fMd_follows_j102
  refine s_SU (CE_EM _ _ _ _ _ _) (st := []) (fun o ho => j_callV (As := [.inl s2, .inl s1, .inl s0]) (st := []) (b := gM G) C 58 rfl mf_Md_enters ml_X12_240 rfl (recv_M hG C) (by decide) (by decide) (Nat.le_refl _) rfl (cMd_enters (CX_tr C) hG σ M n s2 s1 s0 o ho)) (fun v1 σ2 => ?_)
  exact wMd_follows_j105 hG C htab _ _
def fMd_follows_j73 (x1 : Int32) (x2 : Int32) (x3 : Int32) (x4 : Int32) (s0 : Int32) (σ : Sg) : Option (Int32 × Sg) :=
  if s0 = 0 then
    rZ 0 (some (0, σ))
  else
    if x4 = 0 then
      mgF 3 σ fun v1 =>
      if v1 = 0 then
        fMd_follows_j102 x1 1 x3 x2 σ
      else
        fMd_follows_j102 x1 0 x3 x2 σ
    else
      fMd_follows_j105 x1 σ
theorem wMd_follows_j73 {X : MC} {G : GE} {n0 : Nat} (hG : gH G = true) (C : CX X G RX12 cX12_follows pMd_follows 7 (some .boolean) n0) (htab : ∀ z ∈ X.2.2.2.2.2.2.2.2.exceptionTable.toList, False) {M : Mm} {n : Nat} (x1 : Int32) (x2 : Int32) (x3 : Int32) (x4 : Int32) (s0 : Int32) (σ : Sg) : JS X G 7 300 0 n0 (EM X G n0 8 300 (eS rvI M n)) (fMd_follows_j73 x1 x2 x3 x4 s0 σ) (σ, M, n) 73 [(0, .inr (.inl (some (gM G)))), (1, .inl x1), (2, .inl x2), (3, .inl x3), (4, .inl x4)] [.inl s0] := by
  unfold fMd_follows_j73
  refine s_blk C 42 2 [0, 1, 2, 3, 4] (pc' := 77) (lv' := [(0, .inr (.inl (some (gM G)))), (1, .inl x1), (2, .inl x2), (3, .inl x3), (4, .inl x4)]) (st' := [.inl s0]) rfl ?_
  refine s_ine C 44 rfl (fun _ => ?_) (fun _ => ?_)
  · refine s_blk C 45 1 [] (pc' := 81) (lv' := []) (st' := [.inl 0]) rfl ?_
    exact s_zret C 46 rfl rfl
  refine s_blk C 47 1 [0, 1, 2, 3] (pc' := 84) (lv' := [(0, .inr (.inl (some (gM G)))), (1, .inl x1), (2, .inl x2), (3, .inl x3)]) (st' := [.inl x4]) rfl ?_
  refine s_ine C 48 rfl (fun _ => ?_) (fun _ => ?_)
  · refine s_blk C 49 4 [0, 1] (pc' := 91) (lv' := [(0, .inr (.inl (some (gM G)))), (1, .inl x1)]) (st' := [.inr (.inl (some (gM G))), .inl x3, .inl x2, .inr (.inl (some (gM G)))]) rfl ?_
    refine s_mF hG C 53 rfl fl_X12_157 rfl (fun v1 => ?_)
    refine s_ine C 54 rfl (fun _ => ?_) (fun _ => ?_)
    · refine s_blk C 55 2 [0, 1] (pc' := 102) (lv' := [(0, .inr (.inl (some (gM G)))), (1, .inl x1)]) (st' := [.inl 1, .inl x3, .inl x2, .inr (.inl (some (gM G)))]) rfl ?_
      exact wMd_follows_j102 hG C htab _ _ _ _ _
    refine s_blk C 57 1 [0, 1] (pc' := 102) (lv' := [(0, .inr (.inl (some (gM G)))), (1, .inl x1)]) (st' := [.inl 0, .inl x3, .inl x2, .inr (.inl (some (gM G)))]) rfl ?_
    exact wMd_follows_j102 hG C htab _ _ _ _ _
  refine s_blk C 0 0 [0, 1] (pc' := 105) (lv' := [(0, .inr (.inl (some (gM G)))), (1, .inl x1)]) (st' := []) rfl ?_
  exact wMd_follows_j105 hG C htab _ _
def fMd_follows_j72 (x1 : Int32) (x2 : Int32) (x3 : Int32) (x4 : Int32) (σ : Sg) : Option (Int32 × Sg) :=
  fMd_follows_j73 x1 x2 x3 x4 0 σ
theorem wMd_follows_j72 {X : MC} {G : GE} {n0 : Nat} (hG : gH G = true) (C : CX X G RX12 cX12_follows pMd_follows 7 (some .boolean) n0) (htab : ∀ z ∈ X.2.2.2.2.2.2.2.2.exceptionTable.toList, False) {M : Mm} {n : Nat} (x1 : Int32) (x2 : Int32) (x3 : Int32) (x4 : Int32) (σ : Sg) : JS X G 7 300 0 n0 (EM X G n0 8 300 (eS rvI M n)) (fMd_follows_j72 x1 x2 x3 x4 σ) (σ, M, n) 72 [(0, .inr (.inl (some (gM G)))), (1, .inl x1), (2, .inl x2), (3, .inl x3), (4, .inl x4)] [] := by
  unfold fMd_follows_j72
  refine s_blk C 41 1 [0, 1, 2, 3, 4] (pc' := 73) (lv' := [(0, .inr (.inl (some (gM G)))), (1, .inl x1), (2, .inl x2), (3, .inl x3), (4, .inl x4)]) (st' := [.inl 0]) rfl ?_
  exact wMd_follows_j73 hG C htab _ _ _ _ _ _
def fMd_follows_j68 (x1 : Int32) (x2 : Int32) (x3 : Int32) (x4 : Int32) (σ : Sg) : Option (Int32 × Sg) :=
  fMd_follows_j73 x1 x2 x3 x4 1 σ
theorem wMd_follows_j68 {X : MC} {G : GE} {n0 : Nat} (hG : gH G = true) (C : CX X G RX12 cX12_follows pMd_follows 7 (some .boolean) n0) (htab : ∀ z ∈ X.2.2.2.2.2.2.2.2.exceptionTable.toList, False) {M : Mm} {n : Nat} (x1 : Int32) (x2 : Int32) (x3 : Int32) (x4 : Int32) (σ : Sg) : JS X G 7 300 0 n0 (EM X G n0 8 300 (eS rvI M n)) (fMd_follows_j68 x1 x2 x3 x4 σ) (σ, M, n) 68 [(0, .inr (.inl (some (gM G)))), (1, .inl x1), (2, .inl x2), (3, .inl x3), (4, .inl x4)] [] := by
  unfold fMd_follows_j68
  refine s_blk C 39 2 [0, 1, 2, 3, 4] (pc' := 73) (lv' := [(0, .inr (.inl (some (gM G)))), (1, .inl x1), (2, .inl x2), (3, .inl x3), (4, .inl x4)]) (st' := [.inl 1]) rfl ?_
  exact wMd_follows_j73 hG C htab _ _ _ _ _ _
def fMd_follows (x1 : Int32) (σ : Sg) : Option (Int32 × Sg) :=
  mgA 37 (200 * x1) σ fun v1 =>
  bdW (fMd_takes v1 σ) fun v2 σ3 =>
  mgA 35 ((201 * (1 - x1)) + v1) σ3 fun v4 =>
  if v4 = 0 then
    mgF 3 σ3 fun v5 =>
    if v5 = 0 then
      mgA 26 (1 - x1) σ3 fun v6 =>
      if 40 ≤ v6 then
        fMd_follows_j72 x1 (1 - x1) v1 v4 σ3
      else
        fMd_follows_j68 x1 (1 - x1) v1 v4 σ3
    else
      bdR (fMd_hasRoom (1 - x1) σ3) fun v7 =>
      if v7 = 0 then
        fMd_follows_j72 x1 (1 - x1) v1 v4 σ3
      else
        fMd_follows_j68 x1 (1 - x1) v1 v4 σ3
  else
    fMd_follows_j68 x1 (1 - x1) v1 v4 σ3
theorem wMd_follows {X : MC} {G : GE} {n0 : Nat} (hG : gH G = true) (C : CX X G RX12 cX12_follows pMd_follows 7 (some .boolean) n0) (htab : ∀ z ∈ X.2.2.2.2.2.2.2.2.exceptionTable.toList, False) {M : Mm} {n : Nat} (x1 : Int32) (σ : Sg) : JS X G 7 300 0 n0 (EM X G n0 8 300 (eS rvI M n)) (fMd_follows x1 σ) (σ, M, n) 0 [(0, .inr (.inl (some (gM G)))), (1, .inl x1)] [] := by
  unfold fMd_follows
  refine s_blk C 0 5 [0, 1, 2] (pc' := 5) (lv' := [(0, .inr (.inl (some (gM G)))), (1, .inl x1), (2, .inl (1 - x1))]) (st' := [.inr (.inl (some (gM G)))]) rfl ?_
  refine s_mR hG C 5 rfl 37 fl_X12_101 rfl ?_
  refine s_blk C 6 3 [0, 1, 2] (pc' := 13) (lv' := [(0, .inr (.inl (some (gM G)))), (1, .inl x1), (2, .inl (1 - x1))]) (st' := [.inl (200 * x1), .inr (.inl (some (gA G 37)))]) rfl ?_
  refine s_mldI hG C 9 rfl rfl rfl (fun v1 => ?_)
  refine s_blk C 10 3 [0, 1, 2, 3] (pc' := 17) (lv' := [(0, .inr (.inl (some (gM G)))), (1, .inl x1), (2, .inl (1 - x1)), (3, .inl v1)]) (st' := [.inl v1, .inr (.inl (some (gM G)))]) rfl ?_
  refine s_SU (CE_EM _ _ _ _ _ _) (st := []) (fun o ho => j_callV (As := [.inl v1]) (st := []) (b := gM G) C 13 rfl mf_Md_takes ml_X12_321 rfl (recv_M hG C) (by decide) (by decide) (Nat.le_refl _) rfl (cMd_takes (CX_tr C) hG σ M n v1 o ho)) (fun v2 σ3 => ?_)
  refine s_blk C 14 1 [0, 1, 2, 3] (pc' := 21) (lv' := [(0, .inr (.inl (some (gM G)))), (1, .inl x1), (2, .inl (1 - x1)), (3, .inl v1)]) (st' := [.inr (.inl (some (gM G)))]) rfl ?_
  refine s_mR hG C 15 rfl 35 fl_X12_95 rfl ?_
  refine s_blk C 16 5 [0, 1, 2, 3] (pc' := 31) (lv' := [(0, .inr (.inl (some (gM G)))), (1, .inl x1), (2, .inl (1 - x1)), (3, .inl v1)]) (st' := [.inl ((201 * (1 - x1)) + v1), .inr (.inl (some (gA G 35)))]) rfl ?_
  refine s_mldZ hG C 21 rfl rfl rfl (fun v4 => ?_)
  refine s_blk C 22 2 [0, 1, 2, 3, 4] (pc' := 36) (lv' := [(0, .inr (.inl (some (gM G)))), (1, .inl x1), (2, .inl (1 - x1)), (3, .inl v1), (4, .inl v4)]) (st' := [.inl v4]) rfl ?_
  refine s_ine C 24 rfl (fun _ => ?_) (fun _ => ?_)
  · refine s_blk C 25 1 [0, 1, 2, 3, 4] (pc' := 40) (lv' := [(0, .inr (.inl (some (gM G)))), (1, .inl x1), (2, .inl (1 - x1)), (3, .inl v1), (4, .inl v4)]) (st' := [.inr (.inl (some (gM G)))]) rfl ?_
    refine s_mF hG C 26 rfl fl_X12_157 rfl (fun v5 => ?_)
    refine s_ine C 27 rfl (fun _ => ?_) (fun _ => ?_)
    · refine s_blk C 28 1 [0, 1, 2, 3, 4] (pc' := 47) (lv' := [(0, .inr (.inl (some (gM G)))), (1, .inl x1), (2, .inl (1 - x1)), (3, .inl v1), (4, .inl v4)]) (st' := [.inr (.inl (some (gM G)))]) rfl ?_
      refine s_mR hG C 29 rfl 26 fl_X12_68 rfl ?_
      refine s_blk C 30 1 [0, 1, 2, 3, 4] (pc' := 51) (lv' := [(0, .inr (.inl (some (gM G)))), (1, .inl x1), (2, .inl (1 - x1)), (3, .inl v1), (4, .inl v4)]) (st' := [.inl (1 - x1), .inr (.inl (some (gA G 26)))]) rfl ?_
      refine s_mldI hG C 31 rfl rfl rfl (fun v6 => ?_)
      refine s_blk C 32 1 [0, 1, 2, 3, 4] (pc' := 54) (lv' := [(0, .inr (.inl (some (gM G)))), (1, .inl x1), (2, .inl (1 - x1)), (3, .inl v1), (4, .inl v4)]) (st' := [.inl 40, .inl v6]) rfl ?_
      refine s_icge C 33 rfl (fun _ => ?_) (fun _ => ?_)
      · exact wMd_follows_j72 hG C htab _ _ _ _ _
      refine s_blk C 34 1 [0, 1, 2, 3, 4] (pc' := 68) (lv' := [(0, .inr (.inl (some (gM G)))), (1, .inl x1), (2, .inl (1 - x1)), (3, .inl v1), (4, .inl v4)]) (st' := []) rfl ?_
      exact wMd_follows_j68 hG C htab _ _ _ _ _
    refine s_blk C 35 2 [0, 1, 2, 3, 4] (pc' := 62) (lv' := [(0, .inr (.inl (some (gM G)))), (1, .inl x1), (2, .inl (1 - x1)), (3, .inl v1), (4, .inl v4)]) (st' := [.inl (1 - x1), .inr (.inl (some (gM G)))]) rfl ?_
    refine s_RI (CE_EM _ _ _ _ _ _) (st := []) (fun o ho => j_callV (As := [.inl (1 - x1)]) (st := []) (b := gM G) C 37 rfl mf_Md_hasRoom ml_X12_244 rfl (recv_M hG C) (by decide) (by decide) (Nat.le_refl _) rfl (cMd_hasRoom (CX_tr C) hG σ3 M n (1 - x1) o ho)) (fun v7 => ?_)
    refine s_ieq C 38 rfl (fun _ => ?_) (fun _ => ?_)
    · exact wMd_follows_j72 hG C htab _ _ _ _ _
    exact wMd_follows_j68 hG C htab _ _ _ _ _
  exact wMd_follows_j68 hG C htab _ _ _ _ _
theorem cMd_follows {l : Launch} {G : GE} (htr : l.stackTraces = false) (hG : gH G = true) (σ : Sg) (M : Mm) (n : Nat) (x1 : Int32) : ∀ o, fMd_follows x1 σ = some o → MetX l G yX12_follows cX12_follows 7 (some .boolean) 8 300 [.inr (.inl (some (gM G))), .inl x1] (σ, M, n) ((eS rvI M n) o) :=
  c_ofX (by decide) kMd_follows htr rfl rfl fun X _ _ C htab => wMd_follows hG C htab x1 _
def pMd_follow : List BR := [(0, .aload_n 0, 1, 0, 1), (1, .iload_n 1, 1, 0, 2), (2, .invokestatic 225, 3, 0, 5), (5, .ifCond .ne (7), 3, 0, 12), (8, .iconst 1, 1, 1, 9), (9, .goto (18), 3, 0, 27), (12, .iload_n 2, 1, 0, 13), (13, .iconst 1, 1, 1, 14), (14, .bipush 99, 2, 99, 16), (16, .invokestatic 132, 3, 0, 19), (19, .ifCond .eq (7), 3, 0, 26), (22, .iconst 0, 1, 0, 23), (23, .goto (4), 3, 0, 27), (26, .iconst 2, 1, 2, 27), (27, .invokevirtual 150, 3, 0, 30), (30, .ifCond .ne (5), 3, 0, 35), (33, .iconst 0, 1, 0, 34), (34, .ireturn, 1, 0, 35), (35, .iconst 0, 1, 0, 36), (36, .istore_n 3, 1, 0, 37), (37, .iload_n 3, 1, 0, 38), (38, .iload_n 2, 1, 0, 39), (39, .if_icmp .ge (26), 3, 0, 65), (42, .aload_n 0, 1, 0, 43), (43, .getfield 98, 3, 0, 46), (46, .iload_n 1, 1, 0, 47), (47, .iaload, 1, 0, 48), (48, .ifCond .le (17), 3, 0, 65), (51, .aload_n 0, 1, 0, 52), (52, .iload_n 1, 1, 0, 53), (53, .invokevirtual 324, 3, 0, 56), (56, .ifCond .eq (9), 3, 0, 65), (59, .iinc 3 (1), 3, 1, 62), (62, .goto (-25), 3, 0, 37), (65, .iload_n 3, 1, 0, 66), (66, .ireturn, 1, 0, 67)]
theorem kMd_follow : bOK cX12_follow 4 pMd_follow = true := by decide +kernel
def fMd_follow_b37 (k37 : Int32 → Int32 → Int32 → Sg → Option (Int32 × Sg)) (x1 : Int32) (x2 : Int32) (x3 : Int32) (σ : Sg) : Option (Int32 × Sg) :=
  if x2 ≤ x3 then
    some (x3, σ)
  else
    mgA 36 x1 σ fun v1 =>
    if v1 ≤ 0 then
      some (x3, σ)
    else
      bdW (fMd_follows x1 σ) fun v2 σ3 =>
      if v2 = 0 then
        some (x3, σ3)
      else
        k37 x1 x2 (x3 + 1) σ3
theorem wMd_follow_b37 {X : MC} {G : GE} {n0 : Nat} (hG : gH G = true) (C : CX X G RX12 cX12_follow pMd_follow 4 (some .int) n0) (htab : ∀ z ∈ X.2.2.2.2.2.2.2.2.exceptionTable.toList, False) {M : Mm} {n : Nat} (k37 : Int32 → Int32 → Int32 → Sg → Option (Int32 × Sg)) (H37 : ∀ (x1 : Int32) (x2 : Int32) (x3 : Int32) (σ : Sg), JS X G 4 300 0 n0 (EM X G n0 9 300 (eS rvI M n)) (k37 x1 x2 x3 σ) (σ, M, n) 37 [(0, .inr (.inl (some (gM G)))), (1, .inl x1), (2, .inl x2), (3, .inl x3)] []) (x1 : Int32) (x2 : Int32) (x3 : Int32) (σ : Sg) : JS X G 4 300 0 n0 (EM X G n0 9 300 (eS rvI M n)) (fMd_follow_b37 k37 x1 x2 x3 σ) (σ, M, n) 37 [(0, .inr (.inl (some (gM G)))), (1, .inl x1), (2, .inl x2), (3, .inl x3)] [] := by
  unfold fMd_follow_b37
  refine s_blk C 20 2 [0, 1, 2, 3] (pc' := 39) (lv' := [(0, .inr (.inl (some (gM G)))), (1, .inl x1), (2, .inl x2), (3, .inl x3)]) (st' := [.inl x2, .inl x3]) rfl ?_
  refine s_icge C 22 rfl (fun _ => ?_) (fun _ => ?_)
  · refine s_blk C 34 1 [] (pc' := 66) (lv' := []) (st' := [.inl x3]) rfl ?_
    exact s_iret C 35 rfl rfl
  refine s_blk C 23 1 [0, 1, 2, 3] (pc' := 43) (lv' := [(0, .inr (.inl (some (gM G)))), (1, .inl x1), (2, .inl x2), (3, .inl x3)]) (st' := [.inr (.inl (some (gM G)))]) rfl ?_
  refine s_mR hG C 24 rfl 36 fl_X12_98 rfl ?_
  refine s_blk C 25 1 [0, 1, 2, 3] (pc' := 47) (lv' := [(0, .inr (.inl (some (gM G)))), (1, .inl x1), (2, .inl x2), (3, .inl x3)]) (st' := [.inl x1, .inr (.inl (some (gA G 36)))]) rfl ?_
  refine s_mldI hG C 26 rfl rfl rfl (fun v1 => ?_)
  refine s_ile C 27 rfl (fun _ => ?_) (fun _ => ?_)
  · refine s_blk C 34 1 [] (pc' := 66) (lv' := []) (st' := [.inl x3]) rfl ?_
    exact s_iret C 35 rfl rfl
  refine s_blk C 28 2 [0, 1, 2, 3] (pc' := 53) (lv' := [(0, .inr (.inl (some (gM G)))), (1, .inl x1), (2, .inl x2), (3, .inl x3)]) (st' := [.inl x1, .inr (.inl (some (gM G)))]) rfl ?_
  refine s_SI (CE_EM _ _ _ _ _ _) (st := []) (fun o ho => j_callV (As := [.inl x1]) (st := []) (b := gM G) C 30 rfl mf_Md_follows ml_X12_324 rfl (recv_M hG C) (by decide) (by decide) (Nat.le_refl _) rfl (cMd_follows (CX_tr C) hG σ M n x1 o ho)) (fun v2 σ3 => ?_)
  refine s_ieq C 31 rfl (fun _ => ?_) (fun _ => ?_)
  · refine s_blk C 34 1 [] (pc' := 66) (lv' := []) (st' := [.inl x3]) rfl ?_
    exact s_iret C 35 rfl rfl
  refine s_blk C 32 2 [0, 1, 2, 3] (pc' := 37) (lv' := [(0, .inr (.inl (some (gM G)))), (1, .inl x1), (2, .inl x2), (3, .inl (x3 + 1))]) (st' := []) rfl ?_
  exact H37 _ _ _ _
def fMd_follow_l37 (fu : Nat) : Int32 → Int32 → Int32 → Sg → Option (Int32 × Sg) := Nat.rec (fun x1 x2 x3 σ => none) (fun _ k => fMd_follow_b37 k) fu
theorem wMd_follow_l37 {X : MC} {G : GE} {n0 : Nat} (hG : gH G = true) (C : CX X G RX12 cX12_follow pMd_follow 4 (some .int) n0) (htab : ∀ z ∈ X.2.2.2.2.2.2.2.2.exceptionTable.toList, False) {M : Mm} {n : Nat} : ∀ (fu : Nat) (x1 : Int32) (x2 : Int32) (x3 : Int32) (σ : Sg), JS X G 4 300 0 n0 (EM X G n0 9 300 (eS rvI M n)) (fMd_follow_l37 fu x1 x2 x3 σ) (σ, M, n) 37 [(0, .inr (.inl (some (gM G)))), (1, .inl x1), (2, .inl x2), (3, .inl x3)] [] := by
  intro fu
  induction fu with
  | zero => intro x1 x2 x3 σ; exact s_none
  | succ fu ih => intro x1 x2 x3 σ; exact wMd_follow_b37 hG C htab (fMd_follow_l37 fu) ih _ _ _ _
def fMd_follow_j27 (x1 : Int32) (x2 : Int32) (s0 : Int32) (σ : Sg) : Option (Int32 × Sg) :=
  bdW (fMd_holds s0 σ) fun v1 σ2 =>
  if v1 = 0 then
    some (0, σ2)
  else
    fMd_follow_l37 FU x1 x2 0 σ2
theorem wMd_follow_j27 {X : MC} {G : GE} {n0 : Nat} (hG : gH G = true) (C : CX X G RX12 cX12_follow pMd_follow 4 (some .int) n0) (htab : ∀ z ∈ X.2.2.2.2.2.2.2.2.exceptionTable.toList, False) {M : Mm} {n : Nat} (x1 : Int32) (x2 : Int32) (s0 : Int32) (σ : Sg) : JS X G 4 300 0 n0 (EM X G n0 9 300 (eS rvI M n)) (fMd_follow_j27 x1 x2 s0 σ) (σ, M, n) 27 [(0, .inr (.inl (some (gM G)))), (1, .inl x1), (2, .inl x2)] [.inl s0, .inr (.inl (some (gM G)))] := by
  unfold fMd_follow_j27
  refine s_SI (CE_EM _ _ _ _ _ _) (st := []) (fun o ho => j_callV (As := [.inl s0]) (st := []) (b := gM G) C 14 rfl mf_Md_holds ml_X12_150 rfl (recv_M hG C) (by decide) (by decide) (Nat.le_refl _) rfl (cMd_holds (CX_tr C) hG σ M n s0 o ho)) (fun v1 σ2 => ?_)
  refine s_ine C 15 rfl (fun _ => ?_) (fun _ => ?_)
  · refine s_blk C 16 1 [] (pc' := 34) (lv' := []) (st' := [.inl 0]) rfl ?_
    exact s_iret C 17 rfl rfl
  refine s_blk C 18 2 [0, 1, 2, 3] (pc' := 37) (lv' := [(0, .inr (.inl (some (gM G)))), (1, .inl x1), (2, .inl x2), (3, .inl 0)]) (st' := []) rfl ?_
  exact wMd_follow_l37 hG C htab FU _ _ _ _
def fMd_follow (x1 : Int32) (x2 : Int32) (σ : Sg) : Option (Int32 × Sg) :=
  bdR (fMd_isRegion x1) fun v1 =>
  if v1 = 0 then
    fMd_follow_j27 x1 x2 1 σ
  else
    bdR (fMd_isIn x2 1 99) fun v2 =>
    if v2 = 0 then
      fMd_follow_j27 x1 x2 2 σ
    else
      fMd_follow_j27 x1 x2 0 σ
theorem wMd_follow {X : MC} {G : GE} {n0 : Nat} (hG : gH G = true) (C : CX X G RX12 cX12_follow pMd_follow 4 (some .int) n0) (htab : ∀ z ∈ X.2.2.2.2.2.2.2.2.exceptionTable.toList, False) {M : Mm} {n : Nat} (x1 : Int32) (x2 : Int32) (σ : Sg) : JS X G 4 300 0 n0 (EM X G n0 9 300 (eS rvI M n)) (fMd_follow x1 x2 σ) (σ, M, n) 0 [(0, .inr (.inl (some (gM G)))), (1, .inl x1), (2, .inl x2)] [] := by
  unfold fMd_follow
  refine s_blk C 0 2 [0, 1, 2] (pc' := 2) (lv' := [(0, .inr (.inl (some (gM G)))), (1, .inl x1), (2, .inl x2)]) (st' := [.inl x1, .inr (.inl (some (gM G)))]) rfl ?_
  refine s_RI (CE_EM _ _ _ _ _ _) (st := [.inr (.inl (some (gM G)))]) (fun o ho => j_callS (As := [.inl x1]) (st := [.inr (.inl (some (gM G)))]) C 2 rfl mf_Md_isRegion ml_X12_225 rfl (by decide) (by decide) (Nat.le_refl _) rfl (cMd_isRegion (CX_tr C) hG σ M n x1 o ho)) (fun v1 => ?_)
  refine s_ine C 3 rfl (fun _ => ?_) (fun _ => ?_)
  · refine s_blk C 4 2 [0, 1, 2] (pc' := 27) (lv' := [(0, .inr (.inl (some (gM G)))), (1, .inl x1), (2, .inl x2)]) (st' := [.inl 1, .inr (.inl (some (gM G)))]) rfl ?_
    exact wMd_follow_j27 hG C htab _ _ _ _
  refine s_blk C 6 3 [0, 1, 2] (pc' := 16) (lv' := [(0, .inr (.inl (some (gM G)))), (1, .inl x1), (2, .inl x2)]) (st' := [.inl 99, .inl 1, .inl x2, .inr (.inl (some (gM G)))]) rfl ?_
  refine s_RI (CE_EM _ _ _ _ _ _) (st := [.inr (.inl (some (gM G)))]) (fun o ho => j_callS (As := [.inl x2, .inl 1, .inl 99]) (st := [.inr (.inl (some (gM G)))]) C 9 rfl mf_Md_isIn ml_X12_132 rfl (by decide) (by decide) (Nat.le_refl _) rfl (cMd_isIn (CX_tr C) hG σ M n x2 1 99 o ho)) (fun v2 => ?_)
  refine s_ieq C 10 rfl (fun _ => ?_) (fun _ => ?_)
  · refine s_blk C 13 1 [0, 1, 2] (pc' := 27) (lv' := [(0, .inr (.inl (some (gM G)))), (1, .inl x1), (2, .inl x2)]) (st' := [.inl 2, .inr (.inl (some (gM G)))]) rfl ?_
    exact wMd_follow_j27 hG C htab _ _ _ _
  refine s_blk C 11 2 [0, 1, 2] (pc' := 27) (lv' := [(0, .inr (.inl (some (gM G)))), (1, .inl x1), (2, .inl x2)]) (st' := [.inl 0, .inr (.inl (some (gM G)))]) rfl ?_
  exact wMd_follow_j27 hG C htab _ _ _ _
theorem cMd_follow {l : Launch} {G : GE} (htr : l.stackTraces = false) (hG : gH G = true) (σ : Sg) (M : Mm) (n : Nat) (x1 : Int32) (x2 : Int32) : ∀ o, fMd_follow x1 x2 σ = some o → MetX l G yX12_follow cX12_follow 4 (some .int) 9 300 [.inr (.inl (some (gM G))), .inl x1, .inl x2] (σ, M, n) ((eS rvI M n) o) :=
  c_ofX (by decide) kMd_follow htr rfl rfl fun X _ _ C htab => wMd_follow hG C htab x1 x2 _
def pMd_freeNode_0 : List BR := [(0, .bipush 90, 2, 90, 2), (2, .iload_n 1, 1, 0, 3), (3, .imul, 1, 0, 4), (4, .iload_n 2, 1, 0, 5), (5, .iadd, 1, 0, 6), (6, .istore_n 3, 1, 0, 7), (7, .iconst 0, 1, 0, 8), (8, .istore 4, 2, 0, 10), (10, .iload 4, 2, 0, 12), (12, .bipush 6, 2, 6, 14), (14, .if_icmp .ge (90), 3, 0, 104), (17, .iload_n 2, 1, 0, 18), (18, .iload 4, 2, 0, 20), (20, .invokestatic 189, 3, 0, 23), (23, .istore 5, 2, 0, 25), (25, .aload_n 0, 1, 0, 26), (26, .getfield 40, 3, 0, 29), (29, .bipush 6, 2, 6, 31), (31, .iload_n 1, 1, 0, 32), (32, .imul, 1, 0, 33), (33, .iload 5, 2, 0, 35), (35, .iadd, 1, 0, 36), (36, .baload, 1, 0, 37), (37, .ifCond .ne (7), 3, 0, 44), (40, .iconst 1, 1, 1, 41), (41, .goto (4), 3, 0, 45), (44, .iconst 0, 1, 0, 45), (45, .istore 6, 2, 0, 47), (47, .iconst 0, 1, 0, 48), (48, .istore 7, 2, 0, 50), (50, .iload 7, 2, 0, 52), (52, .iconst 5, 1, 5, 53), (53, .if_icmp .ge (37), 3, 0, 90), (56, .iload 6, 2, 0, 58), (58, .ifCond .eq (23), 3, 0, 81), (61, .aload_n 0, 1, 0, 62), (62, .getfield 59, 3, 0, 65), (65, .iconst 5, 1, 5, 66), (66, .iload_n 3, 1, 0, 67), (67, .imul, 1, 0, 68)]
theorem kMd_freeNode_0 : bOK cX12_freeNode 8 pMd_freeNode_0 = true := by decide +kernel
def pMd_freeNode_1 : List BR := [(68, .iload 7, 2, 0, 70), (70, .iadd, 1, 0, 71), (71, .iaload, 1, 0, 72), (72, .iload 5, 2, 0, 74), (74, .if_icmp .eq (7), 3, 0, 81), (77, .iconst 1, 1, 1, 78), (78, .goto (4), 3, 0, 82), (81, .iconst 0, 1, 0, 82), (82, .istore 6, 2, 0, 84), (84, .iinc 7 (1), 3, 1, 87), (87, .goto (-37), 3, 0, 50), (90, .iload 6, 2, 0, 92), (92, .ifCond .eq (6), 3, 0, 98), (95, .iload 5, 2, 0, 97), (97, .ireturn, 1, 0, 98), (98, .iinc 4 (1), 3, 1, 101), (101, .goto (-91), 3, 0, 10), (104, .iconst (-1), 1, -1, 105), (105, .ireturn, 1, 0, 106)]
theorem kMd_freeNode_1 : bOK cX12_freeNode 8 pMd_freeNode_1 = true := by decide +kernel
def pMd_freeNode : List BR := (pMd_freeNode_0 ++ pMd_freeNode_1)
theorem kMd_freeNode : bOK cX12_freeNode 8 pMd_freeNode = true := (bOK_app kMd_freeNode_0 kMd_freeNode_1)
def fMd_freeNode_j82 (k10 : Int32 → Int32 → Int32 → Int32 → Sg → Option (Int32)) (k50 : Int32 → Int32 → Int32 → Int32 → Int32 → Int32 → Int32 → Sg → Option (Int32)) (x1 : Int32) (x2 : Int32) (x3 : Int32) (x4 : Int32) (x5 : Int32) (x7 : Int32) (s0 : Int32) (σ : Sg) : Option (Int32) :=
  k50 x1 x2 x3 x4 x5 s0 (x7 + 1) σ
theorem wMd_freeNode_j82 {X : MC} {G : GE} {n0 : Nat} (hG : gH G = true) (C : CX X G RX12 cX12_freeNode pMd_freeNode 8 (some .int) n0) (htab : ∀ z ∈ X.2.2.2.2.2.2.2.2.exceptionTable.toList, False) {σ : Sg} {M : Mm} {n : Nat} (k10 : Int32 → Int32 → Int32 → Int32 → Sg → Option (Int32)) (H10 : ∀ (x1 : Int32) (x2 : Int32) (x3 : Int32) (x4 : Int32), JS X G 8 300 0 n0 (EM X G n0 4 300 (eR rvI σ M n)) (k10 x1 x2 x3 x4 σ) (σ, M, n) 10 [(0, .inr (.inl (some (gM G)))), (1, .inl x1), (2, .inl x2), (3, .inl x3), (4, .inl x4)] []) (k50 : Int32 → Int32 → Int32 → Int32 → Int32 → Int32 → Int32 → Sg → Option (Int32)) (H50 : ∀ (x1 : Int32) (x2 : Int32) (x3 : Int32) (x4 : Int32) (x5 : Int32) (x6 : Int32) (x7 : Int32), JS X G 8 300 0 n0 (EM X G n0 4 300 (eR rvI σ M n)) (k50 x1 x2 x3 x4 x5 x6 x7 σ) (σ, M, n) 50 [(0, .inr (.inl (some (gM G)))), (1, .inl x1), (2, .inl x2), (3, .inl x3), (4, .inl x4), (5, .inl x5), (6, .inl x6), (7, .inl x7)] []) (x1 : Int32) (x2 : Int32) (x3 : Int32) (x4 : Int32) (x5 : Int32) (x7 : Int32) (s0 : Int32) : JS X G 8 300 0 n0 (EM X G n0 4 300 (eR rvI σ M n)) (fMd_freeNode_j82 k10 k50 x1 x2 x3 x4 x5 x7 s0 σ) (σ, M, n) 82 [(0, .inr (.inl (some (gM G)))), (1, .inl x1), (2, .inl x2), (3, .inl x3), (4, .inl x4), (5, .inl x5), (7, .inl x7)] [.inl s0] := by
  unfold fMd_freeNode_j82
  refine s_blk C 48 3 [0, 1, 2, 3, 4, 5, 6, 7] (pc' := 50) (lv' := [(0, .inr (.inl (some (gM G)))), (1, .inl x1), (2, .inl x2), (3, .inl x3), (4, .inl x4), (5, .inl x5), (6, .inl s0), (7, .inl (x7 + 1))]) (st' := []) rfl ?_
  exact H50 _ _ _ _ _ _ _
def fMd_freeNode_j81 (k10 : Int32 → Int32 → Int32 → Int32 → Sg → Option (Int32)) (k50 : Int32 → Int32 → Int32 → Int32 → Int32 → Int32 → Int32 → Sg → Option (Int32)) (x1 : Int32) (x2 : Int32) (x3 : Int32) (x4 : Int32) (x5 : Int32) (x7 : Int32) (σ : Sg) : Option (Int32) :=
  fMd_freeNode_j82 k10 k50 x1 x2 x3 x4 x5 x7 0 σ
theorem wMd_freeNode_j81 {X : MC} {G : GE} {n0 : Nat} (hG : gH G = true) (C : CX X G RX12 cX12_freeNode pMd_freeNode 8 (some .int) n0) (htab : ∀ z ∈ X.2.2.2.2.2.2.2.2.exceptionTable.toList, False) {σ : Sg} {M : Mm} {n : Nat} (k10 : Int32 → Int32 → Int32 → Int32 → Sg → Option (Int32)) (H10 : ∀ (x1 : Int32) (x2 : Int32) (x3 : Int32) (x4 : Int32), JS X G 8 300 0 n0 (EM X G n0 4 300 (eR rvI σ M n)) (k10 x1 x2 x3 x4 σ) (σ, M, n) 10 [(0, .inr (.inl (some (gM G)))), (1, .inl x1), (2, .inl x2), (3, .inl x3), (4, .inl x4)] []) (k50 : Int32 → Int32 → Int32 → Int32 → Int32 → Int32 → Int32 → Sg → Option (Int32)) (H50 : ∀ (x1 : Int32) (x2 : Int32) (x3 : Int32) (x4 : Int32) (x5 : Int32) (x6 : Int32) (x7 : Int32), JS X G 8 300 0 n0 (EM X G n0 4 300 (eR rvI σ M n)) (k50 x1 x2 x3 x4 x5 x6 x7 σ) (σ, M, n) 50 [(0, .inr (.inl (some (gM G)))), (1, .inl x1), (2, .inl x2), (3, .inl x3), (4, .inl x4), (5, .inl x5), (6, .inl x6), (7, .inl x7)] []) (x1 : Int32) (x2 : Int32) (x3 : Int32) (x4 : Int32) (x5 : Int32) (x7 : Int32) : JS X G 8 300 0 n0 (EM X G n0 4 300 (eR rvI σ M n)) (fMd_freeNode_j81 k10 k50 x1 x2 x3 x4 x5 x7 σ) (σ, M, n) 81 [(0, .inr (.inl (some (gM G)))), (1, .inl x1), (2, .inl x2), (3, .inl x3), (4, .inl x4), (5, .inl x5), (7, .inl x7)] [] := by
  unfold fMd_freeNode_j81
  refine s_blk C 47 1 [0, 1, 2, 3, 4, 5, 7] (pc' := 82) (lv' := [(0, .inr (.inl (some (gM G)))), (1, .inl x1), (2, .inl x2), (3, .inl x3), (4, .inl x4), (5, .inl x5), (7, .inl x7)]) (st' := [.inl 0]) rfl ?_
  exact wMd_freeNode_j82 hG C htab k10 H10 k50 H50 _ _ _ _ _ _ _
def fMd_freeNode_b50 (k10 : Int32 → Int32 → Int32 → Int32 → Sg → Option (Int32)) (k50 : Int32 → Int32 → Int32 → Int32 → Int32 → Int32 → Int32 → Sg → Option (Int32)) (x1 : Int32) (x2 : Int32) (x3 : Int32) (x4 : Int32) (x5 : Int32) (x6 : Int32) (x7 : Int32) (σ : Sg) : Option (Int32) :=
  if 5 ≤ x7 then
    if x6 = 0 then
      k10 x1 x2 x3 (x4 + 1) σ
    else
      some x5
  else
    if x6 = 0 then
      fMd_freeNode_j81 k10 k50 x1 x2 x3 x4 x5 x7 σ
    else
      mgA 23 ((5 * x3) + x7) σ fun v1 =>
      if v1 = x5 then
        fMd_freeNode_j81 k10 k50 x1 x2 x3 x4 x5 x7 σ
      else
        fMd_freeNode_j82 k10 k50 x1 x2 x3 x4 x5 x7 1 σ
theorem wMd_freeNode_b50 {X : MC} {G : GE} {n0 : Nat} (hG : gH G = true) (C : CX X G RX12 cX12_freeNode pMd_freeNode 8 (some .int) n0) (htab : ∀ z ∈ X.2.2.2.2.2.2.2.2.exceptionTable.toList, False) {σ : Sg} {M : Mm} {n : Nat} (k10 : Int32 → Int32 → Int32 → Int32 → Sg → Option (Int32)) (H10 : ∀ (x1 : Int32) (x2 : Int32) (x3 : Int32) (x4 : Int32), JS X G 8 300 0 n0 (EM X G n0 4 300 (eR rvI σ M n)) (k10 x1 x2 x3 x4 σ) (σ, M, n) 10 [(0, .inr (.inl (some (gM G)))), (1, .inl x1), (2, .inl x2), (3, .inl x3), (4, .inl x4)] []) (k50 : Int32 → Int32 → Int32 → Int32 → Int32 → Int32 → Int32 → Sg → Option (Int32)) (H50 : ∀ (x1 : Int32) (x2 : Int32) (x3 : Int32) (x4 : Int32) (x5 : Int32) (x6 : Int32) (x7 : Int32), JS X G 8 300 0 n0 (EM X G n0 4 300 (eR rvI σ M n)) (k50 x1 x2 x3 x4 x5 x6 x7 σ) (σ, M, n) 50 [(0, .inr (.inl (some (gM G)))), (1, .inl x1), (2, .inl x2), (3, .inl x3), (4, .inl x4), (5, .inl x5), (6, .inl x6), (7, .inl x7)] []) (x1 : Int32) (x2 : Int32) (x3 : Int32) (x4 : Int32) (x5 : Int32) (x6 : Int32) (x7 : Int32) : JS X G 8 300 0 n0 (EM X G n0 4 300 (eR rvI σ M n)) (fMd_freeNode_b50 k10 k50 x1 x2 x3 x4 x5 x6 x7 σ) (σ, M, n) 50 [(0, .inr (.inl (some (gM G)))), (1, .inl x1), (2, .inl x2), (3, .inl x3), (4, .inl x4), (5, .inl x5), (6, .inl x6), (7, .inl x7)] [] := by
  unfold fMd_freeNode_b50
  refine s_blk C 30 2 [0, 1, 2, 3, 4, 5, 6, 7] (pc' := 53) (lv' := [(0, .inr (.inl (some (gM G)))), (1, .inl x1), (2, .inl x2), (3, .inl x3), (4, .inl x4), (5, .inl x5), (6, .inl x6), (7, .inl x7)]) (st' := [.inl 5, .inl x7]) rfl ?_
  refine s_icge C 32 rfl (fun _ => ?_) (fun _ => ?_)
  · refine s_blk C 51 1 [0, 1, 2, 3, 4, 5] (pc' := 92) (lv' := [(0, .inr (.inl (some (gM G)))), (1, .inl x1), (2, .inl x2), (3, .inl x3), (4, .inl x4), (5, .inl x5)]) (st' := [.inl x6]) rfl ?_
    refine s_ieq C 52 rfl (fun _ => ?_) (fun _ => ?_)
    · refine s_blk C 55 2 [0, 1, 2, 3, 4] (pc' := 10) (lv' := [(0, .inr (.inl (some (gM G)))), (1, .inl x1), (2, .inl x2), (3, .inl x3), (4, .inl (x4 + 1))]) (st' := []) rfl ?_
      exact H10 _ _ _ _
    refine s_blk C 53 1 [] (pc' := 97) (lv' := []) (st' := [.inl x5]) rfl ?_
    exact s_iret C 54 rfl rfl
  refine s_blk C 33 1 [0, 1, 2, 3, 4, 5, 7] (pc' := 58) (lv' := [(0, .inr (.inl (some (gM G)))), (1, .inl x1), (2, .inl x2), (3, .inl x3), (4, .inl x4), (5, .inl x5), (7, .inl x7)]) (st' := [.inl x6]) rfl ?_
  refine s_ieq C 34 rfl (fun _ => ?_) (fun _ => ?_)
  · exact wMd_freeNode_j81 hG C htab k10 H10 k50 H50 _ _ _ _ _ _
  refine s_blk C 35 1 [0, 1, 2, 3, 4, 5, 7] (pc' := 62) (lv' := [(0, .inr (.inl (some (gM G)))), (1, .inl x1), (2, .inl x2), (3, .inl x3), (4, .inl x4), (5, .inl x5), (7, .inl x7)]) (st' := [.inr (.inl (some (gM G)))]) rfl ?_
  refine s_mR hG C 36 rfl 23 fl_X12_59 rfl ?_
  refine s_blk C 37 5 [0, 1, 2, 3, 4, 5, 7] (pc' := 71) (lv' := [(0, .inr (.inl (some (gM G)))), (1, .inl x1), (2, .inl x2), (3, .inl x3), (4, .inl x4), (5, .inl x5), (7, .inl x7)]) (st' := [.inl ((5 * x3) + x7), .inr (.inl (some (gA G 23)))]) rfl ?_
  refine s_mldI hG C 42 rfl rfl rfl (fun v1 => ?_)
  refine s_blk C 43 1 [0, 1, 2, 3, 4, 5, 7] (pc' := 74) (lv' := [(0, .inr (.inl (some (gM G)))), (1, .inl x1), (2, .inl x2), (3, .inl x3), (4, .inl x4), (5, .inl x5), (7, .inl x7)]) (st' := [.inl x5, .inl v1]) rfl ?_
  refine s_iceq C 44 rfl (fun _ => ?_) (fun _ => ?_)
  · exact wMd_freeNode_j81 hG C htab k10 H10 k50 H50 _ _ _ _ _ _
  refine s_blk C 45 2 [0, 1, 2, 3, 4, 5, 7] (pc' := 82) (lv' := [(0, .inr (.inl (some (gM G)))), (1, .inl x1), (2, .inl x2), (3, .inl x3), (4, .inl x4), (5, .inl x5), (7, .inl x7)]) (st' := [.inl 1]) rfl ?_
  exact wMd_freeNode_j82 hG C htab k10 H10 k50 H50 _ _ _ _ _ _ _
def fMd_freeNode_l50 (k10 : Int32 → Int32 → Int32 → Int32 → Sg → Option (Int32)) (fu : Nat) : Int32 → Int32 → Int32 → Int32 → Int32 → Int32 → Int32 → Sg → Option (Int32) := Nat.rec (fun x1 x2 x3 x4 x5 x6 x7 σ => none) (fun _ k => fMd_freeNode_b50 k10 k) fu
theorem wMd_freeNode_l50 {X : MC} {G : GE} {n0 : Nat} (hG : gH G = true) (C : CX X G RX12 cX12_freeNode pMd_freeNode 8 (some .int) n0) (htab : ∀ z ∈ X.2.2.2.2.2.2.2.2.exceptionTable.toList, False) {σ : Sg} {M : Mm} {n : Nat} (k10 : Int32 → Int32 → Int32 → Int32 → Sg → Option (Int32)) (H10 : ∀ (x1 : Int32) (x2 : Int32) (x3 : Int32) (x4 : Int32), JS X G 8 300 0 n0 (EM X G n0 4 300 (eR rvI σ M n)) (k10 x1 x2 x3 x4 σ) (σ, M, n) 10 [(0, .inr (.inl (some (gM G)))), (1, .inl x1), (2, .inl x2), (3, .inl x3), (4, .inl x4)] []) : ∀ (fu : Nat) (x1 : Int32) (x2 : Int32) (x3 : Int32) (x4 : Int32) (x5 : Int32) (x6 : Int32) (x7 : Int32), JS X G 8 300 0 n0 (EM X G n0 4 300 (eR rvI σ M n)) (fMd_freeNode_l50 k10 fu x1 x2 x3 x4 x5 x6 x7 σ) (σ, M, n) 50 [(0, .inr (.inl (some (gM G)))), (1, .inl x1), (2, .inl x2), (3, .inl x3), (4, .inl x4), (5, .inl x5), (6, .inl x6), (7, .inl x7)] [] := by
  intro fu
  induction fu with
  | zero => intro x1 x2 x3 x4 x5 x6 x7; exact s_none
  | succ fu ih => intro x1 x2 x3 x4 x5 x6 x7; exact wMd_freeNode_b50 hG C htab k10 H10 (fMd_freeNode_l50 k10 fu) ih _ _ _ _ _ _ _
def fMd_freeNode_j45 (k10 : Int32 → Int32 → Int32 → Int32 → Sg → Option (Int32)) (x1 : Int32) (x2 : Int32) (x3 : Int32) (x4 : Int32) (x5 : Int32) (s0 : Int32) (σ : Sg) : Option (Int32) :=
  fMd_freeNode_l50 k10 FU x1 x2 x3 x4 x5 s0 0 σ
theorem wMd_freeNode_j45 {X : MC} {G : GE} {n0 : Nat} (hG : gH G = true) (C : CX X G RX12 cX12_freeNode pMd_freeNode 8 (some .int) n0) (htab : ∀ z ∈ X.2.2.2.2.2.2.2.2.exceptionTable.toList, False) {σ : Sg} {M : Mm} {n : Nat} (k10 : Int32 → Int32 → Int32 → Int32 → Sg → Option (Int32)) (H10 : ∀ (x1 : Int32) (x2 : Int32) (x3 : Int32) (x4 : Int32), JS X G 8 300 0 n0 (EM X G n0 4 300 (eR rvI σ M n)) (k10 x1 x2 x3 x4 σ) (σ, M, n) 10 [(0, .inr (.inl (some (gM G)))), (1, .inl x1), (2, .inl x2), (3, .inl x3), (4, .inl x4)] []) (x1 : Int32) (x2 : Int32) (x3 : Int32) (x4 : Int32) (x5 : Int32) (s0 : Int32) : JS X G 8 300 0 n0 (EM X G n0 4 300 (eR rvI σ M n)) (fMd_freeNode_j45 k10 x1 x2 x3 x4 x5 s0 σ) (σ, M, n) 45 [(0, .inr (.inl (some (gM G)))), (1, .inl x1), (2, .inl x2), (3, .inl x3), (4, .inl x4), (5, .inl x5)] [.inl s0] := by
  unfold fMd_freeNode_j45
  refine s_blk C 27 3 [0, 1, 2, 3, 4, 5, 6, 7] (pc' := 50) (lv' := [(0, .inr (.inl (some (gM G)))), (1, .inl x1), (2, .inl x2), (3, .inl x3), (4, .inl x4), (5, .inl x5), (6, .inl s0), (7, .inl 0)]) (st' := []) rfl ?_
  exact wMd_freeNode_l50 hG C htab k10 H10 FU _ _ _ _ _ _ _
def fMd_freeNode_b10 (k10 : Int32 → Int32 → Int32 → Int32 → Sg → Option (Int32)) (x1 : Int32) (x2 : Int32) (x3 : Int32) (x4 : Int32) (σ : Sg) : Option (Int32) :=
  if 6 ≤ x4 then
    some (-1)
  else
    bdR (fMd_ordered x2 x4) fun v1 =>
    mgA 17 ((6 * x1) + v1) σ fun v2 =>
    if v2 = 0 then
      fMd_freeNode_j45 k10 x1 x2 x3 x4 v1 1 σ
    else
      fMd_freeNode_j45 k10 x1 x2 x3 x4 v1 0 σ
theorem wMd_freeNode_b10 {X : MC} {G : GE} {n0 : Nat} (hG : gH G = true) (C : CX X G RX12 cX12_freeNode pMd_freeNode 8 (some .int) n0) (htab : ∀ z ∈ X.2.2.2.2.2.2.2.2.exceptionTable.toList, False) {σ : Sg} {M : Mm} {n : Nat} (k10 : Int32 → Int32 → Int32 → Int32 → Sg → Option (Int32)) (H10 : ∀ (x1 : Int32) (x2 : Int32) (x3 : Int32) (x4 : Int32), JS X G 8 300 0 n0 (EM X G n0 4 300 (eR rvI σ M n)) (k10 x1 x2 x3 x4 σ) (σ, M, n) 10 [(0, .inr (.inl (some (gM G)))), (1, .inl x1), (2, .inl x2), (3, .inl x3), (4, .inl x4)] []) (x1 : Int32) (x2 : Int32) (x3 : Int32) (x4 : Int32) : JS X G 8 300 0 n0 (EM X G n0 4 300 (eR rvI σ M n)) (fMd_freeNode_b10 k10 x1 x2 x3 x4 σ) (σ, M, n) 10 [(0, .inr (.inl (some (gM G)))), (1, .inl x1), (2, .inl x2), (3, .inl x3), (4, .inl x4)] [] := by
  unfold fMd_freeNode_b10
  refine s_blk C 8 2 [0, 1, 2, 3, 4] (pc' := 14) (lv' := [(0, .inr (.inl (some (gM G)))), (1, .inl x1), (2, .inl x2), (3, .inl x3), (4, .inl x4)]) (st' := [.inl 6, .inl x4]) rfl ?_
  refine s_icge C 10 rfl (fun _ => ?_) (fun _ => ?_)
  · refine s_blk C 57 1 [] (pc' := 105) (lv' := []) (st' := [.inl (-1)]) rfl ?_
    exact s_iret C 58 rfl rfl
  refine s_blk C 11 2 [0, 1, 2, 3, 4] (pc' := 20) (lv' := [(0, .inr (.inl (some (gM G)))), (1, .inl x1), (2, .inl x2), (3, .inl x3), (4, .inl x4)]) (st' := [.inl x4, .inl x2]) rfl ?_
  refine s_RI (CE_EM _ _ _ _ _ _) (st := []) (fun o ho => j_callS (As := [.inl x2, .inl x4]) (st := []) C 13 rfl mf_Md_ordered ml_X12_189 rfl (by decide) (by decide) (Nat.le_refl _) rfl (cMd_ordered (CX_tr C) hG σ M n x2 x4 o ho)) (fun v1 => ?_)
  refine s_blk C 14 2 [0, 1, 2, 3, 4, 5] (pc' := 26) (lv' := [(0, .inr (.inl (some (gM G)))), (1, .inl x1), (2, .inl x2), (3, .inl x3), (4, .inl x4), (5, .inl v1)]) (st' := [.inr (.inl (some (gM G)))]) rfl ?_
  refine s_mR hG C 16 rfl 17 fl_X12_40 rfl ?_
  refine s_blk C 17 5 [0, 1, 2, 3, 4, 5] (pc' := 36) (lv' := [(0, .inr (.inl (some (gM G)))), (1, .inl x1), (2, .inl x2), (3, .inl x3), (4, .inl x4), (5, .inl v1)]) (st' := [.inl ((6 * x1) + v1), .inr (.inl (some (gA G 17)))]) rfl ?_
  refine s_mldZ hG C 22 rfl rfl rfl (fun v2 => ?_)
  refine s_ine C 23 rfl (fun _ => ?_) (fun _ => ?_)
  · refine s_blk C 24 2 [0, 1, 2, 3, 4, 5] (pc' := 45) (lv' := [(0, .inr (.inl (some (gM G)))), (1, .inl x1), (2, .inl x2), (3, .inl x3), (4, .inl x4), (5, .inl v1)]) (st' := [.inl 1]) rfl ?_
    exact wMd_freeNode_j45 hG C htab k10 H10 _ _ _ _ _ _
  refine s_blk C 26 1 [0, 1, 2, 3, 4, 5] (pc' := 45) (lv' := [(0, .inr (.inl (some (gM G)))), (1, .inl x1), (2, .inl x2), (3, .inl x3), (4, .inl x4), (5, .inl v1)]) (st' := [.inl 0]) rfl ?_
  exact wMd_freeNode_j45 hG C htab k10 H10 _ _ _ _ _ _
def fMd_freeNode_l10 (fu : Nat) : Int32 → Int32 → Int32 → Int32 → Sg → Option (Int32) := Nat.rec (fun x1 x2 x3 x4 σ => none) (fun _ k => fMd_freeNode_b10 k) fu
theorem wMd_freeNode_l10 {X : MC} {G : GE} {n0 : Nat} (hG : gH G = true) (C : CX X G RX12 cX12_freeNode pMd_freeNode 8 (some .int) n0) (htab : ∀ z ∈ X.2.2.2.2.2.2.2.2.exceptionTable.toList, False) {σ : Sg} {M : Mm} {n : Nat} : ∀ (fu : Nat) (x1 : Int32) (x2 : Int32) (x3 : Int32) (x4 : Int32), JS X G 8 300 0 n0 (EM X G n0 4 300 (eR rvI σ M n)) (fMd_freeNode_l10 fu x1 x2 x3 x4 σ) (σ, M, n) 10 [(0, .inr (.inl (some (gM G)))), (1, .inl x1), (2, .inl x2), (3, .inl x3), (4, .inl x4)] [] := by
  intro fu
  induction fu with
  | zero => intro x1 x2 x3 x4; exact s_none
  | succ fu ih => intro x1 x2 x3 x4; exact wMd_freeNode_b10 hG C htab (fMd_freeNode_l10 fu) ih _ _ _ _
def fMd_freeNode (x1 : Int32) (x2 : Int32) (σ : Sg) : Option (Int32) :=
  fMd_freeNode_l10 FU x1 x2 ((90 * x1) + x2) 0 σ
theorem wMd_freeNode {X : MC} {G : GE} {n0 : Nat} (hG : gH G = true) (C : CX X G RX12 cX12_freeNode pMd_freeNode 8 (some .int) n0) (htab : ∀ z ∈ X.2.2.2.2.2.2.2.2.exceptionTable.toList, False) {σ : Sg} {M : Mm} {n : Nat} (x1 : Int32) (x2 : Int32) : JS X G 8 300 0 n0 (EM X G n0 4 300 (eR rvI σ M n)) (fMd_freeNode x1 x2 σ) (σ, M, n) 0 [(0, .inr (.inl (some (gM G)))), (1, .inl x1), (2, .inl x2)] [] := by
  unfold fMd_freeNode
  refine s_blk C 0 8 [0, 1, 2, 3, 4] (pc' := 10) (lv' := [(0, .inr (.inl (some (gM G)))), (1, .inl x1), (2, .inl x2), (3, .inl ((90 * x1) + x2)), (4, .inl 0)]) (st' := []) rfl ?_
  exact wMd_freeNode_l10 hG C htab FU _ _ _ _
theorem cMd_freeNode {l : Launch} {G : GE} (htr : l.stackTraces = false) (hG : gH G = true) (σ : Sg) (M : Mm) (n : Nat) (x1 : Int32) (x2 : Int32) : ∀ o, fMd_freeNode x1 x2 σ = some o → MetX l G yX12_freeNode cX12_freeNode 8 (some .int) 4 300 [.inr (.inl (some (gM G))), .inl x1, .inl x2] (σ, M, n) ((eR rvI σ M n) o) :=
  c_ofX (by decide) kMd_freeNode htr rfl rfl fun X _ _ C htab => wMd_freeNode hG C htab x1 x2

def pMd_list_0 : List BR := [(0, .iload_n 2, 1, 0, 1), (1, .ifCond .eq (10), 3, 0, 11), (4, .iload_n 2, 1, 0, 5), (5, .invokestatic 228, 3, 0, 8), (8, .ifCond .eq (18), 3, 0, 26), (11, .iload_n 3, 1, 0, 12), (12, .ifCond .eq (10), 3, 0, 22), (15, .iload_n 3, 1, 0, 16), (16, .invokestatic 228, 3, 0, 19), (19, .ifCond .eq (7), 3, 0, 26), (22, .iconst 1, 1, 1, 23), (23, .goto (4), 3, 0, 27), (26, .iconst 0, 1, 0, 27), (27, .istore 5, 2, 0, 29), (29, .aload_n 0, 1, 0, 30), (30, .iload_n 1, 1, 0, 31), (31, .invokestatic 225, 3, 0, 34), (34, .ifCond .eq (8), 3, 0, 42), (37, .iload 4, 2, 0, 39), (39, .ifCond .ge (7), 3, 0, 46), (42, .iconst 1, 1, 1, 43), (43, .goto (13), 3, 0, 56), (46, .iload 5, 2, 0, 48), (48, .ifCond .eq (7), 3, 0, 55), (51, .iconst 0, 1, 0, 52), (52, .goto (4), 3, 0, 56), (55, .iconst 2, 1, 2, 56), (56, .invokevirtual 150, 3, 0, 59), (59, .ifCond .ne (5), 3, 0, 64), (62, .iconst 0, 1, 0, 63), (63, .ireturn, 1, 0, 64), (64, .iload_n 3, 1, 0, 65), (65, .ifCond .ne (7), 3, 0, 72), (68, .iconst 0, 1, 0, 69), (69, .goto (7), 3, 0, 76), (72, .iload_n 3, 1, 0, 73), (73, .invokestatic 295, 3, 0, 76), (76, .istore 6, 2, 0, 78), (78, .iconst 0, 1, 0, 79), (79, .istore 7, 2, 0, 81)]
theorem kMd_list_0 : bOK cX12_list 13 pMd_list_0 = true := by decide +kernel
def pMd_list_1 : List BR := [(81, .iconst 0, 1, 0, 82), (82, .istore 8, 2, 0, 84), (84, .iload 8, 2, 0, 86), (86, .iload 4, 2, 0, 88), (88, .if_icmp .gt (146), 3, 0, 234), (91, .iload 8, 2, 0, 93), (93, .ifCond .eq (8), 3, 0, 101), (96, .iload 7, 2, 0, 98), (98, .ifCond .le (136), 3, 0, 234), (101, .iconst 0, 1, 0, 102), (102, .istore 7, 2, 0, 104), (104, .iconst 0, 1, 0, 105), (105, .istore 9, 2, 0, 107), (107, .bipush 40, 2, 40, 109), (109, .iload_n 1, 1, 0, 110), (110, .imul, 1, 0, 111), (111, .istore 10, 2, 0, 113), (113, .iload 10, 2, 0, 115), (115, .aload_n 0, 1, 0, 116), (116, .iload_n 1, 1, 0, 117), (117, .invokevirtual 219, 3, 0, 120), (120, .if_icmp .ge (104), 3, 0, 224), (123, .aload_n 0, 1, 0, 124), (124, .getfield 74, 3, 0, 127), (127, .iload 10, 2, 0, 129), (129, .iaload, 1, 0, 130), (130, .invokestatic 295, 3, 0, 133), (133, .istore 11, 2, 0, 135), (135, .aload_n 0, 1, 0, 136), (136, .iload_n 1, 1, 0, 137), (137, .iload 10, 2, 0, 139), (139, .invokevirtual 298, 3, 0, 142), (142, .ifCond .eq (40), 3, 0, 182), (145, .aload_n 0, 1, 0, 146), (146, .getfield 74, 3, 0, 149), (149, .iload 10, 2, 0, 151), (151, .iaload, 1, 0, 152), (152, .iload_n 2, 1, 0, 153), (153, .invokestatic 301, 3, 0, 156), (156, .ifCond .eq (26), 3, 0, 182)]
theorem kMd_list_1 : bOK cX12_list 13 pMd_list_1 = true := by decide +kernel
def pMd_list_2 : List BR := [(159, .iload 11, 2, 0, 161), (161, .iload 6, 2, 0, 163), (163, .if_icmp .le (19), 3, 0, 182), (166, .iload 7, 2, 0, 168), (168, .ifCond .eq (10), 3, 0, 178), (171, .iload 11, 2, 0, 173), (173, .iload 9, 2, 0, 175), (175, .if_icmp .ge (7), 3, 0, 182), (178, .iconst 1, 1, 1, 179), (179, .goto (4), 3, 0, 183), (182, .iconst 0, 1, 0, 183), (183, .istore 12, 2, 0, 185), (185, .iload 12, 2, 0, 187), (187, .ifCond .eq (13), 3, 0, 200), (190, .aload_n 0, 1, 0, 191), (191, .getfield 74, 3, 0, 194), (194, .iload 10, 2, 0, 196), (196, .iaload, 1, 0, 197), (197, .goto (5), 3, 0, 202), (200, .iload 7, 2, 0, 202), (202, .istore 7, 2, 0, 204), (204, .iload 12, 2, 0, 206), (206, .ifCond .eq (8), 3, 0, 214), (209, .iload 11, 2, 0, 211), (211, .goto (5), 3, 0, 216), (214, .iload 9, 2, 0, 216), (216, .istore 9, 2, 0, 218), (218, .iinc 10 (1), 3, 1, 221), (221, .goto (-108), 3, 0, 113), (224, .iload 9, 2, 0, 226), (226, .istore 6, 2, 0, 228), (228, .iinc 8 (1), 3, 1, 231), (231, .goto (-147), 3, 0, 84), (234, .iload 7, 2, 0, 236), (236, .ireturn, 1, 0, 237)]
theorem kMd_list_2 : bOK cX12_list 13 pMd_list_2 = true := by decide +kernel
def pMd_list : List BR := (pMd_list_0 ++ (pMd_list_1 ++ pMd_list_2))
theorem kMd_list : bOK cX12_list 13 pMd_list = true := (bOK_app kMd_list_0 (bOK_app kMd_list_1 kMd_list_2))
def fMd_list_j216 (k84 : Int32 → Int32 → Int32 → Int32 → Int32 → Int32 → Sg → Option (Int32 × Sg)) (k113 : Int32 → Int32 → Int32 → Int32 → Int32 → Int32 → Int32 → Int32 → Sg → Option (Int32 × Sg)) (x1 : Int32) (x2 : Int32) (x4 : Int32) (x6 : Int32) (x7 : Int32) (x8 : Int32) (x10 : Int32) (s0 : Int32) (σ : Sg) : Option (Int32 × Sg) :=
  k113 x1 x2 x4 x6 x7 x8 s0 (x10 + 1) σ
theorem wMd_list_j216 {X : MC} {G : GE} {n0 : Nat} (hG : gH G = true) (C : CX X G RX12 cX12_list pMd_list 13 (some .int) n0) (htab : ∀ z ∈ X.2.2.2.2.2.2.2.2.exceptionTable.toList, False) {M : Mm} {n : Nat} (k84 : Int32 → Int32 → Int32 → Int32 → Int32 → Int32 → Sg → Option (Int32 × Sg)) (H84 : ∀ (x1 : Int32) (x2 : Int32) (x4 : Int32) (x6 : Int32) (x7 : Int32) (x8 : Int32) (σ : Sg), JS X G 13 300 0 n0 (EM X G n0 5 300 (eS rvI M n)) (k84 x1 x2 x4 x6 x7 x8 σ) (σ, M, n) 84 [(0, .inr (.inl (some (gM G)))), (1, .inl x1), (2, .inl x2), (4, .inl x4), (6, .inl x6), (7, .inl x7), (8, .inl x8)] []) (k113 : Int32 → Int32 → Int32 → Int32 → Int32 → Int32 → Int32 → Int32 → Sg → Option (Int32 × Sg)) (H113 : ∀ (x1 : Int32) (x2 : Int32) (x4 : Int32) (x6 : Int32) (x7 : Int32) (x8 : Int32) (x9 : Int32) (x10 : Int32) (σ : Sg), JS X G 13 300 0 n0 (EM X G n0 5 300 (eS rvI M n)) (k113 x1 x2 x4 x6 x7 x8 x9 x10 σ) (σ, M, n) 113 [(0, .inr (.inl (some (gM G)))), (1, .inl x1), (2, .inl x2), (4, .inl x4), (6, .inl x6), (7, .inl x7), (8, .inl x8), (9, .inl x9), (10, .inl x10)] []) (x1 : Int32) (x2 : Int32) (x4 : Int32) (x6 : Int32) (x7 : Int32) (x8 : Int32) (x10 : Int32) (s0 : Int32) (σ : Sg) : JS X G 13 300 0 n0 (EM X G n0 5 300 (eS rvI M n)) (fMd_list_j216 k84 k113 x1 x2 x4 x6 x7 x8 x10 s0 σ) (σ, M, n) 216 [(0, .inr (.inl (some (gM G)))), (1, .inl x1), (2, .inl x2), (4, .inl x4), (6, .inl x6), (7, .inl x7), (8, .inl x8), (10, .inl x10)] [.inl s0] := by
  unfold fMd_list_j216
  refine s_blk C 106 3 [0, 1, 2, 4, 6, 7, 8, 9, 10] (pc' := 113) (lv' := [(0, .inr (.inl (some (gM G)))), (1, .inl x1), (2, .inl x2), (4, .inl x4), (6, .inl x6), (7, .inl x7), (8, .inl x8), (9, .inl s0), (10, .inl (x10 + 1))]) (st' := []) rfl ?_
  exact H113 _ _ _ _ _ _ _ _ _
def fMd_list_j202 (k84 : Int32 → Int32 → Int32 → Int32 → Int32 → Int32 → Sg → Option (Int32 × Sg)) (k113 : Int32 → Int32 → Int32 → Int32 → Int32 → Int32 → Int32 → Int32 → Sg → Option (Int32 × Sg)) (x1 : Int32) (x2 : Int32) (x4 : Int32) (x6 : Int32) (x8 : Int32) (x9 : Int32) (x10 : Int32) (x11 : Int32) (x12 : Int32) (s0 : Int32) (σ : Sg) : Option (Int32 × Sg) :=
  if x12 = 0 then
    fMd_list_j216 k84 k113 x1 x2 x4 x6 s0 x8 x10 x9 σ
  else
    fMd_list_j216 k84 k113 x1 x2 x4 x6 s0 x8 x10 x11 σ
theorem wMd_list_j202 {X : MC} {G : GE} {n0 : Nat} (hG : gH G = true) (C : CX X G RX12 cX12_list pMd_list 13 (some .int) n0) (htab : ∀ z ∈ X.2.2.2.2.2.2.2.2.exceptionTable.toList, False) {M : Mm} {n : Nat} (k84 : Int32 → Int32 → Int32 → Int32 → Int32 → Int32 → Sg → Option (Int32 × Sg)) (H84 : ∀ (x1 : Int32) (x2 : Int32) (x4 : Int32) (x6 : Int32) (x7 : Int32) (x8 : Int32) (σ : Sg), JS X G 13 300 0 n0 (EM X G n0 5 300 (eS rvI M n)) (k84 x1 x2 x4 x6 x7 x8 σ) (σ, M, n) 84 [(0, .inr (.inl (some (gM G)))), (1, .inl x1), (2, .inl x2), (4, .inl x4), (6, .inl x6), (7, .inl x7), (8, .inl x8)] []) (k113 : Int32 → Int32 → Int32 → Int32 → Int32 → Int32 → Int32 → Int32 → Sg → Option (Int32 × Sg)) (H113 : ∀ (x1 : Int32) (x2 : Int32) (x4 : Int32) (x6 : Int32) (x7 : Int32) (x8 : Int32) (x9 : Int32) (x10 : Int32) (σ : Sg), JS X G 13 300 0 n0 (EM X G n0 5 300 (eS rvI M n)) (k113 x1 x2 x4 x6 x7 x8 x9 x10 σ) (σ, M, n) 113 [(0, .inr (.inl (some (gM G)))), (1, .inl x1), (2, .inl x2), (4, .inl x4), (6, .inl x6), (7, .inl x7), (8, .inl x8), (9, .inl x9), (10, .inl x10)] []) (x1 : Int32) (x2 : Int32) (x4 : Int32) (x6 : Int32) (x8 : Int32) (x9 : Int32) (x10 : Int32) (x11 : Int32) (x12 : Int32) (s0 : Int32) (σ : Sg) : JS X G 13 300 0 n0 (EM X G n0 5 300 (eS rvI M n)) (fMd_list_j202 k84 k113 x1 x2 x4 x6 x8 x9 x10 x11 x12 s0 σ) (σ, M, n) 202 [(0, .inr (.inl (some (gM G)))), (1, .inl x1), (2, .inl x2), (4, .inl x4), (6, .inl x6), (8, .inl x8), (9, .inl x9), (10, .inl x10), (11, .inl x11), (12, .inl x12)] [.inl s0] := by
  unfold fMd_list_j202
  refine s_blk C 100 2 [0, 1, 2, 4, 6, 7, 8, 9, 10, 11] (pc' := 206) (lv' := [(0, .inr (.inl (some (gM G)))), (1, .inl x1), (2, .inl x2), (4, .inl x4), (6, .inl x6), (7, .inl s0), (8, .inl x8), (9, .inl x9), (10, .inl x10), (11, .inl x11)]) (st' := [.inl x12]) rfl ?_
  refine s_ieq C 102 rfl (fun _ => ?_) (fun _ => ?_)
  · refine s_blk C 105 1 [0, 1, 2, 4, 6, 7, 8, 10] (pc' := 216) (lv' := [(0, .inr (.inl (some (gM G)))), (1, .inl x1), (2, .inl x2), (4, .inl x4), (6, .inl x6), (7, .inl s0), (8, .inl x8), (10, .inl x10)]) (st' := [.inl x9]) rfl ?_
    exact wMd_list_j216 hG C htab k84 H84 k113 H113 _ _ _ _ _ _ _ _ _
  refine s_blk C 103 2 [0, 1, 2, 4, 6, 7, 8, 10] (pc' := 216) (lv' := [(0, .inr (.inl (some (gM G)))), (1, .inl x1), (2, .inl x2), (4, .inl x4), (6, .inl x6), (7, .inl s0), (8, .inl x8), (10, .inl x10)]) (st' := [.inl x11]) rfl ?_
  exact wMd_list_j216 hG C htab k84 H84 k113 H113 _ _ _ _ _ _ _ _ _
def fMd_list_j183 (k84 : Int32 → Int32 → Int32 → Int32 → Int32 → Int32 → Sg → Option (Int32 × Sg)) (k113 : Int32 → Int32 → Int32 → Int32 → Int32 → Int32 → Int32 → Int32 → Sg → Option (Int32 × Sg)) (x1 : Int32) (x2 : Int32) (x4 : Int32) (x6 : Int32) (x7 : Int32) (x8 : Int32) (x9 : Int32) (x10 : Int32) (x11 : Int32) (s0 : Int32) (σ : Sg) : Option (Int32 × Sg) :=
  if s0 = 0 then
    fMd_list_j202 k84 k113 x1 x2 x4 x6 x8 x9 x10 x11 s0 x7 σ
  else
    mgA 28 x10 σ fun v1 =>
    fMd_list_j202 k84 k113 x1 x2 x4 x6 x8 x9 x10 x11 s0 v1 σ
theorem wMd_list_j183 {X : MC} {G : GE} {n0 : Nat} (hG : gH G = true) (C : CX X G RX12 cX12_list pMd_list 13 (some .int) n0) (htab : ∀ z ∈ X.2.2.2.2.2.2.2.2.exceptionTable.toList, False) {M : Mm} {n : Nat} (k84 : Int32 → Int32 → Int32 → Int32 → Int32 → Int32 → Sg → Option (Int32 × Sg)) (H84 : ∀ (x1 : Int32) (x2 : Int32) (x4 : Int32) (x6 : Int32) (x7 : Int32) (x8 : Int32) (σ : Sg), JS X G 13 300 0 n0 (EM X G n0 5 300 (eS rvI M n)) (k84 x1 x2 x4 x6 x7 x8 σ) (σ, M, n) 84 [(0, .inr (.inl (some (gM G)))), (1, .inl x1), (2, .inl x2), (4, .inl x4), (6, .inl x6), (7, .inl x7), (8, .inl x8)] []) (k113 : Int32 → Int32 → Int32 → Int32 → Int32 → Int32 → Int32 → Int32 → Sg → Option (Int32 × Sg)) (H113 : ∀ (x1 : Int32) (x2 : Int32) (x4 : Int32) (x6 : Int32) (x7 : Int32) (x8 : Int32) (x9 : Int32) (x10 : Int32) (σ : Sg), JS X G 13 300 0 n0 (EM X G n0 5 300 (eS rvI M n)) (k113 x1 x2 x4 x6 x7 x8 x9 x10 σ) (σ, M, n) 113 [(0, .inr (.inl (some (gM G)))), (1, .inl x1), (2, .inl x2), (4, .inl x4), (6, .inl x6), (7, .inl x7), (8, .inl x8), (9, .inl x9), (10, .inl x10)] []) (x1 : Int32) (x2 : Int32) (x4 : Int32) (x6 : Int32) (x7 : Int32) (x8 : Int32) (x9 : Int32) (x10 : Int32) (x11 : Int32) (s0 : Int32) (σ : Sg) : JS X G 13 300 0 n0 (EM X G n0 5 300 (eS rvI M n)) (fMd_list_j183 k84 k113 x1 x2 x4 x6 x7 x8 x9 x10 x11 s0 σ) (σ, M, n) 183 [(0, .inr (.inl (some (gM G)))), (1, .inl x1), (2, .inl x2), (4, .inl x4), (6, .inl x6), (7, .inl x7), (8, .inl x8), (9, .inl x9), (10, .inl x10), (11, .inl x11)] [.inl s0] := by
  unfold fMd_list_j183
  refine s_blk C 91 2 [0, 1, 2, 4, 6, 7, 8, 9, 10, 11, 12] (pc' := 187) (lv' := [(0, .inr (.inl (some (gM G)))), (1, .inl x1), (2, .inl x2), (4, .inl x4), (6, .inl x6), (7, .inl x7), (8, .inl x8), (9, .inl x9), (10, .inl x10), (11, .inl x11), (12, .inl s0)]) (st' := [.inl s0]) rfl ?_
  refine s_ieq C 93 rfl (fun _ => ?_) (fun _ => ?_)
  · refine s_blk C 99 1 [0, 1, 2, 4, 6, 8, 9, 10, 11, 12] (pc' := 202) (lv' := [(0, .inr (.inl (some (gM G)))), (1, .inl x1), (2, .inl x2), (4, .inl x4), (6, .inl x6), (8, .inl x8), (9, .inl x9), (10, .inl x10), (11, .inl x11), (12, .inl s0)]) (st' := [.inl x7]) rfl ?_
    exact wMd_list_j202 hG C htab k84 H84 k113 H113 _ _ _ _ _ _ _ _ _ _ _
  refine s_blk C 94 1 [0, 1, 2, 4, 6, 8, 9, 10, 11, 12] (pc' := 191) (lv' := [(0, .inr (.inl (some (gM G)))), (1, .inl x1), (2, .inl x2), (4, .inl x4), (6, .inl x6), (8, .inl x8), (9, .inl x9), (10, .inl x10), (11, .inl x11), (12, .inl s0)]) (st' := [.inr (.inl (some (gM G)))]) rfl ?_
  refine s_mR hG C 95 rfl 28 fl_X12_74 rfl ?_
  refine s_blk C 96 1 [0, 1, 2, 4, 6, 8, 9, 10, 11, 12] (pc' := 196) (lv' := [(0, .inr (.inl (some (gM G)))), (1, .inl x1), (2, .inl x2), (4, .inl x4), (6, .inl x6), (8, .inl x8), (9, .inl x9), (10, .inl x10), (11, .inl x11), (12, .inl s0)]) (st' := [.inl x10, .inr (.inl (some (gA G 28)))]) rfl ?_
  refine s_mldI hG C 97 rfl rfl rfl (fun v1 => ?_)
  refine s_blk C 98 1 [0, 1, 2, 4, 6, 8, 9, 10, 11, 12] (pc' := 202) (lv' := [(0, .inr (.inl (some (gM G)))), (1, .inl x1), (2, .inl x2), (4, .inl x4), (6, .inl x6), (8, .inl x8), (9, .inl x9), (10, .inl x10), (11, .inl x11), (12, .inl s0)]) (st' := [.inl v1]) rfl ?_
  exact wMd_list_j202 hG C htab k84 H84 k113 H113 _ _ _ _ _ _ _ _ _ _ _
def fMd_list_j182 (k84 : Int32 → Int32 → Int32 → Int32 → Int32 → Int32 → Sg → Option (Int32 × Sg)) (k113 : Int32 → Int32 → Int32 → Int32 → Int32 → Int32 → Int32 → Int32 → Sg → Option (Int32 × Sg)) (x1 : Int32) (x2 : Int32) (x4 : Int32) (x6 : Int32) (x7 : Int32) (x8 : Int32) (x9 : Int32) (x10 : Int32) (x11 : Int32) (σ : Sg) : Option (Int32 × Sg) :=
  fMd_list_j183 k84 k113 x1 x2 x4 x6 x7 x8 x9 x10 x11 0 σ
theorem wMd_list_j182 {X : MC} {G : GE} {n0 : Nat} (hG : gH G = true) (C : CX X G RX12 cX12_list pMd_list 13 (some .int) n0) (htab : ∀ z ∈ X.2.2.2.2.2.2.2.2.exceptionTable.toList, False) {M : Mm} {n : Nat} (k84 : Int32 → Int32 → Int32 → Int32 → Int32 → Int32 → Sg → Option (Int32 × Sg)) (H84 : ∀ (x1 : Int32) (x2 : Int32) (x4 : Int32) (x6 : Int32) (x7 : Int32) (x8 : Int32) (σ : Sg), JS X G 13 300 0 n0 (EM X G n0 5 300 (eS rvI M n)) (k84 x1 x2 x4 x6 x7 x8 σ) (σ, M, n) 84 [(0, .inr (.inl (some (gM G)))), (1, .inl x1), (2, .inl x2), (4, .inl x4), (6, .inl x6), (7, .inl x7), (8, .inl x8)] []) (k113 : Int32 → Int32 → Int32 → Int32 → Int32 → Int32 → Int32 → Int32 → Sg → Option (Int32 × Sg)) (H113 : ∀ (x1 : Int32) (x2 : Int32) (x4 : Int32) (x6 : Int32) (x7 : Int32) (x8 : Int32) (x9 : Int32) (x10 : Int32) (σ : Sg), JS X G 13 300 0 n0 (EM X G n0 5 300 (eS rvI M n)) (k113 x1 x2 x4 x6 x7 x8 x9 x10 σ) (σ, M, n) 113 [(0, .inr (.inl (some (gM G)))), (1, .inl x1), (2, .inl x2), (4, .inl x4), (6, .inl x6), (7, .inl x7), (8, .inl x8), (9, .inl x9), (10, .inl x10)] []) (x1 : Int32) (x2 : Int32) (x4 : Int32) (x6 : Int32) (x7 : Int32) (x8 : Int32) (x9 : Int32) (x10 : Int32) (x11 : Int32) (σ : Sg) : JS X G 13 300 0 n0 (EM X G n0 5 300 (eS rvI M n)) (fMd_list_j182 k84 k113 x1 x2 x4 x6 x7 x8 x9 x10 x11 σ) (σ, M, n) 182 [(0, .inr (.inl (some (gM G)))), (1, .inl x1), (2, .inl x2), (4, .inl x4), (6, .inl x6), (7, .inl x7), (8, .inl x8), (9, .inl x9), (10, .inl x10), (11, .inl x11)] [] := by
  unfold fMd_list_j182
  refine s_blk C 90 1 [0, 1, 2, 4, 6, 7, 8, 9, 10, 11] (pc' := 183) (lv' := [(0, .inr (.inl (some (gM G)))), (1, .inl x1), (2, .inl x2), (4, .inl x4), (6, .inl x6), (7, .inl x7), (8, .inl x8), (9, .inl x9), (10, .inl x10), (11, .inl x11)]) (st' := [.inl 0]) rfl ?_
  exact wMd_list_j183 hG C htab k84 H84 k113 H113 _ _ _ _ _ _ _ _ _ _ _
def fMd_list_j178 (k84 : Int32 → Int32 → Int32 → Int32 → Int32 → Int32 → Sg → Option (Int32 × Sg)) (k113 : Int32 → Int32 → Int32 → Int32 → Int32 → Int32 → Int32 → Int32 → Sg → Option (Int32 × Sg)) (x1 : Int32) (x2 : Int32) (x4 : Int32) (x6 : Int32) (x7 : Int32) (x8 : Int32) (x9 : Int32) (x10 : Int32) (x11 : Int32) (σ : Sg) : Option (Int32 × Sg) :=
  fMd_list_j183 k84 k113 x1 x2 x4 x6 x7 x8 x9 x10 x11 1 σ
theorem wMd_list_j178 {X : MC} {G : GE} {n0 : Nat} (hG : gH G = true) (C : CX X G RX12 cX12_list pMd_list 13 (some .int) n0) (htab : ∀ z ∈ X.2.2.2.2.2.2.2.2.exceptionTable.toList, False) {M : Mm} {n : Nat} (k84 : Int32 → Int32 → Int32 → Int32 → Int32 → Int32 → Sg → Option (Int32 × Sg)) (H84 : ∀ (x1 : Int32) (x2 : Int32) (x4 : Int32) (x6 : Int32) (x7 : Int32) (x8 : Int32) (σ : Sg), JS X G 13 300 0 n0 (EM X G n0 5 300 (eS rvI M n)) (k84 x1 x2 x4 x6 x7 x8 σ) (σ, M, n) 84 [(0, .inr (.inl (some (gM G)))), (1, .inl x1), (2, .inl x2), (4, .inl x4), (6, .inl x6), (7, .inl x7), (8, .inl x8)] []) (k113 : Int32 → Int32 → Int32 → Int32 → Int32 → Int32 → Int32 → Int32 → Sg → Option (Int32 × Sg)) (H113 : ∀ (x1 : Int32) (x2 : Int32) (x4 : Int32) (x6 : Int32) (x7 : Int32) (x8 : Int32) (x9 : Int32) (x10 : Int32) (σ : Sg), JS X G 13 300 0 n0 (EM X G n0 5 300 (eS rvI M n)) (k113 x1 x2 x4 x6 x7 x8 x9 x10 σ) (σ, M, n) 113 [(0, .inr (.inl (some (gM G)))), (1, .inl x1), (2, .inl x2), (4, .inl x4), (6, .inl x6), (7, .inl x7), (8, .inl x8), (9, .inl x9), (10, .inl x10)] []) (x1 : Int32) (x2 : Int32) (x4 : Int32) (x6 : Int32) (x7 : Int32) (x8 : Int32) (x9 : Int32) (x10 : Int32) (x11 : Int32) (σ : Sg) : JS X G 13 300 0 n0 (EM X G n0 5 300 (eS rvI M n)) (fMd_list_j178 k84 k113 x1 x2 x4 x6 x7 x8 x9 x10 x11 σ) (σ, M, n) 178 [(0, .inr (.inl (some (gM G)))), (1, .inl x1), (2, .inl x2), (4, .inl x4), (6, .inl x6), (7, .inl x7), (8, .inl x8), (9, .inl x9), (10, .inl x10), (11, .inl x11)] [] := by
  unfold fMd_list_j178
  refine s_blk C 88 2 [0, 1, 2, 4, 6, 7, 8, 9, 10, 11] (pc' := 183) (lv' := [(0, .inr (.inl (some (gM G)))), (1, .inl x1), (2, .inl x2), (4, .inl x4), (6, .inl x6), (7, .inl x7), (8, .inl x8), (9, .inl x9), (10, .inl x10), (11, .inl x11)]) (st' := [.inl 1]) rfl ?_
  exact wMd_list_j183 hG C htab k84 H84 k113 H113 _ _ _ _ _ _ _ _ _ _ _
def fMd_list_b113 (k84 : Int32 → Int32 → Int32 → Int32 → Int32 → Int32 → Sg → Option (Int32 × Sg)) (k113 : Int32 → Int32 → Int32 → Int32 → Int32 → Int32 → Int32 → Int32 → Sg → Option (Int32 × Sg)) (x1 : Int32) (x2 : Int32) (x4 : Int32) (x6 : Int32) (x7 : Int32) (x8 : Int32) (x9 : Int32) (x10 : Int32) (σ : Sg) : Option (Int32 × Sg) :=
  bdR (fMd_endOf x1 σ) fun v1 =>
  if v1 ≤ x10 then
    k84 x1 x2 x4 x9 x7 (x8 + 1) σ
  else
    mgA 28 x10 σ fun v2 =>
    bdR (fMd_asWord v2) fun v3 =>
    bdR (fMd_isObject x1 x10 σ) fun v4 =>
    if v4 = 0 then
      fMd_list_j182 k84 k113 x1 x2 x4 x6 x7 x8 x9 x10 v3 σ
    else
      mgA 28 x10 σ fun v5 =>
      bdR (fMd_begins v5 x2) fun v6 =>
      if v6 = 0 then
        fMd_list_j182 k84 k113 x1 x2 x4 x6 x7 x8 x9 x10 v3 σ
      else
        if v3 ≤ x6 then
          fMd_list_j182 k84 k113 x1 x2 x4 x6 x7 x8 x9 x10 v3 σ
        else
          if x7 = 0 then
            fMd_list_j178 k84 k113 x1 x2 x4 x6 x7 x8 x9 x10 v3 σ
          else
            if x9 ≤ v3 then
              fMd_list_j182 k84 k113 x1 x2 x4 x6 x7 x8 x9 x10 v3 σ
            else
              fMd_list_j178 k84 k113 x1 x2 x4 x6 x7 x8 x9 x10 v3 σ
theorem wMd_list_b113 {X : MC} {G : GE} {n0 : Nat} (hG : gH G = true) (C : CX X G RX12 cX12_list pMd_list 13 (some .int) n0) (htab : ∀ z ∈ X.2.2.2.2.2.2.2.2.exceptionTable.toList, False) {M : Mm} {n : Nat} (k84 : Int32 → Int32 → Int32 → Int32 → Int32 → Int32 → Sg → Option (Int32 × Sg)) (H84 : ∀ (x1 : Int32) (x2 : Int32) (x4 : Int32) (x6 : Int32) (x7 : Int32) (x8 : Int32) (σ : Sg), JS X G 13 300 0 n0 (EM X G n0 5 300 (eS rvI M n)) (k84 x1 x2 x4 x6 x7 x8 σ) (σ, M, n) 84 [(0, .inr (.inl (some (gM G)))), (1, .inl x1), (2, .inl x2), (4, .inl x4), (6, .inl x6), (7, .inl x7), (8, .inl x8)] []) (k113 : Int32 → Int32 → Int32 → Int32 → Int32 → Int32 → Int32 → Int32 → Sg → Option (Int32 × Sg)) (H113 : ∀ (x1 : Int32) (x2 : Int32) (x4 : Int32) (x6 : Int32) (x7 : Int32) (x8 : Int32) (x9 : Int32) (x10 : Int32) (σ : Sg), JS X G 13 300 0 n0 (EM X G n0 5 300 (eS rvI M n)) (k113 x1 x2 x4 x6 x7 x8 x9 x10 σ) (σ, M, n) 113 [(0, .inr (.inl (some (gM G)))), (1, .inl x1), (2, .inl x2), (4, .inl x4), (6, .inl x6), (7, .inl x7), (8, .inl x8), (9, .inl x9), (10, .inl x10)] []) (x1 : Int32) (x2 : Int32) (x4 : Int32) (x6 : Int32) (x7 : Int32) (x8 : Int32) (x9 : Int32) (x10 : Int32) (σ : Sg) : JS X G 13 300 0 n0 (EM X G n0 5 300 (eS rvI M n)) (fMd_list_b113 k84 k113 x1 x2 x4 x6 x7 x8 x9 x10 σ) (σ, M, n) 113 [(0, .inr (.inl (some (gM G)))), (1, .inl x1), (2, .inl x2), (4, .inl x4), (6, .inl x6), (7, .inl x7), (8, .inl x8), (9, .inl x9), (10, .inl x10)] [] := by
  unfold fMd_list_b113
  refine s_blk C 57 3 [0, 1, 2, 4, 6, 7, 8, 9, 10] (pc' := 117) (lv' := [(0, .inr (.inl (some (gM G)))), (1, .inl x1), (2, .inl x2), (4, .inl x4), (6, .inl x6), (7, .inl x7), (8, .inl x8), (9, .inl x9), (10, .inl x10)]) (st' := [.inl x1, .inr (.inl (some (gM G))), .inl x10]) rfl ?_
  refine s_RI (CE_EM _ _ _ _ _ _) (st := [.inl x10]) (fun o ho => j_callV (As := [.inl x1]) (st := [.inl x10]) (b := gM G) C 60 rfl mf_Md_endOf ml_X12_219 rfl (recv_M hG C) (by decide) (by decide) (Nat.le_refl _) rfl (cMd_endOf (CX_tr C) hG σ M n x1 o ho)) (fun v1 => ?_)
  refine s_icge C 61 rfl (fun _ => ?_) (fun _ => ?_)
  · refine s_blk C 109 4 [0, 1, 2, 4, 6, 7, 8] (pc' := 84) (lv' := [(0, .inr (.inl (some (gM G)))), (1, .inl x1), (2, .inl x2), (4, .inl x4), (6, .inl x9), (7, .inl x7), (8, .inl (x8 + 1))]) (st' := []) rfl ?_
    exact H84 _ _ _ _ _ _ _
  refine s_blk C 62 1 [0, 1, 2, 4, 6, 7, 8, 9, 10] (pc' := 124) (lv' := [(0, .inr (.inl (some (gM G)))), (1, .inl x1), (2, .inl x2), (4, .inl x4), (6, .inl x6), (7, .inl x7), (8, .inl x8), (9, .inl x9), (10, .inl x10)]) (st' := [.inr (.inl (some (gM G)))]) rfl ?_
  refine s_mR hG C 63 rfl 28 fl_X12_74 rfl ?_
  refine s_blk C 64 1 [0, 1, 2, 4, 6, 7, 8, 9, 10] (pc' := 129) (lv' := [(0, .inr (.inl (some (gM G)))), (1, .inl x1), (2, .inl x2), (4, .inl x4), (6, .inl x6), (7, .inl x7), (8, .inl x8), (9, .inl x9), (10, .inl x10)]) (st' := [.inl x10, .inr (.inl (some (gA G 28)))]) rfl ?_
  refine s_mldI hG C 65 rfl rfl rfl (fun v2 => ?_)
  refine s_RI (CE_EM _ _ _ _ _ _) (st := []) (fun o ho => j_callS (As := [.inl v2]) (st := []) C 66 rfl mf_Md_asWord ml_X12_295 rfl (by decide) (by decide) (Nat.le_refl _) rfl (cMd_asWord (CX_tr C) hG σ M n v2 o ho)) (fun v3 => ?_)
  refine s_blk C 67 4 [0, 1, 2, 4, 6, 7, 8, 9, 10, 11] (pc' := 139) (lv' := [(0, .inr (.inl (some (gM G)))), (1, .inl x1), (2, .inl x2), (4, .inl x4), (6, .inl x6), (7, .inl x7), (8, .inl x8), (9, .inl x9), (10, .inl x10), (11, .inl v3)]) (st' := [.inl x10, .inl x1, .inr (.inl (some (gM G)))]) rfl ?_
  refine s_RI (CE_EM _ _ _ _ _ _) (st := []) (fun o ho => j_callV (As := [.inl x1, .inl x10]) (st := []) (b := gM G) C 71 rfl mf_Md_isObject ml_X12_298 rfl (recv_M hG C) (by decide) (by decide) (Nat.le_refl _) rfl (cMd_isObject (CX_tr C) hG σ M n x1 x10 o ho)) (fun v4 => ?_)
  refine s_ieq C 72 rfl (fun _ => ?_) (fun _ => ?_)
  · exact wMd_list_j182 hG C htab k84 H84 k113 H113 _ _ _ _ _ _ _ _ _ _
  refine s_blk C 73 1 [0, 1, 2, 4, 6, 7, 8, 9, 10, 11] (pc' := 146) (lv' := [(0, .inr (.inl (some (gM G)))), (1, .inl x1), (2, .inl x2), (4, .inl x4), (6, .inl x6), (7, .inl x7), (8, .inl x8), (9, .inl x9), (10, .inl x10), (11, .inl v3)]) (st' := [.inr (.inl (some (gM G)))]) rfl ?_
  refine s_mR hG C 74 rfl 28 fl_X12_74 rfl ?_
  refine s_blk C 75 1 [0, 1, 2, 4, 6, 7, 8, 9, 10, 11] (pc' := 151) (lv' := [(0, .inr (.inl (some (gM G)))), (1, .inl x1), (2, .inl x2), (4, .inl x4), (6, .inl x6), (7, .inl x7), (8, .inl x8), (9, .inl x9), (10, .inl x10), (11, .inl v3)]) (st' := [.inl x10, .inr (.inl (some (gA G 28)))]) rfl ?_
  refine s_mldI hG C 76 rfl rfl rfl (fun v5 => ?_)
  refine s_blk C 77 1 [0, 1, 2, 4, 6, 7, 8, 9, 10, 11] (pc' := 153) (lv' := [(0, .inr (.inl (some (gM G)))), (1, .inl x1), (2, .inl x2), (4, .inl x4), (6, .inl x6), (7, .inl x7), (8, .inl x8), (9, .inl x9), (10, .inl x10), (11, .inl v3)]) (st' := [.inl x2, .inl v5]) rfl ?_
  refine s_RI (CE_EM _ _ _ _ _ _) (st := []) (fun o ho => j_callS (As := [.inl v5, .inl x2]) (st := []) C 78 rfl mf_Md_begins ml_X12_301 rfl (by decide) (by decide) (Nat.le_refl _) rfl (cMd_begins (CX_tr C) hG σ M n v5 x2 o ho)) (fun v6 => ?_)
  refine s_ieq C 79 rfl (fun _ => ?_) (fun _ => ?_)
  · exact wMd_list_j182 hG C htab k84 H84 k113 H113 _ _ _ _ _ _ _ _ _ _
  refine s_blk C 80 2 [0, 1, 2, 4, 6, 7, 8, 9, 10, 11] (pc' := 163) (lv' := [(0, .inr (.inl (some (gM G)))), (1, .inl x1), (2, .inl x2), (4, .inl x4), (6, .inl x6), (7, .inl x7), (8, .inl x8), (9, .inl x9), (10, .inl x10), (11, .inl v3)]) (st' := [.inl x6, .inl v3]) rfl ?_
  refine s_icle C 82 rfl (fun _ => ?_) (fun _ => ?_)
  · exact wMd_list_j182 hG C htab k84 H84 k113 H113 _ _ _ _ _ _ _ _ _ _
  refine s_blk C 83 1 [0, 1, 2, 4, 6, 7, 8, 9, 10, 11] (pc' := 168) (lv' := [(0, .inr (.inl (some (gM G)))), (1, .inl x1), (2, .inl x2), (4, .inl x4), (6, .inl x6), (7, .inl x7), (8, .inl x8), (9, .inl x9), (10, .inl x10), (11, .inl v3)]) (st' := [.inl x7]) rfl ?_
  refine s_ieq C 84 rfl (fun _ => ?_) (fun _ => ?_)
  · exact wMd_list_j178 hG C htab k84 H84 k113 H113 _ _ _ _ _ _ _ _ _ _
  refine s_blk C 85 2 [0, 1, 2, 4, 6, 7, 8, 9, 10, 11] (pc' := 175) (lv' := [(0, .inr (.inl (some (gM G)))), (1, .inl x1), (2, .inl x2), (4, .inl x4), (6, .inl x6), (7, .inl x7), (8, .inl x8), (9, .inl x9), (10, .inl x10), (11, .inl v3)]) (st' := [.inl x9, .inl v3]) rfl ?_
  refine s_icge C 87 rfl (fun _ => ?_) (fun _ => ?_)
  · exact wMd_list_j182 hG C htab k84 H84 k113 H113 _ _ _ _ _ _ _ _ _ _
  exact wMd_list_j178 hG C htab k84 H84 k113 H113 _ _ _ _ _ _ _ _ _ _
def fMd_list_l113 (k84 : Int32 → Int32 → Int32 → Int32 → Int32 → Int32 → Sg → Option (Int32 × Sg)) (fu : Nat) : Int32 → Int32 → Int32 → Int32 → Int32 → Int32 → Int32 → Int32 → Sg → Option (Int32 × Sg) := Nat.rec (fun x1 x2 x4 x6 x7 x8 x9 x10 σ => none) (fun _ k => fMd_list_b113 k84 k) fu
theorem wMd_list_l113 {X : MC} {G : GE} {n0 : Nat} (hG : gH G = true) (C : CX X G RX12 cX12_list pMd_list 13 (some .int) n0) (htab : ∀ z ∈ X.2.2.2.2.2.2.2.2.exceptionTable.toList, False) {M : Mm} {n : Nat} (k84 : Int32 → Int32 → Int32 → Int32 → Int32 → Int32 → Sg → Option (Int32 × Sg)) (H84 : ∀ (x1 : Int32) (x2 : Int32) (x4 : Int32) (x6 : Int32) (x7 : Int32) (x8 : Int32) (σ : Sg), JS X G 13 300 0 n0 (EM X G n0 5 300 (eS rvI M n)) (k84 x1 x2 x4 x6 x7 x8 σ) (σ, M, n) 84 [(0, .inr (.inl (some (gM G)))), (1, .inl x1), (2, .inl x2), (4, .inl x4), (6, .inl x6), (7, .inl x7), (8, .inl x8)] []) : ∀ (fu : Nat) (x1 : Int32) (x2 : Int32) (x4 : Int32) (x6 : Int32) (x7 : Int32) (x8 : Int32) (x9 : Int32) (x10 : Int32) (σ : Sg), JS X G 13 300 0 n0 (EM X G n0 5 300 (eS rvI M n)) (fMd_list_l113 k84 fu x1 x2 x4 x6 x7 x8 x9 x10 σ) (σ, M, n) 113 [(0, .inr (.inl (some (gM G)))), (1, .inl x1), (2, .inl x2), (4, .inl x4), (6, .inl x6), (7, .inl x7), (8, .inl x8), (9, .inl x9), (10, .inl x10)] [] := by
  intro fu
  induction fu with
  | zero => intro x1 x2 x4 x6 x7 x8 x9 x10 σ; exact s_none
  | succ fu ih => intro x1 x2 x4 x6 x7 x8 x9 x10 σ; exact wMd_list_b113 hG C htab k84 H84 (fMd_list_l113 k84 fu) ih _ _ _ _ _ _ _ _ _
def fMd_list_j101 (k84 : Int32 → Int32 → Int32 → Int32 → Int32 → Int32 → Sg → Option (Int32 × Sg)) (x1 : Int32) (x2 : Int32) (x4 : Int32) (x6 : Int32) (x8 : Int32) (σ : Sg) : Option (Int32 × Sg) :=
  fMd_list_l113 k84 FU x1 x2 x4 x6 0 x8 0 (40 * x1) σ
theorem wMd_list_j101 {X : MC} {G : GE} {n0 : Nat} (hG : gH G = true) (C : CX X G RX12 cX12_list pMd_list 13 (some .int) n0) (htab : ∀ z ∈ X.2.2.2.2.2.2.2.2.exceptionTable.toList, False) {M : Mm} {n : Nat} (k84 : Int32 → Int32 → Int32 → Int32 → Int32 → Int32 → Sg → Option (Int32 × Sg)) (H84 : ∀ (x1 : Int32) (x2 : Int32) (x4 : Int32) (x6 : Int32) (x7 : Int32) (x8 : Int32) (σ : Sg), JS X G 13 300 0 n0 (EM X G n0 5 300 (eS rvI M n)) (k84 x1 x2 x4 x6 x7 x8 σ) (σ, M, n) 84 [(0, .inr (.inl (some (gM G)))), (1, .inl x1), (2, .inl x2), (4, .inl x4), (6, .inl x6), (7, .inl x7), (8, .inl x8)] []) (x1 : Int32) (x2 : Int32) (x4 : Int32) (x6 : Int32) (x8 : Int32) (σ : Sg) : JS X G 13 300 0 n0 (EM X G n0 5 300 (eS rvI M n)) (fMd_list_j101 k84 x1 x2 x4 x6 x8 σ) (σ, M, n) 101 [(0, .inr (.inl (some (gM G)))), (1, .inl x1), (2, .inl x2), (4, .inl x4), (6, .inl x6), (8, .inl x8)] [] := by
  unfold fMd_list_j101
  refine s_blk C 49 8 [0, 1, 2, 4, 6, 7, 8, 9, 10] (pc' := 113) (lv' := [(0, .inr (.inl (some (gM G)))), (1, .inl x1), (2, .inl x2), (4, .inl x4), (6, .inl x6), (7, .inl 0), (8, .inl x8), (9, .inl 0), (10, .inl (40 * x1))]) (st' := []) rfl ?_
  exact wMd_list_l113 hG C htab k84 H84 FU _ _ _ _ _ _ _ _ _
def fMd_list_b84 (k84 : Int32 → Int32 → Int32 → Int32 → Int32 → Int32 → Sg → Option (Int32 × Sg)) (x1 : Int32) (x2 : Int32) (x4 : Int32) (x6 : Int32) (x7 : Int32) (x8 : Int32) (σ : Sg) : Option (Int32 × Sg) :=
  if x4 < x8 then
    some (x7, σ)
  else
    if x8 = 0 then
      fMd_list_j101 k84 x1 x2 x4 x6 x8 σ
    else
      if x7 ≤ 0 then
        some (x7, σ)
      else
        fMd_list_j101 k84 x1 x2 x4 x6 x8 σ
theorem wMd_list_b84 {X : MC} {G : GE} {n0 : Nat} (hG : gH G = true) (C : CX X G RX12 cX12_list pMd_list 13 (some .int) n0) (htab : ∀ z ∈ X.2.2.2.2.2.2.2.2.exceptionTable.toList, False) {M : Mm} {n : Nat} (k84 : Int32 → Int32 → Int32 → Int32 → Int32 → Int32 → Sg → Option (Int32 × Sg)) (H84 : ∀ (x1 : Int32) (x2 : Int32) (x4 : Int32) (x6 : Int32) (x7 : Int32) (x8 : Int32) (σ : Sg), JS X G 13 300 0 n0 (EM X G n0 5 300 (eS rvI M n)) (k84 x1 x2 x4 x6 x7 x8 σ) (σ, M, n) 84 [(0, .inr (.inl (some (gM G)))), (1, .inl x1), (2, .inl x2), (4, .inl x4), (6, .inl x6), (7, .inl x7), (8, .inl x8)] []) (x1 : Int32) (x2 : Int32) (x4 : Int32) (x6 : Int32) (x7 : Int32) (x8 : Int32) (σ : Sg) : JS X G 13 300 0 n0 (EM X G n0 5 300 (eS rvI M n)) (fMd_list_b84 k84 x1 x2 x4 x6 x7 x8 σ) (σ, M, n) 84 [(0, .inr (.inl (some (gM G)))), (1, .inl x1), (2, .inl x2), (4, .inl x4), (6, .inl x6), (7, .inl x7), (8, .inl x8)] [] := by
  unfold fMd_list_b84
  refine s_blk C 42 2 [0, 1, 2, 4, 6, 7, 8] (pc' := 88) (lv' := [(0, .inr (.inl (some (gM G)))), (1, .inl x1), (2, .inl x2), (4, .inl x4), (6, .inl x6), (7, .inl x7), (8, .inl x8)]) (st' := [.inl x4, .inl x8]) rfl ?_
  refine s_icgt C 44 rfl (fun _ => ?_) (fun _ => ?_)
  · refine s_blk C 113 1 [] (pc' := 236) (lv' := []) (st' := [.inl x7]) rfl ?_
    exact s_iret C 114 rfl rfl
  refine s_blk C 45 1 [0, 1, 2, 4, 6, 7, 8] (pc' := 93) (lv' := [(0, .inr (.inl (some (gM G)))), (1, .inl x1), (2, .inl x2), (4, .inl x4), (6, .inl x6), (7, .inl x7), (8, .inl x8)]) (st' := [.inl x8]) rfl ?_
  refine s_ieq C 46 rfl (fun _ => ?_) (fun _ => ?_)
  · refine s_blk C 0 0 [0, 1, 2, 4, 6, 8] (pc' := 101) (lv' := [(0, .inr (.inl (some (gM G)))), (1, .inl x1), (2, .inl x2), (4, .inl x4), (6, .inl x6), (8, .inl x8)]) (st' := []) rfl ?_
    exact wMd_list_j101 hG C htab k84 H84 _ _ _ _ _ _
  refine s_blk C 47 1 [0, 1, 2, 4, 6, 7, 8] (pc' := 98) (lv' := [(0, .inr (.inl (some (gM G)))), (1, .inl x1), (2, .inl x2), (4, .inl x4), (6, .inl x6), (7, .inl x7), (8, .inl x8)]) (st' := [.inl x7]) rfl ?_
  refine s_ile C 48 rfl (fun _ => ?_) (fun _ => ?_)
  · refine s_blk C 113 1 [] (pc' := 236) (lv' := []) (st' := [.inl x7]) rfl ?_
    exact s_iret C 114 rfl rfl
  refine s_blk C 0 0 [0, 1, 2, 4, 6, 8] (pc' := 101) (lv' := [(0, .inr (.inl (some (gM G)))), (1, .inl x1), (2, .inl x2), (4, .inl x4), (6, .inl x6), (8, .inl x8)]) (st' := []) rfl ?_
  exact wMd_list_j101 hG C htab k84 H84 _ _ _ _ _ _
def fMd_list_l84 (fu : Nat) : Int32 → Int32 → Int32 → Int32 → Int32 → Int32 → Sg → Option (Int32 × Sg) := Nat.rec (fun x1 x2 x4 x6 x7 x8 σ => none) (fun _ k => fMd_list_b84 k) fu
theorem wMd_list_l84 {X : MC} {G : GE} {n0 : Nat} (hG : gH G = true) (C : CX X G RX12 cX12_list pMd_list 13 (some .int) n0) (htab : ∀ z ∈ X.2.2.2.2.2.2.2.2.exceptionTable.toList, False) {M : Mm} {n : Nat} : ∀ (fu : Nat) (x1 : Int32) (x2 : Int32) (x4 : Int32) (x6 : Int32) (x7 : Int32) (x8 : Int32) (σ : Sg), JS X G 13 300 0 n0 (EM X G n0 5 300 (eS rvI M n)) (fMd_list_l84 fu x1 x2 x4 x6 x7 x8 σ) (σ, M, n) 84 [(0, .inr (.inl (some (gM G)))), (1, .inl x1), (2, .inl x2), (4, .inl x4), (6, .inl x6), (7, .inl x7), (8, .inl x8)] [] := by
  intro fu
  induction fu with
  | zero => intro x1 x2 x4 x6 x7 x8 σ; exact s_none
  | succ fu ih => intro x1 x2 x4 x6 x7 x8 σ; exact wMd_list_b84 hG C htab (fMd_list_l84 fu) ih _ _ _ _ _ _ _
def fMd_list_j76 (x1 : Int32) (x2 : Int32) (x4 : Int32) (s0 : Int32) (σ : Sg) : Option (Int32 × Sg) :=
  fMd_list_l84 FU x1 x2 x4 s0 0 0 σ
theorem wMd_list_j76 {X : MC} {G : GE} {n0 : Nat} (hG : gH G = true) (C : CX X G RX12 cX12_list pMd_list 13 (some .int) n0) (htab : ∀ z ∈ X.2.2.2.2.2.2.2.2.exceptionTable.toList, False) {M : Mm} {n : Nat} (x1 : Int32) (x2 : Int32) (x4 : Int32) (s0 : Int32) (σ : Sg) : JS X G 13 300 0 n0 (EM X G n0 5 300 (eS rvI M n)) (fMd_list_j76 x1 x2 x4 s0 σ) (σ, M, n) 76 [(0, .inr (.inl (some (gM G)))), (1, .inl x1), (2, .inl x2), (4, .inl x4)] [.inl s0] := by
  unfold fMd_list_j76
  refine s_blk C 37 5 [0, 1, 2, 4, 6, 7, 8] (pc' := 84) (lv' := [(0, .inr (.inl (some (gM G)))), (1, .inl x1), (2, .inl x2), (4, .inl x4), (6, .inl s0), (7, .inl 0), (8, .inl 0)]) (st' := []) rfl ?_
  exact wMd_list_l84 hG C htab FU _ _ _ _ _ _ _
def fMd_list_j56 (x1 : Int32) (x2 : Int32) (x3 : Int32) (x4 : Int32) (s0 : Int32) (σ : Sg) : Option (Int32 × Sg) :=
  bdW (fMd_holds s0 σ) fun v1 σ2 =>
  if v1 = 0 then
    some (0, σ2)
  else
    if x3 = 0 then
      fMd_list_j76 x1 x2 x4 0 σ2
    else
      bdR (fMd_asWord x3) fun v3 =>
      fMd_list_j76 x1 x2 x4 v3 σ2
theorem wMd_list_j56 {X : MC} {G : GE} {n0 : Nat} (hG : gH G = true) (C : CX X G RX12 cX12_list pMd_list 13 (some .int) n0) (htab : ∀ z ∈ X.2.2.2.2.2.2.2.2.exceptionTable.toList, False) {M : Mm} {n : Nat} (x1 : Int32) (x2 : Int32) (x3 : Int32) (x4 : Int32) (s0 : Int32) (σ : Sg) : JS X G 13 300 0 n0 (EM X G n0 5 300 (eS rvI M n)) (fMd_list_j56 x1 x2 x3 x4 s0 σ) (σ, M, n) 56 [(0, .inr (.inl (some (gM G)))), (1, .inl x1), (2, .inl x2), (3, .inl x3), (4, .inl x4)] [.inl s0, .inr (.inl (some (gM G)))] := by
  unfold fMd_list_j56
  refine s_SI (CE_EM _ _ _ _ _ _) (st := []) (fun o ho => j_callV (As := [.inl s0]) (st := []) (b := gM G) C 27 rfl mf_Md_holds ml_X12_150 rfl (recv_M hG C) (by decide) (by decide) (Nat.le_refl _) rfl (cMd_holds (CX_tr C) hG σ M n s0 o ho)) (fun v1 σ2 => ?_)
  refine s_ine C 28 rfl (fun _ => ?_) (fun _ => ?_)
  · refine s_blk C 29 1 [] (pc' := 63) (lv' := []) (st' := [.inl 0]) rfl ?_
    exact s_iret C 30 rfl rfl
  refine s_blk C 31 1 [0, 1, 2, 3, 4] (pc' := 65) (lv' := [(0, .inr (.inl (some (gM G)))), (1, .inl x1), (2, .inl x2), (3, .inl x3), (4, .inl x4)]) (st' := [.inl x3]) rfl ?_
  refine s_ine C 32 rfl (fun _ => ?_) (fun _ => ?_)
  · refine s_blk C 33 2 [0, 1, 2, 4] (pc' := 76) (lv' := [(0, .inr (.inl (some (gM G)))), (1, .inl x1), (2, .inl x2), (4, .inl x4)]) (st' := [.inl 0]) rfl ?_
    exact wMd_list_j76 hG C htab _ _ _ _ _
  refine s_blk C 35 1 [0, 1, 2, 4] (pc' := 73) (lv' := [(0, .inr (.inl (some (gM G)))), (1, .inl x1), (2, .inl x2), (4, .inl x4)]) (st' := [.inl x3]) rfl ?_
  refine s_RI (CE_EM _ _ _ _ _ _) (st := []) (fun o ho => j_callS (As := [.inl x3]) (st := []) C 36 rfl mf_Md_asWord ml_X12_295 rfl (by decide) (by decide) (Nat.le_refl _) rfl (cMd_asWord (CX_tr C) hG σ2 M n x3 o ho)) (fun v3 => ?_)
  exact wMd_list_j76 hG C htab _ _ _ _ _
def fMd_list_j42 (x1 : Int32) (x2 : Int32) (x3 : Int32) (x4 : Int32) (σ : Sg) : Option (Int32 × Sg) :=
  fMd_list_j56 x1 x2 x3 x4 1 σ
theorem wMd_list_j42 {X : MC} {G : GE} {n0 : Nat} (hG : gH G = true) (C : CX X G RX12 cX12_list pMd_list 13 (some .int) n0) (htab : ∀ z ∈ X.2.2.2.2.2.2.2.2.exceptionTable.toList, False) {M : Mm} {n : Nat} (x1 : Int32) (x2 : Int32) (x3 : Int32) (x4 : Int32) (σ : Sg) : JS X G 13 300 0 n0 (EM X G n0 5 300 (eS rvI M n)) (fMd_list_j42 x1 x2 x3 x4 σ) (σ, M, n) 42 [(0, .inr (.inl (some (gM G)))), (1, .inl x1), (2, .inl x2), (3, .inl x3), (4, .inl x4)] [.inr (.inl (some (gM G)))] := by
  unfold fMd_list_j42
  refine s_blk C 20 2 [0, 1, 2, 3, 4] (pc' := 56) (lv' := [(0, .inr (.inl (some (gM G)))), (1, .inl x1), (2, .inl x2), (3, .inl x3), (4, .inl x4)]) (st' := [.inl 1, .inr (.inl (some (gM G)))]) rfl ?_
  exact wMd_list_j56 hG C htab _ _ _ _ _ _
def fMd_list_j27 (x1 : Int32) (x2 : Int32) (x3 : Int32) (x4 : Int32) (s0 : Int32) (σ : Sg) : Option (Int32 × Sg) :=
  bdR (fMd_isRegion x1) fun v1 =>
  if v1 = 0 then
    fMd_list_j42 x1 x2 x3 x4 σ
  else
    if 0 ≤ x4 then
      if s0 = 0 then
        fMd_list_j56 x1 x2 x3 x4 2 σ
      else
        fMd_list_j56 x1 x2 x3 x4 0 σ
    else
      fMd_list_j42 x1 x2 x3 x4 σ
theorem wMd_list_j27 {X : MC} {G : GE} {n0 : Nat} (hG : gH G = true) (C : CX X G RX12 cX12_list pMd_list 13 (some .int) n0) (htab : ∀ z ∈ X.2.2.2.2.2.2.2.2.exceptionTable.toList, False) {M : Mm} {n : Nat} (x1 : Int32) (x2 : Int32) (x3 : Int32) (x4 : Int32) (s0 : Int32) (σ : Sg) : JS X G 13 300 0 n0 (EM X G n0 5 300 (eS rvI M n)) (fMd_list_j27 x1 x2 x3 x4 s0 σ) (σ, M, n) 27 [(0, .inr (.inl (some (gM G)))), (1, .inl x1), (2, .inl x2), (3, .inl x3), (4, .inl x4)] [.inl s0] := by
  unfold fMd_list_j27
  refine s_blk C 13 3 [0, 1, 2, 3, 4, 5] (pc' := 31) (lv' := [(0, .inr (.inl (some (gM G)))), (1, .inl x1), (2, .inl x2), (3, .inl x3), (4, .inl x4), (5, .inl s0)]) (st' := [.inl x1, .inr (.inl (some (gM G)))]) rfl ?_
  refine s_RI (CE_EM _ _ _ _ _ _) (st := [.inr (.inl (some (gM G)))]) (fun o ho => j_callS (As := [.inl x1]) (st := [.inr (.inl (some (gM G)))]) C 16 rfl mf_Md_isRegion ml_X12_225 rfl (by decide) (by decide) (Nat.le_refl _) rfl (cMd_isRegion (CX_tr C) hG σ M n x1 o ho)) (fun v1 => ?_)
  refine s_ieq C 17 rfl (fun _ => ?_) (fun _ => ?_)
  · refine s_blk C 0 0 [0, 1, 2, 3, 4] (pc' := 42) (lv' := [(0, .inr (.inl (some (gM G)))), (1, .inl x1), (2, .inl x2), (3, .inl x3), (4, .inl x4)]) (st' := [.inr (.inl (some (gM G)))]) rfl ?_
    exact wMd_list_j42 hG C htab _ _ _ _ _
  refine s_blk C 18 1 [0, 1, 2, 3, 4, 5] (pc' := 39) (lv' := [(0, .inr (.inl (some (gM G)))), (1, .inl x1), (2, .inl x2), (3, .inl x3), (4, .inl x4), (5, .inl s0)]) (st' := [.inl x4, .inr (.inl (some (gM G)))]) rfl ?_
  refine s_ige C 19 rfl (fun _ => ?_) (fun _ => ?_)
  · refine s_blk C 22 1 [0, 1, 2, 3, 4] (pc' := 48) (lv' := [(0, .inr (.inl (some (gM G)))), (1, .inl x1), (2, .inl x2), (3, .inl x3), (4, .inl x4)]) (st' := [.inl s0, .inr (.inl (some (gM G)))]) rfl ?_
    refine s_ieq C 23 rfl (fun _ => ?_) (fun _ => ?_)
    · refine s_blk C 26 1 [0, 1, 2, 3, 4] (pc' := 56) (lv' := [(0, .inr (.inl (some (gM G)))), (1, .inl x1), (2, .inl x2), (3, .inl x3), (4, .inl x4)]) (st' := [.inl 2, .inr (.inl (some (gM G)))]) rfl ?_
      exact wMd_list_j56 hG C htab _ _ _ _ _ _
    refine s_blk C 24 2 [0, 1, 2, 3, 4] (pc' := 56) (lv' := [(0, .inr (.inl (some (gM G)))), (1, .inl x1), (2, .inl x2), (3, .inl x3), (4, .inl x4)]) (st' := [.inl 0, .inr (.inl (some (gM G)))]) rfl ?_
    exact wMd_list_j56 hG C htab _ _ _ _ _ _
  refine s_blk C 0 0 [0, 1, 2, 3, 4] (pc' := 42) (lv' := [(0, .inr (.inl (some (gM G)))), (1, .inl x1), (2, .inl x2), (3, .inl x3), (4, .inl x4)]) (st' := [.inr (.inl (some (gM G)))]) rfl ?_
  exact wMd_list_j42 hG C htab _ _ _ _ _
def fMd_list_j22 (x1 : Int32) (x2 : Int32) (x3 : Int32) (x4 : Int32) (σ : Sg) : Option (Int32 × Sg) :=
  fMd_list_j27 x1 x2 x3 x4 1 σ
theorem wMd_list_j22 {X : MC} {G : GE} {n0 : Nat} (hG : gH G = true) (C : CX X G RX12 cX12_list pMd_list 13 (some .int) n0) (htab : ∀ z ∈ X.2.2.2.2.2.2.2.2.exceptionTable.toList, False) {M : Mm} {n : Nat} (x1 : Int32) (x2 : Int32) (x3 : Int32) (x4 : Int32) (σ : Sg) : JS X G 13 300 0 n0 (EM X G n0 5 300 (eS rvI M n)) (fMd_list_j22 x1 x2 x3 x4 σ) (σ, M, n) 22 [(0, .inr (.inl (some (gM G)))), (1, .inl x1), (2, .inl x2), (3, .inl x3), (4, .inl x4)] [] := by
  unfold fMd_list_j22
  refine s_blk C 10 2 [0, 1, 2, 3, 4] (pc' := 27) (lv' := [(0, .inr (.inl (some (gM G)))), (1, .inl x1), (2, .inl x2), (3, .inl x3), (4, .inl x4)]) (st' := [.inl 1]) rfl ?_
  exact wMd_list_j27 hG C htab _ _ _ _ _ _
def fMd_list_j26 (x1 : Int32) (x2 : Int32) (x3 : Int32) (x4 : Int32) (σ : Sg) : Option (Int32 × Sg) :=
  fMd_list_j27 x1 x2 x3 x4 0 σ
theorem wMd_list_j26 {X : MC} {G : GE} {n0 : Nat} (hG : gH G = true) (C : CX X G RX12 cX12_list pMd_list 13 (some .int) n0) (htab : ∀ z ∈ X.2.2.2.2.2.2.2.2.exceptionTable.toList, False) {M : Mm} {n : Nat} (x1 : Int32) (x2 : Int32) (x3 : Int32) (x4 : Int32) (σ : Sg) : JS X G 13 300 0 n0 (EM X G n0 5 300 (eS rvI M n)) (fMd_list_j26 x1 x2 x3 x4 σ) (σ, M, n) 26 [(0, .inr (.inl (some (gM G)))), (1, .inl x1), (2, .inl x2), (3, .inl x3), (4, .inl x4)] [] := by
  unfold fMd_list_j26
  refine s_blk C 12 1 [0, 1, 2, 3, 4] (pc' := 27) (lv' := [(0, .inr (.inl (some (gM G)))), (1, .inl x1), (2, .inl x2), (3, .inl x3), (4, .inl x4)]) (st' := [.inl 0]) rfl ?_
  exact wMd_list_j27 hG C htab _ _ _ _ _ _
def fMd_list_j11 (x1 : Int32) (x2 : Int32) (x3 : Int32) (x4 : Int32) (σ : Sg) : Option (Int32 × Sg) :=
  if x3 = 0 then
    fMd_list_j22 x1 x2 x3 x4 σ
  else
    bdR (fMd_isKey x3) fun v1 =>
    if v1 = 0 then
      fMd_list_j26 x1 x2 x3 x4 σ
    else
      fMd_list_j22 x1 x2 x3 x4 σ
theorem wMd_list_j11 {X : MC} {G : GE} {n0 : Nat} (hG : gH G = true) (C : CX X G RX12 cX12_list pMd_list 13 (some .int) n0) (htab : ∀ z ∈ X.2.2.2.2.2.2.2.2.exceptionTable.toList, False) {M : Mm} {n : Nat} (x1 : Int32) (x2 : Int32) (x3 : Int32) (x4 : Int32) (σ : Sg) : JS X G 13 300 0 n0 (EM X G n0 5 300 (eS rvI M n)) (fMd_list_j11 x1 x2 x3 x4 σ) (σ, M, n) 11 [(0, .inr (.inl (some (gM G)))), (1, .inl x1), (2, .inl x2), (3, .inl x3), (4, .inl x4)] [] := by
  unfold fMd_list_j11
  refine s_blk C 5 1 [0, 1, 2, 3, 4] (pc' := 12) (lv' := [(0, .inr (.inl (some (gM G)))), (1, .inl x1), (2, .inl x2), (3, .inl x3), (4, .inl x4)]) (st' := [.inl x3]) rfl ?_
  refine s_ieq C 6 rfl (fun _ => ?_) (fun _ => ?_)
  · exact wMd_list_j22 hG C htab _ _ _ _ _
  refine s_blk C 7 1 [0, 1, 2, 3, 4] (pc' := 16) (lv' := [(0, .inr (.inl (some (gM G)))), (1, .inl x1), (2, .inl x2), (3, .inl x3), (4, .inl x4)]) (st' := [.inl x3]) rfl ?_
  refine s_RI (CE_EM _ _ _ _ _ _) (st := []) (fun o ho => j_callS (As := [.inl x3]) (st := []) C 8 rfl mf_Md_isKey ml_X12_228 rfl (by decide) (by decide) (Nat.le_refl _) rfl (cMd_isKey (CX_tr C) hG σ M n x3 o ho)) (fun v1 => ?_)
  refine s_ieq C 9 rfl (fun _ => ?_) (fun _ => ?_)
  · exact wMd_list_j26 hG C htab _ _ _ _ _
  exact wMd_list_j22 hG C htab _ _ _ _ _
def fMd_list (x1 : Int32) (x2 : Int32) (x3 : Int32) (x4 : Int32) (σ : Sg) : Option (Int32 × Sg) :=
  if x2 = 0 then
    fMd_list_j11 x1 x2 x3 x4 σ
  else
    bdR (fMd_isKey x2) fun v1 =>
    if v1 = 0 then
      fMd_list_j26 x1 x2 x3 x4 σ
    else
      fMd_list_j11 x1 x2 x3 x4 σ
theorem wMd_list {X : MC} {G : GE} {n0 : Nat} (hG : gH G = true) (C : CX X G RX12 cX12_list pMd_list 13 (some .int) n0) (htab : ∀ z ∈ X.2.2.2.2.2.2.2.2.exceptionTable.toList, False) {M : Mm} {n : Nat} (x1 : Int32) (x2 : Int32) (x3 : Int32) (x4 : Int32) (σ : Sg) : JS X G 13 300 0 n0 (EM X G n0 5 300 (eS rvI M n)) (fMd_list x1 x2 x3 x4 σ) (σ, M, n) 0 [(0, .inr (.inl (some (gM G)))), (1, .inl x1), (2, .inl x2), (3, .inl x3), (4, .inl x4)] [] := by
  unfold fMd_list
  refine s_blk C 0 1 [0, 1, 2, 3, 4] (pc' := 1) (lv' := [(0, .inr (.inl (some (gM G)))), (1, .inl x1), (2, .inl x2), (3, .inl x3), (4, .inl x4)]) (st' := [.inl x2]) rfl ?_
  refine s_ieq C 1 rfl (fun _ => ?_) (fun _ => ?_)
  · exact wMd_list_j11 hG C htab _ _ _ _ _
  refine s_blk C 2 1 [0, 1, 2, 3, 4] (pc' := 5) (lv' := [(0, .inr (.inl (some (gM G)))), (1, .inl x1), (2, .inl x2), (3, .inl x3), (4, .inl x4)]) (st' := [.inl x2]) rfl ?_
  refine s_RI (CE_EM _ _ _ _ _ _) (st := []) (fun o ho => j_callS (As := [.inl x2]) (st := []) C 3 rfl mf_Md_isKey ml_X12_228 rfl (by decide) (by decide) (Nat.le_refl _) rfl (cMd_isKey (CX_tr C) hG σ M n x2 o ho)) (fun v1 => ?_)
  refine s_ieq C 4 rfl (fun _ => ?_) (fun _ => ?_)
  · exact wMd_list_j26 hG C htab _ _ _ _ _
  exact wMd_list_j11 hG C htab _ _ _ _ _
theorem cMd_list {l : Launch} {G : GE} (htr : l.stackTraces = false) (hG : gH G = true) (σ : Sg) (M : Mm) (n : Nat) (x1 : Int32) (x2 : Int32) (x3 : Int32) (x4 : Int32) : ∀ o, fMd_list x1 x2 x3 x4 σ = some o → MetX l G yX12_list cX12_list 13 (some .int) 5 300 [.inr (.inl (some (gM G))), .inl x1, .inl x2, .inl x3, .inl x4] (σ, M, n) ((eS rvI M n) o) :=
  c_ofX (by decide) kMd_list htr rfl rfl fun X _ _ C htab => wMd_list hG C htab x1 x2 x3 x4 _

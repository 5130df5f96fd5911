def pMd_lock_0 : List BR := [(0, .aload_n 0, 1, 0, 1), (1, .iload_n 1, 1, 0, 2), (2, .iload_n 2, 1, 0, 3), (3, .iload_n 3, 1, 0, 4), (4, .invokevirtual 262, 3, 0, 7), (7, .istore 5, 2, 0, 9), (9, .iload 5, 2, 0, 11), (11, .ifCond .eq (13), 3, 0, 24), (14, .aload_n 0, 1, 0, 15), (15, .iload_n 1, 1, 0, 16), (16, .iload_n 2, 1, 0, 17), (17, .iload_n 3, 1, 0, 18), (18, .invokevirtual 231, 3, 0, 21), (21, .goto (4), 3, 0, 25), (24, .iconst 0, 1, 0, 25), (25, .istore 6, 2, 0, 27), (27, .aload_n 0, 1, 0, 28), (28, .iload 5, 2, 0, 30), (30, .ifCond .ne (7), 3, 0, 37), (33, .iconst 1, 1, 1, 34), (34, .goto (36), 3, 0, 70), (37, .iload 4, 2, 0, 39), (39, .iconst 0, 1, 0, 40), (40, .sipush 999, 3, 999, 43), (43, .invokestatic 132, 3, 0, 46), (46, .ifCond .ne (7), 3, 0, 53), (49, .iconst 2, 1, 2, 50), (50, .goto (20), 3, 0, 70), (53, .aload_n 0, 1, 0, 54), (54, .getfield 83, 3, 0, 57), (57, .iload 6, 2, 0, 59), (59, .iaload, 1, 0, 60), (60, .iload 4, 2, 0, 62), (62, .if_icmp .le (7), 3, 0, 69), (65, .iconst 3, 1, 3, 66), (66, .goto (4), 3, 0, 70), (69, .iconst 0, 1, 0, 70), (70, .invokevirtual 150, 3, 0, 73), (73, .ifCond .ne (5), 3, 0, 78), (76, .iconst 0, 1, 0, 77)]
theorem kMd_lock_0 : bOK cX12_lock 8 pMd_lock_0 = true := by decide +kernel
def pMd_lock_1 : List BR := [(77, .ireturn, 1, 0, 78), (78, .aload_n 0, 1, 0, 79), (79, .getfield 83, 3, 0, 82), (82, .iload 6, 2, 0, 84), (84, .iaload, 1, 0, 85), (85, .istore 7, 2, 0, 87), (87, .aload_n 0, 1, 0, 88), (88, .getfield 83, 3, 0, 91), (91, .iload 6, 2, 0, 93), (93, .iload 4, 2, 0, 95), (95, .iastore, 1, 0, 96), (96, .iload 7, 2, 0, 98), (98, .ireturn, 1, 0, 99)]
theorem kMd_lock_1 : bOK cX12_lock 8 pMd_lock_1 = true := by decide +kernel
def pMd_lock : List BR := (pMd_lock_0 ++ pMd_lock_1)
theorem kMd_lock : bOK cX12_lock 8 pMd_lock = true := (bOK_app kMd_lock_0 kMd_lock_1)
def fMd_lock_j70 (x4 : Int32) (x6 : Int32) (s0 : Int32) (σ : Sg) : Option (Int32 × Sg) :=
  bdW (fMd_holds s0 σ) fun v1 σ2 =>
  if v1 = 0 then
    some (0, σ2)
  else
    mgA 31 x6 σ2 fun v3 =>
    mpA 31 x6 x4 σ2 fun σ4 =>
    some (v3, σ4)
theorem wMd_lock_j70 {X : MC} {G : GE} {n0 : Nat} (hG : gH G = true) (C : CX X G RX12 cX12_lock pMd_lock 8 (some .int) n0) (htab : ∀ z ∈ X.2.2.2.2.2.2.2.2.exceptionTable.toList, False) {M : Mm} {n : Nat} (x4 : Int32) (x6 : Int32) (s0 : Int32) (σ : Sg) : JS X G 8 300 0 n0 (EM X G n0 5 300 (eS rvI M n)) (fMd_lock_j70 x4 x6 s0 σ) (σ, M, n) 70 [(0, .inr (.inl (some (gM G)))), (4, .inl x4), (6, .inl x6)] [.inl s0, .inr (.inl (some (gM G)))] := by
  unfold fMd_lock_j70
  refine s_SI (CE_EM _ _ _ _ _ _) (st := []) (fun o ho => j_callV (As := [.inl s0]) (st := []) (b := gM G) C 37 rfl mf_Md_holds ml_X12_150 rfl (recv_M hG C) (by decide) (by decide) (Nat.le_refl _) rfl (cMd_holds (CX_tr C) hG σ M n s0 o ho)) (fun v1 σ2 => ?_)
  refine s_ine C 38 rfl (fun _ => ?_) (fun _ => ?_)
  · refine s_blk C 39 1 [] (pc' := 77) (lv' := []) (st' := [.inl 0]) rfl ?_
    exact s_iret C 40 rfl rfl
  refine s_blk C 41 1 [0, 4, 6] (pc' := 79) (lv' := [(0, .inr (.inl (some (gM G)))), (4, .inl x4), (6, .inl x6)]) (st' := [.inr (.inl (some (gM G)))]) rfl ?_
  refine s_mR hG C 42 rfl 31 fl_X12_83 rfl ?_
  refine s_blk C 43 1 [0, 4, 6] (pc' := 84) (lv' := [(0, .inr (.inl (some (gM G)))), (4, .inl x4), (6, .inl x6)]) (st' := [.inl x6, .inr (.inl (some (gA G 31)))]) rfl ?_
  refine s_mldI hG C 44 rfl rfl rfl (fun v3 => ?_)
  refine s_blk C 45 2 [4, 6, 7] (pc' := 88) (lv' := [(4, .inl x4), (6, .inl x6), (7, .inl v3)]) (st' := [.inr (.inl (some (gM G)))]) rfl ?_
  refine s_mR hG C 47 rfl 31 fl_X12_83 rfl ?_
  refine s_blk C 48 2 [7] (pc' := 95) (lv' := [(7, .inl v3)]) (st' := [.inl x4, .inl x6, .inr (.inl (some (gA G 31)))]) rfl ?_
  refine s_mstI hG C 50 rfl rfl rfl (fun σ4 _ => ?_)
  refine s_blk C 51 1 [] (pc' := 98) (lv' := []) (st' := [.inl v3]) rfl ?_
  exact s_iret C 52 rfl rfl
def fMd_lock_j25 (x4 : Int32) (x5 : Int32) (s0 : Int32) (σ : Sg) : Option (Int32 × Sg) :=
  if x5 = 0 then
    fMd_lock_j70 x4 s0 1 σ
  else
    bdR (fMd_isIn x4 0 999) fun v1 =>
    if v1 = 0 then
      fMd_lock_j70 x4 s0 2 σ
    else
      mgA 31 s0 σ fun v2 =>
      if v2 ≤ x4 then
        fMd_lock_j70 x4 s0 0 σ
      else
        fMd_lock_j70 x4 s0 3 σ
theorem wMd_lock_j25 {X : MC} {G : GE} {n0 : Nat} (hG : gH G = true) (C : CX X G RX12 cX12_lock pMd_lock 8 (some .int) n0) (htab : ∀ z ∈ X.2.2.2.2.2.2.2.2.exceptionTable.toList, False) {M : Mm} {n : Nat} (x4 : Int32) (x5 : Int32) (s0 : Int32) (σ : Sg) : JS X G 8 300 0 n0 (EM X G n0 5 300 (eS rvI M n)) (fMd_lock_j25 x4 x5 s0 σ) (σ, M, n) 25 [(0, .inr (.inl (some (gM G)))), (4, .inl x4), (5, .inl x5)] [.inl s0] := by
  unfold fMd_lock_j25
  refine s_blk C 15 3 [0, 4, 6] (pc' := 30) (lv' := [(0, .inr (.inl (some (gM G)))), (4, .inl x4), (6, .inl s0)]) (st' := [.inl x5, .inr (.inl (some (gM G)))]) rfl ?_
  refine s_ine C 18 rfl (fun _ => ?_) (fun _ => ?_)
  · refine s_blk C 19 2 [0, 4, 6] (pc' := 70) (lv' := [(0, .inr (.inl (some (gM G)))), (4, .inl x4), (6, .inl s0)]) (st' := [.inl 1, .inr (.inl (some (gM G)))]) rfl ?_
    exact wMd_lock_j70 hG C htab _ _ _ _
  refine s_blk C 21 3 [0, 4, 6] (pc' := 43) (lv' := [(0, .inr (.inl (some (gM G)))), (4, .inl x4), (6, .inl s0)]) (st' := [.inl 999, .inl 0, .inl x4, .inr (.inl (some (gM G)))]) rfl ?_
  refine s_RI (CE_EM _ _ _ _ _ _) (st := [.inr (.inl (some (gM G)))]) (fun o ho => j_callS (As := [.inl x4, .inl 0, .inl 999]) (st := [.inr (.inl (some (gM G)))]) C 24 rfl mf_Md_isIn ml_X12_132 rfl (by decide) (by decide) (Nat.le_refl _) rfl (cMd_isIn (CX_tr C) hG σ M n x4 0 999 o ho)) (fun v1 => ?_)
  refine s_ine C 25 rfl (fun _ => ?_) (fun _ => ?_)
  · refine s_blk C 26 2 [0, 4, 6] (pc' := 70) (lv' := [(0, .inr (.inl (some (gM G)))), (4, .inl x4), (6, .inl s0)]) (st' := [.inl 2, .inr (.inl (some (gM G)))]) rfl ?_
    exact wMd_lock_j70 hG C htab _ _ _ _
  refine s_blk C 28 1 [0, 4, 6] (pc' := 54) (lv' := [(0, .inr (.inl (some (gM G)))), (4, .inl x4), (6, .inl s0)]) (st' := [.inr (.inl (some (gM G))), .inr (.inl (some (gM G)))]) rfl ?_
  refine s_mR hG C 29 rfl 31 fl_X12_83 rfl ?_
  refine s_blk C 30 1 [0, 4, 6] (pc' := 59) (lv' := [(0, .inr (.inl (some (gM G)))), (4, .inl x4), (6, .inl s0)]) (st' := [.inl s0, .inr (.inl (some (gA G 31))), .inr (.inl (some (gM G)))]) rfl ?_
  refine s_mldI hG C 31 rfl rfl rfl (fun v2 => ?_)
  refine s_blk C 32 1 [0, 4, 6] (pc' := 62) (lv' := [(0, .inr (.inl (some (gM G)))), (4, .inl x4), (6, .inl s0)]) (st' := [.inl x4, .inl v2, .inr (.inl (some (gM G)))]) rfl ?_
  refine s_icle C 33 rfl (fun _ => ?_) (fun _ => ?_)
  · refine s_blk C 36 1 [0, 4, 6] (pc' := 70) (lv' := [(0, .inr (.inl (some (gM G)))), (4, .inl x4), (6, .inl s0)]) (st' := [.inl 0, .inr (.inl (some (gM G)))]) rfl ?_
    exact wMd_lock_j70 hG C htab _ _ _ _
  refine s_blk C 34 2 [0, 4, 6] (pc' := 70) (lv' := [(0, .inr (.inl (some (gM G)))), (4, .inl x4), (6, .inl s0)]) (st' := [.inl 3, .inr (.inl (some (gM G)))]) rfl ?_
  exact wMd_lock_j70 hG C htab _ _ _ _
def fMd_lock (x1 : Int32) (x2 : Int32) (x3 : Int32) (x4 : Int32) (σ : Sg) : Option (Int32 × Sg) :=
  bdR (fMd_isVersion x1 x2 x3 σ) fun v1 =>
  if v1 = 0 then
    fMd_lock_j25 x4 v1 0 σ
  else
    bdR (fMd_versionAt x1 x2 x3 σ) fun v2 =>
    fMd_lock_j25 x4 v1 v2 σ
theorem wMd_lock {X : MC} {G : GE} {n0 : Nat} (hG : gH G = true) (C : CX X G RX12 cX12_lock pMd_lock 8 (some .int) n0) (htab : ∀ z ∈ X.2.2.2.2.2.2.2.2.exceptionTable.toList, False) {M : Mm} {n : Nat} (x1 : Int32) (x2 : Int32) (x3 : Int32) (x4 : Int32) (σ : Sg) : JS X G 8 300 0 n0 (EM X G n0 5 300 (eS rvI M n)) (fMd_lock x1 x2 x3 x4 σ) (σ, M, n) 0 [(0, .inr (.inl (some (gM G)))), (1, .inl x1), (2, .inl x2), (3, .inl x3), (4, .inl x4)] [] := by
  unfold fMd_lock
  refine s_blk C 0 4 [0, 1, 2, 3, 4] (pc' := 4) (lv' := [(0, .inr (.inl (some (gM G)))), (1, .inl x1), (2, .inl x2), (3, .inl x3), (4, .inl x4)]) (st' := [.inl x3, .inl x2, .inl x1, .inr (.inl (some (gM G)))]) rfl ?_
  refine s_RI (CE_EM _ _ _ _ _ _) (st := []) (fun o ho => j_callV (As := [.inl x1, .inl x2, .inl x3]) (st := []) (b := gM G) C 4 rfl mf_Md_isVersion ml_X12_262 rfl (recv_M hG C) (by decide) (by decide) (Nat.le_refl _) rfl (cMd_isVersion (CX_tr C) hG σ M n x1 x2 x3 o ho)) (fun v1 => ?_)
  refine s_blk C 5 2 [0, 1, 2, 3, 4, 5] (pc' := 11) (lv' := [(0, .inr (.inl (some (gM G)))), (1, .inl x1), (2, .inl x2), (3, .inl x3), (4, .inl x4), (5, .inl v1)]) (st' := [.inl v1]) rfl ?_
  refine s_ieq C 7 rfl (fun _ => ?_) (fun _ => ?_)
  · refine s_blk C 14 1 [0, 4, 5] (pc' := 25) (lv' := [(0, .inr (.inl (some (gM G)))), (4, .inl x4), (5, .inl v1)]) (st' := [.inl 0]) rfl ?_
    exact wMd_lock_j25 hG C htab _ _ _ _
  refine s_blk C 8 4 [0, 4, 5] (pc' := 18) (lv' := [(0, .inr (.inl (some (gM G)))), (4, .inl x4), (5, .inl v1)]) (st' := [.inl x3, .inl x2, .inl x1, .inr (.inl (some (gM G)))]) rfl ?_
  refine s_RI (CE_EM _ _ _ _ _ _) (st := []) (fun o ho => j_callV (As := [.inl x1, .inl x2, .inl x3]) (st := []) (b := gM G) C 12 rfl mf_Md_versionAt ml_X12_231 rfl (recv_M hG C) (by decide) (by decide) (Nat.le_refl _) rfl (cMd_versionAt (CX_tr C) hG σ M n x1 x2 x3 o ho)) (fun v2 => ?_)
  refine s_blk C 13 1 [0, 4, 5] (pc' := 25) (lv' := [(0, .inr (.inl (some (gM G)))), (4, .inl x4), (5, .inl v1)]) (st' := [.inl v2]) rfl ?_
  exact wMd_lock_j25 hG C htab _ _ _ _
theorem cMd_lock {l : Launch} {G : GE} (htr : l.stackTraces = false) (hG : gH G = true) (σ : Sg) (M : Mm) (n : Nat) (x1 : Int32) (x2 : Int32) (x3 : Int32) (x4 : Int32) : ∀ o, fMd_lock x1 x2 x3 x4 σ = some o → MetX l G yX12_lock cX12_lock 8 (some .int) 5 300 [.inr (.inl (some (gM G))), .inl x1, .inl x2, .inl x3, .inl x4] (σ, M, n) ((eS rvI M n) o) :=
  c_ofX (by decide) kMd_lock htr rfl rfl fun X _ _ C htab => wMd_lock hG C htab x1 x2 x3 x4 _
def pMd_mendable : List BR := [(0, .bipush 90, 2, 90, 2), (2, .iload_n 1, 1, 0, 3), (3, .imul, 1, 0, 4), (4, .iload_n 2, 1, 0, 5), (5, .iadd, 1, 0, 6), (6, .istore_n 3, 1, 0, 7), (7, .aload_n 0, 1, 0, 8), (8, .iload_n 1, 1, 0, 9), (9, .iload_n 2, 1, 0, 10), (10, .invokevirtual 306, 3, 0, 13), (13, .istore 4, 2, 0, 15), (15, .iconst 0, 1, 0, 16), (16, .istore 5, 2, 0, 18), (18, .iload 5, 2, 0, 20), (20, .iconst 5, 1, 5, 21), (21, .if_icmp .ge (42), 3, 0, 63), (24, .aload_n 0, 1, 0, 25), (25, .iload_n 3, 1, 0, 26), (26, .iload 5, 2, 0, 28), (28, .invokevirtual 196, 3, 0, 31), (31, .ifCond .ne (26), 3, 0, 57), (34, .aload_n 0, 1, 0, 35), (35, .getfield 65, 3, 0, 38), (38, .iconst 5, 1, 5, 39), (39, .iload_n 3, 1, 0, 40), (40, .imul, 1, 0, 41), (41, .iload 5, 2, 0, 43), (43, .iadd, 1, 0, 44), (44, .baload, 1, 0, 45), (45, .ifCond .ne (9), 3, 0, 54), (48, .iload 4, 2, 0, 50), (50, .iconst (-1), 1, -1, 51), (51, .if_icmp .eq (6), 3, 0, 57), (54, .iload 5, 2, 0, 56), (56, .ireturn, 1, 0, 57), (57, .iinc 5 (1), 3, 1, 60), (60, .goto (-42), 3, 0, 18), (63, .iconst (-1), 1, -1, 64), (64, .ireturn, 1, 0, 65)]
theorem kMd_mendable : bOK cX12_mendable 6 pMd_mendable = true := by decide +kernel
def fMd_mendable_j57 (k18 : Int32 → Int32 → Int32 → Sg → Option (Int32)) (x3 : Int32) (x4 : Int32) (x5 : Int32) (σ : Sg) : Option (Int32) :=
  k18 x3 x4 (x5 + 1) σ
theorem wMd_mendable_j57 {X : MC} {G : GE} {n0 : Nat} (hG : gH G = true) (C : CX X G RX12 cX12_mendable pMd_mendable 6 (some .int) n0) (htab : ∀ z ∈ X.2.2.2.2.2.2.2.2.exceptionTable.toList, False) {σ : Sg} {M : Mm} {n : Nat} (k18 : Int32 → Int32 → Int32 → Sg → Option (Int32)) (H18 : ∀ (x3 : Int32) (x4 : Int32) (x5 : Int32), JS X G 6 300 0 n0 (EM X G n0 5 300 (eR rvI σ M n)) (k18 x3 x4 x5 σ) (σ, M, n) 18 [(0, .inr (.inl (some (gM G)))), (3, .inl x3), (4, .inl x4), (5, .inl x5)] []) (x3 : Int32) (x4 : Int32) (x5 : Int32) : JS X G 6 300 0 n0 (EM X G n0 5 300 (eR rvI σ M n)) (fMd_mendable_j57 k18 x3 x4 x5 σ) (σ, M, n) 57 [(0, .inr (.inl (some (gM G)))), (3, .inl x3), (4, .inl x4), (5, .inl x5)] [] := by
  unfold fMd_mendable_j57
  refine s_blk C 35 2 [0, 3, 4, 5] (pc' := 18) (lv' := [(0, .inr (.inl (some (gM G)))), (3, .inl x3), (4, .inl x4), (5, .inl (x5 + 1))]) (st' := []) rfl ?_
  exact H18 _ _ _
def fMd_mendable_b18 (k18 : Int32 → Int32 → Int32 → Sg → Option (Int32)) (x3 : Int32) (x4 : Int32) (x5 : Int32) (σ : Sg) : Option (Int32) :=
  if 5 ≤ x5 then
    some (-1)
  else
    bdR (fMd_isGood x3 x5 σ) fun v1 =>
    if v1 = 0 then
      mgA 25 ((5 * x3) + x5) σ fun v2 =>
      if v2 = 0 then
        if x4 = (-1) then
          fMd_mendable_j57 k18 x3 x4 x5 σ
        else
          some x5
      else
        some x5
    else
      fMd_mendable_j57 k18 x3 x4 x5 σ
theorem wMd_mendable_b18 {X : MC} {G : GE} {n0 : Nat} (hG : gH G = true) (C : CX X G RX12 cX12_mendable pMd_mendable 6 (some .int) n0) (htab : ∀ z ∈ X.2.2.2.2.2.2.2.2.exceptionTable.toList, False) {σ : Sg} {M : Mm} {n : Nat} (k18 : Int32 → Int32 → Int32 → Sg → Option (Int32)) (H18 : ∀ (x3 : Int32) (x4 : Int32) (x5 : Int32), JS X G 6 300 0 n0 (EM X G n0 5 300 (eR rvI σ M n)) (k18 x3 x4 x5 σ) (σ, M, n) 18 [(0, .inr (.inl (some (gM G)))), (3, .inl x3), (4, .inl x4), (5, .inl x5)] []) (x3 : Int32) (x4 : Int32) (x5 : Int32) : JS X G 6 300 0 n0 (EM X G n0 5 300 (eR rvI σ M n)) (fMd_mendable_b18 k18 x3 x4 x5 σ) (σ, M, n) 18 [(0, .inr (.inl (some (gM G)))), (3, .inl x3), (4, .inl x4), (5, .inl x5)] [] := by
  unfold fMd_mendable_b18
  refine s_blk C 13 2 [0, 3, 4, 5] (pc' := 21) (lv' := [(0, .inr (.inl (some (gM G)))), (3, .inl x3), (4, .inl x4), (5, .inl x5)]) (st' := [.inl 5, .inl x5]) rfl ?_
  refine s_icge C 15 rfl (fun _ => ?_) (fun _ => ?_)
  · refine s_blk C 37 1 [] (pc' := 64) (lv' := []) (st' := [.inl (-1)]) rfl ?_
    exact s_iret C 38 rfl rfl
  refine s_blk C 16 3 [0, 3, 4, 5] (pc' := 28) (lv' := [(0, .inr (.inl (some (gM G)))), (3, .inl x3), (4, .inl x4), (5, .inl x5)]) (st' := [.inl x5, .inl x3, .inr (.inl (some (gM G)))]) rfl ?_
  refine s_RI (CE_EM _ _ _ _ _ _) (st := []) (fun o ho => j_callV (As := [.inl x3, .inl x5]) (st := []) (b := gM G) C 19 rfl mf_Md_isGood ml_X12_196 rfl (recv_M hG C) (by decide) (by decide) (Nat.le_refl _) rfl (cMd_isGood (CX_tr C) hG σ M n x3 x5 o ho)) (fun v1 => ?_)
  refine s_ine C 20 rfl (fun _ => ?_) (fun _ => ?_)
  · refine s_blk C 21 1 [0, 3, 4, 5] (pc' := 35) (lv' := [(0, .inr (.inl (some (gM G)))), (3, .inl x3), (4, .inl x4), (5, .inl x5)]) (st' := [.inr (.inl (some (gM G)))]) rfl ?_
    refine s_mR hG C 22 rfl 25 fl_X12_65 rfl ?_
    refine s_blk C 23 5 [0, 3, 4, 5] (pc' := 44) (lv' := [(0, .inr (.inl (some (gM G)))), (3, .inl x3), (4, .inl x4), (5, .inl x5)]) (st' := [.inl ((5 * x3) + x5), .inr (.inl (some (gA G 25)))]) rfl ?_
    refine s_mldZ hG C 28 rfl rfl rfl (fun v2 => ?_)
    refine s_ine C 29 rfl (fun _ => ?_) (fun _ => ?_)
    · refine s_blk C 30 2 [0, 3, 4, 5] (pc' := 51) (lv' := [(0, .inr (.inl (some (gM G)))), (3, .inl x3), (4, .inl x4), (5, .inl x5)]) (st' := [.inl (-1), .inl x4]) rfl ?_
      refine s_iceq C 32 rfl (fun _ => ?_) (fun _ => ?_)
      · exact wMd_mendable_j57 hG C htab k18 H18 _ _ _
      refine s_blk C 33 1 [] (pc' := 56) (lv' := []) (st' := [.inl x5]) rfl ?_
      exact s_iret C 34 rfl rfl
    refine s_blk C 33 1 [] (pc' := 56) (lv' := []) (st' := [.inl x5]) rfl ?_
    exact s_iret C 34 rfl rfl
  exact wMd_mendable_j57 hG C htab k18 H18 _ _ _
def fMd_mendable_l18 (fu : Nat) : Int32 → Int32 → Int32 → Sg → Option (Int32) := Nat.rec (fun x3 x4 x5 σ => none) (fun _ k => fMd_mendable_b18 k) fu
theorem wMd_mendable_l18 {X : MC} {G : GE} {n0 : Nat} (hG : gH G = true) (C : CX X G RX12 cX12_mendable pMd_mendable 6 (some .int) n0) (htab : ∀ z ∈ X.2.2.2.2.2.2.2.2.exceptionTable.toList, False) {σ : Sg} {M : Mm} {n : Nat} : ∀ (fu : Nat) (x3 : Int32) (x4 : Int32) (x5 : Int32), JS X G 6 300 0 n0 (EM X G n0 5 300 (eR rvI σ M n)) (fMd_mendable_l18 fu x3 x4 x5 σ) (σ, M, n) 18 [(0, .inr (.inl (some (gM G)))), (3, .inl x3), (4, .inl x4), (5, .inl x5)] [] := by
  intro fu
  induction fu with
  | zero => intro x3 x4 x5; exact s_none
  | succ fu ih => intro x3 x4 x5; exact wMd_mendable_b18 hG C htab (fMd_mendable_l18 fu) ih _ _ _
def fMd_mendable (x1 : Int32) (x2 : Int32) (σ : Sg) : Option (Int32) :=
  bdR (fMd_freeNode x1 x2 σ) fun v1 =>
  fMd_mendable_l18 FU ((90 * x1) + x2) v1 0 σ
theorem wMd_mendable {X : MC} {G : GE} {n0 : Nat} (hG : gH G = true) (C : CX X G RX12 cX12_mendable pMd_mendable 6 (some .int) n0) (htab : ∀ z ∈ X.2.2.2.2.2.2.2.2.exceptionTable.toList, False) {σ : Sg} {M : Mm} {n : Nat} (x1 : Int32) (x2 : Int32) : JS X G 6 300 0 n0 (EM X G n0 5 300 (eR rvI σ M n)) (fMd_mendable x1 x2 σ) (σ, M, n) 0 [(0, .inr (.inl (some (gM G)))), (1, .inl x1), (2, .inl x2)] [] := by
  unfold fMd_mendable
  refine s_blk C 0 9 [0, 3] (pc' := 10) (lv' := [(0, .inr (.inl (some (gM G)))), (3, .inl ((90 * x1) + x2))]) (st' := [.inl x2, .inl x1, .inr (.inl (some (gM G)))]) rfl ?_
  refine s_RI (CE_EM _ _ _ _ _ _) (st := []) (fun o ho => j_callV (As := [.inl x1, .inl x2]) (st := []) (b := gM G) C 9 rfl mf_Md_freeNode ml_X12_306 rfl (recv_M hG C) (by decide) (by decide) (Nat.le_refl _) rfl (cMd_freeNode (CX_tr C) hG σ M n x1 x2 o ho)) (fun v1 => ?_)
  refine s_blk C 10 3 [0, 3, 4, 5] (pc' := 18) (lv' := [(0, .inr (.inl (some (gM G)))), (3, .inl ((90 * x1) + x2)), (4, .inl v1), (5, .inl 0)]) (st' := []) rfl ?_
  exact wMd_mendable_l18 hG C htab FU _ _ _
theorem cMd_mendable {l : Launch} {G : GE} (htr : l.stackTraces = false) (hG : gH G = true) (σ : Sg) (M : Mm) (n : Nat) (x1 : Int32) (x2 : Int32) : ∀ o, fMd_mendable x1 x2 σ = some o → MetX l G yX12_mendable cX12_mendable 6 (some .int) 5 300 [.inr (.inl (some (gM G))), .inl x1, .inl x2] (σ, M, n) ((eR rvI σ M n) o) :=
  c_ofX (by decide) kMd_mendable htr rfl rfl fun X _ _ C htab => wMd_mendable hG C htab x1 x2
def pMd_mends_0 : List BR := [(0, .iconst (-1), 1, -1, 1), (1, .istore_n 2, 1, 0, 2), (2, .iconst 5, 1, 5, 3), (3, .istore_n 3, 1, 0, 4), (4, .iconst 0, 1, 0, 5), (5, .istore 4, 2, 0, 7), (7, .iload 4, 2, 0, 9), (9, .aload_n 0, 1, 0, 10), (10, .getfield 44, 3, 0, 13), (13, .iload_n 1, 1, 0, 14), (14, .iaload, 1, 0, 15), (15, .if_icmp .ge (91), 3, 0, 106), (18, .aload_n 0, 1, 0, 19), (19, .bipush 90, 2, 90, 21), (21, .iload_n 1, 1, 0, 22), (22, .imul, 1, 0, 23), (23, .iload 4, 2, 0, 25), (25, .iadd, 1, 0, 26), (26, .invokevirtual 213, 3, 0, 29), (29, .istore 5, 2, 0, 31), (31, .aload_n 0, 1, 0, 32), (32, .getfield 47, 3, 0, 35), (35, .bipush 90, 2, 90, 37), (37, .iload_n 1, 1, 0, 38), (38, .imul, 1, 0, 39), (39, .iload 4, 2, 0, 41), (41, .iadd, 1, 0, 42), (42, .baload, 1, 0, 43), (43, .ifCond .ne (30), 3, 0, 73), (46, .iload 5, 2, 0, 48), (48, .iconst 2, 1, 2, 49), (49, .if_icmp .le (24), 3, 0, 73), (52, .iload 5, 2, 0, 54), (54, .iload_n 3, 1, 0, 55), (55, .if_icmp .ge (18), 3, 0, 73), (58, .aload_n 0, 1, 0, 59), (59, .iload_n 1, 1, 0, 60), (60, .iload 4, 2, 0, 62), (62, .invokevirtual 309, 3, 0, 65), (65, .iconst (-1), 1, -1, 66)]
theorem kMd_mends_0 : bOK cX12_mends 7 pMd_mends_0 = true := by decide +kernel
def pMd_mends_1 : List BR := [(66, .if_icmp .eq (7), 3, 0, 73), (69, .iconst 1, 1, 1, 70), (70, .goto (4), 3, 0, 74), (73, .iconst 0, 1, 0, 74), (74, .istore 6, 2, 0, 76), (76, .iload 6, 2, 0, 78), (78, .ifCond .eq (8), 3, 0, 86), (81, .iload 4, 2, 0, 83), (83, .goto (4), 3, 0, 87), (86, .iload_n 2, 1, 0, 87), (87, .istore_n 2, 1, 0, 88), (88, .iload 6, 2, 0, 90), (90, .ifCond .eq (8), 3, 0, 98), (93, .iload 5, 2, 0, 95), (95, .goto (4), 3, 0, 99), (98, .iload_n 3, 1, 0, 99), (99, .istore_n 3, 1, 0, 100), (100, .iinc 4 (1), 3, 1, 103), (103, .goto (-96), 3, 0, 7), (106, .iload_n 2, 1, 0, 107), (107, .iconst (-1), 1, -1, 108), (108, .if_icmp .ne (5), 3, 0, 113), (111, .iconst 0, 1, 0, 112), (112, .ireturn, 1, 0, 113), (113, .bipush 90, 2, 90, 115), (115, .iload_n 1, 1, 0, 116), (116, .imul, 1, 0, 117), (117, .iload_n 2, 1, 0, 118), (118, .iadd, 1, 0, 119), (119, .istore 4, 2, 0, 121), (121, .aload_n 0, 1, 0, 122), (122, .iload_n 1, 1, 0, 123), (123, .iload_n 2, 1, 0, 124), (124, .invokevirtual 309, 3, 0, 127), (127, .istore 5, 2, 0, 129), (129, .aload_n 0, 1, 0, 130), (130, .iload 4, 2, 0, 132), (132, .iload 5, 2, 0, 134), (134, .aload_n 0, 1, 0, 135), (135, .getfield 65, 3, 0, 138)]
theorem kMd_mends_1 : bOK cX12_mends 7 pMd_mends_1 = true := by decide +kernel
def pMd_mends_2 : List BR := [(138, .iconst 5, 1, 5, 139), (139, .iload 4, 2, 0, 141), (141, .imul, 1, 0, 142), (142, .iload 5, 2, 0, 144), (144, .iadd, 1, 0, 145), (145, .baload, 1, 0, 146), (146, .ifCond .eq (18), 3, 0, 164), (149, .aload_n 0, 1, 0, 150), (150, .getfield 59, 3, 0, 153), (153, .iconst 5, 1, 5, 154), (154, .iload 4, 2, 0, 156), (156, .imul, 1, 0, 157), (157, .iload 5, 2, 0, 159), (159, .iadd, 1, 0, 160), (160, .iaload, 1, 0, 161), (161, .goto (9), 3, 0, 170), (164, .aload_n 0, 1, 0, 165), (165, .iload_n 1, 1, 0, 166), (166, .iload_n 2, 1, 0, 167), (167, .invokevirtual 306, 3, 0, 170), (170, .invokevirtual 192, 3, 0, 173), (173, .iconst 1, 1, 1, 174), (174, .ireturn, 1, 0, 175)]
theorem kMd_mends_2 : bOK cX12_mends 7 pMd_mends_2 = true := by decide +kernel
def pMd_mends : List BR := (pMd_mends_0 ++ (pMd_mends_1 ++ pMd_mends_2))
theorem kMd_mends : bOK cX12_mends 7 pMd_mends = true := (bOK_app kMd_mends_0 (bOK_app kMd_mends_1 kMd_mends_2))
def fMd_mends_j170 (s0 : Int32) (s1 : Int32) (s2 : Int32) (σ : Sg) : Option (Int32 × Sg) :=
  bdW (fMd_lays s2 s1 s0 σ) fun v1 σ2 =>
  rZ 1 (some (1, σ2))
theorem wMd_mends_j170 {X : MC} {G : GE} {n0 : Nat} (hG : gH G = true) (C : CX X G RX12 cX12_mends pMd_mends 7 (some .boolean) n0) (htab : ∀ z ∈ X.2.2.2.2.2.2.2.2.exceptionTable.toList, False) {M : Mm} {n : Nat} (s0 : Int32) (s1 : Int32) (s2 : Int32) (σ : Sg) : JS X G 7 300 0 n0 (EM X G n0 6 300 (eS rvI M n)) (fMd_mends_j170 s0 s1 s2 σ) (σ, M, n) 170 [] [.inl s0, .inl s1, .inl s2, .inr (.inl (some (gM G)))] := by
  unfold fMd_mends_j170
  refine s_SU (CE_EM _ _ _ _ _ _) (st := []) (fun o ho => j_callV (As := [.inl s2, .inl s1, .inl s0]) (st := []) (b := gM G) C 100 rfl mf_Md_lays ml_X12_192 rfl (recv_M hG C) (by decide) (by decide) (Nat.le_refl _) rfl (cMd_lays (CX_tr C) hG σ M n s2 s1 s0 o ho)) (fun v1 σ2 => ?_)
  refine s_blk C 101 1 [] (pc' := 174) (lv' := []) (st' := [.inl 1]) rfl ?_
  exact s_zret C 102 rfl rfl
def fMd_mends_j99 (k7 : Int32 → Int32 → Int32 → Int32 → Sg → Option (Int32 × Sg)) (x1 : Int32) (x2 : Int32) (x4 : Int32) (s0 : Int32) (σ : Sg) : Option (Int32 × Sg) :=
  k7 x1 x2 s0 (x4 + 1) σ
theorem wMd_mends_j99 {X : MC} {G : GE} {n0 : Nat} (hG : gH G = true) (C : CX X G RX12 cX12_mends pMd_mends 7 (some .boolean) n0) (htab : ∀ z ∈ X.2.2.2.2.2.2.2.2.exceptionTable.toList, False) {M : Mm} {n : Nat} (k7 : Int32 → Int32 → Int32 → Int32 → Sg → Option (Int32 × Sg)) (H7 : ∀ (x1 : Int32) (x2 : Int32) (x3 : Int32) (x4 : Int32) (σ : Sg), JS X G 7 300 0 n0 (EM X G n0 6 300 (eS rvI M n)) (k7 x1 x2 x3 x4 σ) (σ, M, n) 7 [(0, .inr (.inl (some (gM G)))), (1, .inl x1), (2, .inl x2), (3, .inl x3), (4, .inl x4)] []) (x1 : Int32) (x2 : Int32) (x4 : Int32) (s0 : Int32) (σ : Sg) : JS X G 7 300 0 n0 (EM X G n0 6 300 (eS rvI M n)) (fMd_mends_j99 k7 x1 x2 x4 s0 σ) (σ, M, n) 99 [(0, .inr (.inl (some (gM G)))), (1, .inl x1), (2, .inl x2), (4, .inl x4)] [.inl s0] := by
  unfold fMd_mends_j99
  refine s_blk C 56 3 [0, 1, 2, 3, 4] (pc' := 7) (lv' := [(0, .inr (.inl (some (gM G)))), (1, .inl x1), (2, .inl x2), (3, .inl s0), (4, .inl (x4 + 1))]) (st' := []) rfl ?_
  exact H7 _ _ _ _ _
def fMd_mends_j87 (k7 : Int32 → Int32 → Int32 → Int32 → Sg → Option (Int32 × Sg)) (x1 : Int32) (x3 : Int32) (x4 : Int32) (x5 : Int32) (x6 : Int32) (s0 : Int32) (σ : Sg) : Option (Int32 × Sg) :=
  if x6 = 0 then
    fMd_mends_j99 k7 x1 s0 x4 x3 σ
  else
    fMd_mends_j99 k7 x1 s0 x4 x5 σ
theorem wMd_mends_j87 {X : MC} {G : GE} {n0 : Nat} (hG : gH G = true) (C : CX X G RX12 cX12_mends pMd_mends 7 (some .boolean) n0) (htab : ∀ z ∈ X.2.2.2.2.2.2.2.2.exceptionTable.toList, False) {M : Mm} {n : Nat} (k7 : Int32 → Int32 → Int32 → Int32 → Sg → Option (Int32 × Sg)) (H7 : ∀ (x1 : Int32) (x2 : Int32) (x3 : Int32) (x4 : Int32) (σ : Sg), JS X G 7 300 0 n0 (EM X G n0 6 300 (eS rvI M n)) (k7 x1 x2 x3 x4 σ) (σ, M, n) 7 [(0, .inr (.inl (some (gM G)))), (1, .inl x1), (2, .inl x2), (3, .inl x3), (4, .inl x4)] []) (x1 : Int32) (x3 : Int32) (x4 : Int32) (x5 : Int32) (x6 : Int32) (s0 : Int32) (σ : Sg) : JS X G 7 300 0 n0 (EM X G n0 6 300 (eS rvI M n)) (fMd_mends_j87 k7 x1 x3 x4 x5 x6 s0 σ) (σ, M, n) 87 [(0, .inr (.inl (some (gM G)))), (1, .inl x1), (3, .inl x3), (4, .inl x4), (5, .inl x5), (6, .inl x6)] [.inl s0] := by
  unfold fMd_mends_j87
  refine s_blk C 50 2 [0, 1, 2, 3, 4, 5] (pc' := 90) (lv' := [(0, .inr (.inl (some (gM G)))), (1, .inl x1), (2, .inl s0), (3, .inl x3), (4, .inl x4), (5, .inl x5)]) (st' := [.inl x6]) rfl ?_
  refine s_ieq C 52 rfl (fun _ => ?_) (fun _ => ?_)
  · refine s_blk C 55 1 [0, 1, 2, 4] (pc' := 99) (lv' := [(0, .inr (.inl (some (gM G)))), (1, .inl x1), (2, .inl s0), (4, .inl x4)]) (st' := [.inl x3]) rfl ?_
    exact wMd_mends_j99 hG C htab k7 H7 _ _ _ _ _
  refine s_blk C 53 2 [0, 1, 2, 4] (pc' := 99) (lv' := [(0, .inr (.inl (some (gM G)))), (1, .inl x1), (2, .inl s0), (4, .inl x4)]) (st' := [.inl x5]) rfl ?_
  exact wMd_mends_j99 hG C htab k7 H7 _ _ _ _ _
def fMd_mends_j74 (k7 : Int32 → Int32 → Int32 → Int32 → Sg → Option (Int32 × Sg)) (x1 : Int32) (x2 : Int32) (x3 : Int32) (x4 : Int32) (x5 : Int32) (s0 : Int32) (σ : Sg) : Option (Int32 × Sg) :=
  if s0 = 0 then
    fMd_mends_j87 k7 x1 x3 x4 x5 s0 x2 σ
  else
    fMd_mends_j87 k7 x1 x3 x4 x5 s0 x4 σ
theorem wMd_mends_j74 {X : MC} {G : GE} {n0 : Nat} (hG : gH G = true) (C : CX X G RX12 cX12_mends pMd_mends 7 (some .boolean) n0) (htab : ∀ z ∈ X.2.2.2.2.2.2.2.2.exceptionTable.toList, False) {M : Mm} {n : Nat} (k7 : Int32 → Int32 → Int32 → Int32 → Sg → Option (Int32 × Sg)) (H7 : ∀ (x1 : Int32) (x2 : Int32) (x3 : Int32) (x4 : Int32) (σ : Sg), JS X G 7 300 0 n0 (EM X G n0 6 300 (eS rvI M n)) (k7 x1 x2 x3 x4 σ) (σ, M, n) 7 [(0, .inr (.inl (some (gM G)))), (1, .inl x1), (2, .inl x2), (3, .inl x3), (4, .inl x4)] []) (x1 : Int32) (x2 : Int32) (x3 : Int32) (x4 : Int32) (x5 : Int32) (s0 : Int32) (σ : Sg) : JS X G 7 300 0 n0 (EM X G n0 6 300 (eS rvI M n)) (fMd_mends_j74 k7 x1 x2 x3 x4 x5 s0 σ) (σ, M, n) 74 [(0, .inr (.inl (some (gM G)))), (1, .inl x1), (2, .inl x2), (3, .inl x3), (4, .inl x4), (5, .inl x5)] [.inl s0] := by
  unfold fMd_mends_j74
  refine s_blk C 44 2 [0, 1, 2, 3, 4, 5, 6] (pc' := 78) (lv' := [(0, .inr (.inl (some (gM G)))), (1, .inl x1), (2, .inl x2), (3, .inl x3), (4, .inl x4), (5, .inl x5), (6, .inl s0)]) (st' := [.inl s0]) rfl ?_
  refine s_ieq C 46 rfl (fun _ => ?_) (fun _ => ?_)
  · refine s_blk C 49 1 [0, 1, 3, 4, 5, 6] (pc' := 87) (lv' := [(0, .inr (.inl (some (gM G)))), (1, .inl x1), (3, .inl x3), (4, .inl x4), (5, .inl x5), (6, .inl s0)]) (st' := [.inl x2]) rfl ?_
    exact wMd_mends_j87 hG C htab k7 H7 _ _ _ _ _ _ _
  refine s_blk C 47 2 [0, 1, 3, 4, 5, 6] (pc' := 87) (lv' := [(0, .inr (.inl (some (gM G)))), (1, .inl x1), (3, .inl x3), (4, .inl x4), (5, .inl x5), (6, .inl s0)]) (st' := [.inl x4]) rfl ?_
  exact wMd_mends_j87 hG C htab k7 H7 _ _ _ _ _ _ _
def fMd_mends_j73 (k7 : Int32 → Int32 → Int32 → Int32 → Sg → Option (Int32 × Sg)) (x1 : Int32) (x2 : Int32) (x3 : Int32) (x4 : Int32) (x5 : Int32) (σ : Sg) : Option (Int32 × Sg) :=
  fMd_mends_j74 k7 x1 x2 x3 x4 x5 0 σ
theorem wMd_mends_j73 {X : MC} {G : GE} {n0 : Nat} (hG : gH G = true) (C : CX X G RX12 cX12_mends pMd_mends 7 (some .boolean) n0) (htab : ∀ z ∈ X.2.2.2.2.2.2.2.2.exceptionTable.toList, False) {M : Mm} {n : Nat} (k7 : Int32 → Int32 → Int32 → Int32 → Sg → Option (Int32 × Sg)) (H7 : ∀ (x1 : Int32) (x2 : Int32) (x3 : Int32) (x4 : Int32) (σ : Sg), JS X G 7 300 0 n0 (EM X G n0 6 300 (eS rvI M n)) (k7 x1 x2 x3 x4 σ) (σ, M, n) 7 [(0, .inr (.inl (some (gM G)))), (1, .inl x1), (2, .inl x2), (3, .inl x3), (4, .inl x4)] []) (x1 : Int32) (x2 : Int32) (x3 : Int32) (x4 : Int32) (x5 : Int32) (σ : Sg) : JS X G 7 300 0 n0 (EM X G n0 6 300 (eS rvI M n)) (fMd_mends_j73 k7 x1 x2 x3 x4 x5 σ) (σ, M, n) 73 [(0, .inr (.inl (some (gM G)))), (1, .inl x1), (2, .inl x2), (3, .inl x3), (4, .inl x4), (5, .inl x5)] [] := by
  unfold fMd_mends_j73
  refine s_blk C 43 1 [0, 1, 2, 3, 4, 5] (pc' := 74) (lv' := [(0, .inr (.inl (some (gM G)))), (1, .inl x1), (2, .inl x2), (3, .inl x3), (4, .inl x4), (5, .inl x5)]) (st' := [.inl 0]) rfl ?_
  exact wMd_mends_j74 hG C htab k7 H7 _ _ _ _ _ _ _
def fMd_mends_b7 (k7 : Int32 → Int32 → Int32 → Int32 → Sg → Option (Int32 × Sg)) (x1 : Int32) (x2 : Int32) (x3 : Int32) (x4 : Int32) (σ : Sg) : Option (Int32 × Sg) :=
  mgA 18 x1 σ fun v1 =>
  if v1 ≤ x4 then
    if x2 = (-1) then
      rZ 0 (some (0, σ))
    else
      bdR (fMd_mendable x1 x2 σ) fun v2 =>
      mgA 25 ((5 * ((90 * x1) + x2)) + v2) σ fun v3 =>
      if v3 = 0 then
        bdR (fMd_freeNode x1 x2 σ) fun v4 =>
        fMd_mends_j170 v4 v2 ((90 * x1) + x2) σ
      else
        mgA 23 ((5 * ((90 * x1) + x2)) + v2) σ fun v5 =>
        fMd_mends_j170 v5 v2 ((90 * x1) + x2) σ
  else
    bdR (fMd_goodMany ((90 * x1) + x4) σ) fun v6 =>
    mgA 19 ((90 * x1) + x4) σ fun v7 =>
    if v7 = 0 then
      if v6 ≤ 2 then
        fMd_mends_j73 k7 x1 x2 x3 x4 v6 σ
      else
        if x3 ≤ v6 then
          fMd_mends_j73 k7 x1 x2 x3 x4 v6 σ
        else
          bdR (fMd_mendable x1 x4 σ) fun v8 =>
          if v8 = (-1) then
            fMd_mends_j73 k7 x1 x2 x3 x4 v6 σ
          else
            fMd_mends_j74 k7 x1 x2 x3 x4 v6 1 σ
    else
      fMd_mends_j73 k7 x1 x2 x3 x4 v6 σ
theorem wMd_mends_b7 {X : MC} {G : GE} {n0 : Nat} (hG : gH G = true) (C : CX X G RX12 cX12_mends pMd_mends 7 (some .boolean) n0) (htab : ∀ z ∈ X.2.2.2.2.2.2.2.2.exceptionTable.toList, False) {M : Mm} {n : Nat} (k7 : Int32 → Int32 → Int32 → Int32 → Sg → Option (Int32 × Sg)) (H7 : ∀ (x1 : Int32) (x2 : Int32) (x3 : Int32) (x4 : Int32) (σ : Sg), JS X G 7 300 0 n0 (EM X G n0 6 300 (eS rvI M n)) (k7 x1 x2 x3 x4 σ) (σ, M, n) 7 [(0, .inr (.inl (some (gM G)))), (1, .inl x1), (2, .inl x2), (3, .inl x3), (4, .inl x4)] []) (x1 : Int32) (x2 : Int32) (x3 : Int32) (x4 : Int32) (σ : Sg) : JS X G 7 300 0 n0 (EM X G n0 6 300 (eS rvI M n)) (fMd_mends_b7 k7 x1 x2 x3 x4 σ) (σ, M, n) 7 [(0, .inr (.inl (some (gM G)))), (1, .inl x1), (2, .inl x2), (3, .inl x3), (4, .inl x4)] [] := by
  unfold fMd_mends_b7
  refine s_blk C 6 2 [0, 1, 2, 3, 4] (pc' := 10) (lv' := [(0, .inr (.inl (some (gM G)))), (1, .inl x1), (2, .inl x2), (3, .inl x3), (4, .inl x4)]) (st' := [.inr (.inl (some (gM G))), .inl x4]) rfl ?_
  refine s_mR hG C 8 rfl 18 fl_X12_44 rfl ?_
  refine s_blk C 9 1 [0, 1, 2, 3, 4] (pc' := 14) (lv' := [(0, .inr (.inl (some (gM G)))), (1, .inl x1), (2, .inl x2), (3, .inl x3), (4, .inl x4)]) (st' := [.inl x1, .inr (.inl (some (gA G 18))), .inl x4]) rfl ?_
  refine s_mldI hG C 10 rfl rfl rfl (fun v1 => ?_)
  refine s_icge C 11 rfl (fun _ => ?_) (fun _ => ?_)
  · refine s_blk C 59 2 [0, 1, 2] (pc' := 108) (lv' := [(0, .inr (.inl (some (gM G)))), (1, .inl x1), (2, .inl x2)]) (st' := [.inl (-1), .inl x2]) rfl ?_
    refine s_icne C 61 rfl (fun _ => ?_) (fun _ => ?_)
    · refine s_blk C 62 1 [] (pc' := 112) (lv' := []) (st' := [.inl 0]) rfl ?_
      exact s_zret C 63 rfl rfl
    refine s_blk C 64 9 [0, 1, 2, 4] (pc' := 124) (lv' := [(0, .inr (.inl (some (gM G)))), (1, .inl x1), (2, .inl x2), (4, .inl ((90 * x1) + x2))]) (st' := [.inl x2, .inl x1, .inr (.inl (some (gM G)))]) rfl ?_
    refine s_RI (CE_EM _ _ _ _ _ _) (st := []) (fun o ho => j_callV (As := [.inl x1, .inl x2]) (st := []) (b := gM G) C 73 rfl mf_Md_mendable ml_X12_309 rfl (recv_M hG C) (by decide) (by decide) (Nat.le_refl _) rfl (cMd_mendable (CX_tr C) hG σ M n x1 x2 o ho)) (fun v2 => ?_)
    refine s_blk C 74 5 [0, 1, 2, 4, 5] (pc' := 135) (lv' := [(0, .inr (.inl (some (gM G)))), (1, .inl x1), (2, .inl x2), (4, .inl ((90 * x1) + x2)), (5, .inl v2)]) (st' := [.inr (.inl (some (gM G))), .inl v2, .inl ((90 * x1) + x2), .inr (.inl (some (gM G)))]) rfl ?_
    refine s_mR hG C 79 rfl 25 fl_X12_65 rfl ?_
    refine s_blk C 80 5 [0, 1, 2, 4, 5] (pc' := 145) (lv' := [(0, .inr (.inl (some (gM G)))), (1, .inl x1), (2, .inl x2), (4, .inl ((90 * x1) + x2)), (5, .inl v2)]) (st' := [.inl ((5 * ((90 * x1) + x2)) + v2), .inr (.inl (some (gA G 25))), .inl v2, .inl ((90 * x1) + x2), .inr (.inl (some (gM G)))]) rfl ?_
    refine s_mldZ hG C 85 rfl rfl rfl (fun v3 => ?_)
    refine s_ieq C 86 rfl (fun _ => ?_) (fun _ => ?_)
    · refine s_blk C 96 3 [] (pc' := 167) (lv' := []) (st' := [.inl x2, .inl x1, .inr (.inl (some (gM G))), .inl v2, .inl ((90 * x1) + x2), .inr (.inl (some (gM G)))]) rfl ?_
      refine s_RI (CE_EM _ _ _ _ _ _) (st := [.inl v2, .inl ((90 * x1) + x2), .inr (.inl (some (gM G)))]) (fun o ho => j_callV (As := [.inl x1, .inl x2]) (st := [.inl v2, .inl ((90 * x1) + x2), .inr (.inl (some (gM G)))]) (b := gM G) C 99 rfl mf_Md_freeNode ml_X12_306 rfl (recv_M hG C) (by decide) (by decide) (Nat.le_refl _) rfl (cMd_freeNode (CX_tr C) hG σ M n x1 x2 o ho)) (fun v4 => ?_)
      exact wMd_mends_j170 hG C htab _ _ _ _
    refine s_blk C 87 1 [4, 5] (pc' := 150) (lv' := [(4, .inl ((90 * x1) + x2)), (5, .inl v2)]) (st' := [.inr (.inl (some (gM G))), .inl v2, .inl ((90 * x1) + x2), .inr (.inl (some (gM G)))]) rfl ?_
    refine s_mR hG C 88 rfl 23 fl_X12_59 rfl ?_
    refine s_blk C 89 5 [] (pc' := 160) (lv' := []) (st' := [.inl ((5 * ((90 * x1) + x2)) + v2), .inr (.inl (some (gA G 23))), .inl v2, .inl ((90 * x1) + x2), .inr (.inl (some (gM G)))]) rfl ?_
    refine s_mldI hG C 94 rfl rfl rfl (fun v5 => ?_)
    refine s_blk C 95 1 [] (pc' := 170) (lv' := []) (st' := [.inl v5, .inl v2, .inl ((90 * x1) + x2), .inr (.inl (some (gM G)))]) rfl ?_
    exact wMd_mends_j170 hG C htab _ _ _ _
  refine s_blk C 12 6 [0, 1, 2, 3, 4] (pc' := 26) (lv' := [(0, .inr (.inl (some (gM G)))), (1, .inl x1), (2, .inl x2), (3, .inl x3), (4, .inl x4)]) (st' := [.inl ((90 * x1) + x4), .inr (.inl (some (gM G)))]) rfl ?_
  refine s_RI (CE_EM _ _ _ _ _ _) (st := []) (fun o ho => j_callV (As := [.inl ((90 * x1) + x4)]) (st := []) (b := gM G) C 18 rfl mf_Md_goodMany ml_X12_213 rfl (recv_M hG C) (by decide) (by decide) (Nat.le_refl _) rfl (cMd_goodMany (CX_tr C) hG σ M n ((90 * x1) + x4) o ho)) (fun v6 => ?_)
  refine s_blk C 19 2 [0, 1, 2, 3, 4, 5] (pc' := 32) (lv' := [(0, .inr (.inl (some (gM G)))), (1, .inl x1), (2, .inl x2), (3, .inl x3), (4, .inl x4), (5, .inl v6)]) (st' := [.inr (.inl (some (gM G)))]) rfl ?_
  refine s_mR hG C 21 rfl 19 fl_X12_47 rfl ?_
  refine s_blk C 22 5 [0, 1, 2, 3, 4, 5] (pc' := 42) (lv' := [(0, .inr (.inl (some (gM G)))), (1, .inl x1), (2, .inl x2), (3, .inl x3), (4, .inl x4), (5, .inl v6)]) (st' := [.inl ((90 * x1) + x4), .inr (.inl (some (gA G 19)))]) rfl ?_
  refine s_mldZ hG C 27 rfl rfl rfl (fun v7 => ?_)
  refine s_ine C 28 rfl (fun _ => ?_) (fun _ => ?_)
  · refine s_blk C 29 2 [0, 1, 2, 3, 4, 5] (pc' := 49) (lv' := [(0, .inr (.inl (some (gM G)))), (1, .inl x1), (2, .inl x2), (3, .inl x3), (4, .inl x4), (5, .inl v6)]) (st' := [.inl 2, .inl v6]) rfl ?_
    refine s_icle C 31 rfl (fun _ => ?_) (fun _ => ?_)
    · exact wMd_mends_j73 hG C htab k7 H7 _ _ _ _ _ _
    refine s_blk C 32 2 [0, 1, 2, 3, 4, 5] (pc' := 55) (lv' := [(0, .inr (.inl (some (gM G)))), (1, .inl x1), (2, .inl x2), (3, .inl x3), (4, .inl x4), (5, .inl v6)]) (st' := [.inl x3, .inl v6]) rfl ?_
    refine s_icge C 34 rfl (fun _ => ?_) (fun _ => ?_)
    · exact wMd_mends_j73 hG C htab k7 H7 _ _ _ _ _ _
    refine s_blk C 35 3 [0, 1, 2, 3, 4, 5] (pc' := 62) (lv' := [(0, .inr (.inl (some (gM G)))), (1, .inl x1), (2, .inl x2), (3, .inl x3), (4, .inl x4), (5, .inl v6)]) (st' := [.inl x4, .inl x1, .inr (.inl (some (gM G)))]) rfl ?_
    refine s_RI (CE_EM _ _ _ _ _ _) (st := []) (fun o ho => j_callV (As := [.inl x1, .inl x4]) (st := []) (b := gM G) C 38 rfl mf_Md_mendable ml_X12_309 rfl (recv_M hG C) (by decide) (by decide) (Nat.le_refl _) rfl (cMd_mendable (CX_tr C) hG σ M n x1 x4 o ho)) (fun v8 => ?_)
    refine s_blk C 39 1 [0, 1, 2, 3, 4, 5] (pc' := 66) (lv' := [(0, .inr (.inl (some (gM G)))), (1, .inl x1), (2, .inl x2), (3, .inl x3), (4, .inl x4), (5, .inl v6)]) (st' := [.inl (-1), .inl v8]) rfl ?_
    refine s_iceq C 40 rfl (fun _ => ?_) (fun _ => ?_)
    · exact wMd_mends_j73 hG C htab k7 H7 _ _ _ _ _ _
    refine s_blk C 41 2 [0, 1, 2, 3, 4, 5] (pc' := 74) (lv' := [(0, .inr (.inl (some (gM G)))), (1, .inl x1), (2, .inl x2), (3, .inl x3), (4, .inl x4), (5, .inl v6)]) (st' := [.inl 1]) rfl ?_
    exact wMd_mends_j74 hG C htab k7 H7 _ _ _ _ _ _ _
  exact wMd_mends_j73 hG C htab k7 H7 _ _ _ _ _ _
def fMd_mends_l7 (fu : Nat) : Int32 → Int32 → Int32 → Int32 → Sg → Option (Int32 × Sg) := Nat.rec (fun x1 x2 x3 x4 σ => none) (fun _ k => fMd_mends_b7 k) fu
theorem wMd_mends_l7 {X : MC} {G : GE} {n0 : Nat} (hG : gH G = true) (C : CX X G RX12 cX12_mends pMd_mends 7 (some .boolean) n0) (htab : ∀ z ∈ X.2.2.2.2.2.2.2.2.exceptionTable.toList, False) {M : Mm} {n : Nat} : ∀ (fu : Nat) (x1 : Int32) (x2 : Int32) (x3 : Int32) (x4 : Int32) (σ : Sg), JS X G 7 300 0 n0 (EM X G n0 6 300 (eS rvI M n)) (fMd_mends_l7 fu x1 x2 x3 x4 σ) (σ, M, n) 7 [(0, .inr (.inl (some (gM G)))), (1, .inl x1), (2, .inl x2), (3, .inl x3), (4, .inl x4)] [] := by
  intro fu
  induction fu with
  | zero => intro x1 x2 x3 x4 σ; exact s_none
  | succ fu ih => intro x1 x2 x3 x4 σ; exact wMd_mends_b7 hG C htab (fMd_mends_l7 fu) ih _ _ _ _ _
def fMd_mends (x1 : Int32) (σ : Sg) : Option (Int32 × Sg) :=
  fMd_mends_l7 FU x1 (-1) 5 0 σ
theorem wMd_mends {X : MC} {G : GE} {n0 : Nat} (hG : gH G = true) (C : CX X G RX12 cX12_mends pMd_mends 7 (some .boolean) n0) (htab : ∀ z ∈ X.2.2.2.2.2.2.2.2.exceptionTable.toList, False) {M : Mm} {n : Nat} (x1 : Int32) (σ : Sg) : JS X G 7 300 0 n0 (EM X G n0 6 300 (eS rvI M n)) (fMd_mends x1 σ) (σ, M, n) 0 [(0, .inr (.inl (some (gM G)))), (1, .inl x1)] [] := by
  unfold fMd_mends
  refine s_blk C 0 6 [0, 1, 2, 3, 4] (pc' := 7) (lv' := [(0, .inr (.inl (some (gM G)))), (1, .inl x1), (2, .inl (-1)), (3, .inl 5), (4, .inl 0)]) (st' := []) rfl ?_
  exact wMd_mends_l7 hG C htab FU _ _ _ _ _
theorem cMd_mends {l : Launch} {G : GE} (htr : l.stackTraces = false) (hG : gH G = true) (σ : Sg) (M : Mm) (n : Nat) (x1 : Int32) : ∀ o, fMd_mends x1 σ = some o → MetX l G yX12_mends cX12_mends 7 (some .boolean) 6 300 [.inr (.inl (some (gM G))), .inl x1] (σ, M, n) ((eS rvI M n) o) :=
  c_ofX (by decide) kMd_mends htr rfl rfl fun X _ _ C htab => wMd_mends hG C htab x1 _

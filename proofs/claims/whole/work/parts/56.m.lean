def pMd_isPart : List BR := [(0, .iload_n 1, 1, 0, 1), (1, .invokestatic 225, 3, 0, 4), (4, .ifCond .eq (37), 3, 0, 41), (7, .iload_n 2, 1, 0, 8), (8, .iconst 0, 1, 0, 9), (9, .aload_n 0, 1, 0, 10), (10, .getfield 44, 3, 0, 13), (13, .iload_n 1, 1, 0, 14), (14, .iaload, 1, 0, 15), (15, .iconst 1, 1, 1, 16), (16, .isub, 1, 0, 17), (17, .invokestatic 132, 3, 0, 20), (20, .ifCond .eq (21), 3, 0, 41), (23, .aload_n 0, 1, 0, 24), (24, .getfield 47, 3, 0, 27), (27, .bipush 90, 2, 90, 29), (29, .iload_n 1, 1, 0, 30), (30, .imul, 1, 0, 31), (31, .iload_n 2, 1, 0, 32), (32, .iadd, 1, 0, 33), (33, .baload, 1, 0, 34), (34, .ifCond .ne (7), 3, 0, 41), (37, .iconst 1, 1, 1, 38), (38, .goto (4), 3, 0, 42), (41, .iconst 0, 1, 0, 42), (42, .ireturn, 1, 0, 43)]
theorem kMd_isPart : bOK cX12_isPart 3 pMd_isPart = true := by decide +kernel
def fMd_isPart (x1 : Int32) (x2 : Int32) (σ : Sg) : Option (Int32) :=
  bdR (fMd_isRegion x1) fun v1 =>
  if v1 = 0 then
    rZ 0 (some 0)
  else
    mgA 18 x1 σ fun v2 =>
    bdR (fMd_isIn x2 0 (v2 - 1)) fun v3 =>
    if v3 = 0 then
      rZ 0 (some 0)
    else
      mgA 19 ((90 * x1) + x2) σ fun v4 =>
      if v4 = 0 then
        rZ 1 (some 1)
      else
        rZ 0 (some 0)
theorem wMd_isPart {X : MC} {G : GE} {n0 : Nat} (hG : gH G = true) (C : CX X G RX12 cX12_isPart pMd_isPart 3 (some .boolean) n0) (htab : ∀ z ∈ X.2.2.2.2.2.2.2.2.exceptionTable.toList, False) {σ : Sg} {M : Mm} {n : Nat} (x1 : Int32) (x2 : Int32) : JS X G 3 300 0 n0 (EM X G n0 4 300 (eR rvI σ M n)) (fMd_isPart x1 x2 σ) (σ, M, n) 0 [(0, .inr (.inl (some (gM G)))), (1, .inl x1), (2, .inl x2)] [] := by
  unfold fMd_isPart
  refine s_blk C 0 1 [0, 1, 2] (pc' := 1) (lv' := [(0, .inr (.inl (some (gM G)))), (1, .inl x1), (2, .inl x2)]) (st' := [.inl x1]) rfl ?_
  refine s_RI (CE_EM _ _ _ _ _ _) (st := []) (fun o ho => j_callS (As := [.inl x1]) (st := []) C 1 rfl mf_Md_isRegion ml_X12_225 rfl (by decide) (by decide) (Nat.le_refl _) rfl (cMd_isRegion (CX_tr C) hG σ M n x1 o ho)) (fun v1 => ?_)
  refine s_ieq C 2 rfl (fun _ => ?_) (fun _ => ?_)
  · refine s_blk C 24 1 [] (pc' := 42) (lv' := []) (st' := [.inl 0]) rfl ?_
    exact s_zret C 25 rfl rfl
  refine s_blk C 3 3 [0, 1, 2] (pc' := 10) (lv' := [(0, .inr (.inl (some (gM G)))), (1, .inl x1), (2, .inl x2)]) (st' := [.inr (.inl (some (gM G))), .inl 0, .inl x2]) rfl ?_
  refine s_mR hG C 6 rfl 18 fl_X12_44 rfl ?_
  refine s_blk C 7 1 [0, 1, 2] (pc' := 14) (lv' := [(0, .inr (.inl (some (gM G)))), (1, .inl x1), (2, .inl x2)]) (st' := [.inl x1, .inr (.inl (some (gA G 18))), .inl 0, .inl x2]) rfl ?_
  refine s_mldI hG C 8 rfl rfl rfl (fun v2 => ?_)
  refine s_blk C 9 2 [0, 1, 2] (pc' := 17) (lv' := [(0, .inr (.inl (some (gM G)))), (1, .inl x1), (2, .inl x2)]) (st' := [.inl (v2 - 1), .inl 0, .inl x2]) rfl ?_
  refine s_RI (CE_EM _ _ _ _ _ _) (st := []) (fun o ho => j_callS (As := [.inl x2, .inl 0, .inl (v2 - 1)]) (st := []) C 11 rfl mf_Md_isIn ml_X12_132 rfl (by decide) (by decide) (Nat.le_refl _) rfl (cMd_isIn (CX_tr C) hG σ M n x2 0 (v2 - 1) o ho)) (fun v3 => ?_)
  refine s_ieq C 12 rfl (fun _ => ?_) (fun _ => ?_)
  · refine s_blk C 24 1 [] (pc' := 42) (lv' := []) (st' := [.inl 0]) rfl ?_
    exact s_zret C 25 rfl rfl
  refine s_blk C 13 1 [1, 2] (pc' := 24) (lv' := [(1, .inl x1), (2, .inl x2)]) (st' := [.inr (.inl (some (gM G)))]) rfl ?_
  refine s_mR hG C 14 rfl 19 fl_X12_47 rfl ?_
  refine s_blk C 15 5 [] (pc' := 33) (lv' := []) (st' := [.inl ((90 * x1) + x2), .inr (.inl (some (gA G 19)))]) rfl ?_
  refine s_mldZ hG C 20 rfl rfl rfl (fun v4 => ?_)
  refine s_ine C 21 rfl (fun _ => ?_) (fun _ => ?_)
  · refine s_blk C 22 2 [] (pc' := 42) (lv' := []) (st' := [.inl 1]) rfl ?_
    exact s_zret C 25 rfl rfl
  refine s_blk C 24 1 [] (pc' := 42) (lv' := []) (st' := [.inl 0]) rfl ?_
  exact s_zret C 25 rfl rfl
theorem cMd_isPart {l : Launch} {G : GE} (htr : l.stackTraces = false) (hG : gH G = true) (σ : Sg) (M : Mm) (n : Nat) (x1 : Int32) (x2 : Int32) : ∀ o, fMd_isPart x1 x2 σ = some o → MetX l G yX12_isPart cX12_isPart 3 (some .boolean) 4 300 [.inr (.inl (some (gM G))), .inl x1, .inl x2] (σ, M, n) ((eR rvI σ M n) o) :=
  c_ofX (by decide) kMd_isPart htr rfl rfl fun X _ _ C htab => wMd_isPart hG C htab x1 x2
def pMd_isWarm : List BR := [(0, .aload_n 0, 1, 0, 1), (1, .getfield 80, 3, 0, 4), (4, .iload_n 1, 1, 0, 5), (5, .iaload, 1, 0, 6), (6, .iconst 2, 1, 2, 7), (7, .if_icmp .lt (39), 3, 0, 46), (10, .aload_n 0, 1, 0, 11), (11, .getfield 86, 3, 0, 14), (14, .iload_n 1, 1, 0, 15), (15, .iaload, 1, 0, 16), (16, .iconst (-1), 1, -1, 17), (17, .if_icmp .eq (33), 3, 0, 50), (20, .aload_n 0, 1, 0, 21), (21, .getfield 222, 3, 0, 24), (24, .aload_n 0, 1, 0, 25), (25, .getfield 86, 3, 0, 28), (28, .iload_n 1, 1, 0, 29), (29, .iaload, 1, 0, 30), (30, .iconst 2, 1, 2, 31), (31, .iadd, 1, 0, 32), (32, .aload_n 0, 1, 0, 33), (33, .getfield 86, 3, 0, 36), (36, .iload_n 1, 1, 0, 37), (37, .iaload, 1, 0, 38), (38, .iconst 4, 1, 4, 39), (39, .iadd, 1, 0, 40), (40, .invokestatic 132, 3, 0, 43), (43, .ifCond .eq (7), 3, 0, 50), (46, .iconst 1, 1, 1, 47), (47, .goto (4), 3, 0, 51), (50, .iconst 0, 1, 0, 51), (51, .ireturn, 1, 0, 52)]
theorem kMd_isWarm : bOK cX12_isWarm 2 pMd_isWarm = true := by decide +kernel
def fMd_isWarm_j46 (σ : Sg) : Option (Int32) :=
  rZ 1 (some 1)
theorem wMd_isWarm_j46 {X : MC} {G : GE} {n0 : Nat} (hG : gH G = true) (C : CX X G RX12 cX12_isWarm pMd_isWarm 2 (some .boolean) n0) (htab : ∀ z ∈ X.2.2.2.2.2.2.2.2.exceptionTable.toList, False) {σ : Sg} {M : Mm} {n : Nat} : JS X G 2 300 0 n0 (EM X G n0 3 300 (eR rvI σ M n)) (fMd_isWarm_j46 σ) (σ, M, n) 46 [] [] := by
  unfold fMd_isWarm_j46
  refine s_blk C 28 2 [] (pc' := 51) (lv' := []) (st' := [.inl 1]) rfl ?_
  exact s_zret C 31 rfl rfl
def fMd_isWarm (x1 : Int32) (σ : Sg) : Option (Int32) :=
  mgA 30 x1 σ fun v1 =>
  if v1 < 2 then
    fMd_isWarm_j46 σ
  else
    mgA 32 x1 σ fun v2 =>
    if v2 = (-1) then
      rZ 0 (some 0)
    else
      mgF 11 σ fun v3 =>
      mgA 32 x1 σ fun v4 =>
      mgA 32 x1 σ fun v5 =>
      bdR (fMd_isIn v3 (v4 + 2) (v5 + 4)) fun v6 =>
      if v6 = 0 then
        rZ 0 (some 0)
      else
        fMd_isWarm_j46 σ
theorem wMd_isWarm {X : MC} {G : GE} {n0 : Nat} (hG : gH G = true) (C : CX X G RX12 cX12_isWarm pMd_isWarm 2 (some .boolean) n0) (htab : ∀ z ∈ X.2.2.2.2.2.2.2.2.exceptionTable.toList, False) {σ : Sg} {M : Mm} {n : Nat} (x1 : Int32) : JS X G 2 300 0 n0 (EM X G n0 3 300 (eR rvI σ M n)) (fMd_isWarm x1 σ) (σ, M, n) 0 [(0, .inr (.inl (some (gM G)))), (1, .inl x1)] [] := by
  unfold fMd_isWarm
  refine s_blk C 0 1 [0, 1] (pc' := 1) (lv' := [(0, .inr (.inl (some (gM G)))), (1, .inl x1)]) (st' := [.inr (.inl (some (gM G)))]) rfl ?_
  refine s_mR hG C 1 rfl 30 fl_X12_80 rfl ?_
  refine s_blk C 2 1 [0, 1] (pc' := 5) (lv' := [(0, .inr (.inl (some (gM G)))), (1, .inl x1)]) (st' := [.inl x1, .inr (.inl (some (gA G 30)))]) rfl ?_
  refine s_mldI hG C 3 rfl rfl rfl (fun v1 => ?_)
  refine s_blk C 4 1 [0, 1] (pc' := 7) (lv' := [(0, .inr (.inl (some (gM G)))), (1, .inl x1)]) (st' := [.inl 2, .inl v1]) rfl ?_
  refine s_iclt C 5 rfl (fun _ => ?_) (fun _ => ?_)
  · refine s_blk C 0 0 [] (pc' := 46) (lv' := []) (st' := []) rfl ?_
    exact wMd_isWarm_j46 hG C htab
  refine s_blk C 6 1 [0, 1] (pc' := 11) (lv' := [(0, .inr (.inl (some (gM G)))), (1, .inl x1)]) (st' := [.inr (.inl (some (gM G)))]) rfl ?_
  refine s_mR hG C 7 rfl 32 fl_X12_86 rfl ?_
  refine s_blk C 8 1 [0, 1] (pc' := 15) (lv' := [(0, .inr (.inl (some (gM G)))), (1, .inl x1)]) (st' := [.inl x1, .inr (.inl (some (gA G 32)))]) rfl ?_
  refine s_mldI hG C 9 rfl rfl rfl (fun v2 => ?_)
  refine s_blk C 10 1 [0, 1] (pc' := 17) (lv' := [(0, .inr (.inl (some (gM G)))), (1, .inl x1)]) (st' := [.inl (-1), .inl v2]) rfl ?_
  refine s_iceq C 11 rfl (fun _ => ?_) (fun _ => ?_)
  · refine s_blk C 30 1 [] (pc' := 51) (lv' := []) (st' := [.inl 0]) rfl ?_
    exact s_zret C 31 rfl rfl
  refine s_blk C 12 1 [0, 1] (pc' := 21) (lv' := [(0, .inr (.inl (some (gM G)))), (1, .inl x1)]) (st' := [.inr (.inl (some (gM G)))]) rfl ?_
  refine s_mF hG C 13 rfl fl_X12_222 rfl (fun v3 => ?_)
  refine s_blk C 14 1 [0, 1] (pc' := 25) (lv' := [(0, .inr (.inl (some (gM G)))), (1, .inl x1)]) (st' := [.inr (.inl (some (gM G))), .inl v3]) rfl ?_
  refine s_mR hG C 15 rfl 32 fl_X12_86 rfl ?_
  refine s_blk C 16 1 [0, 1] (pc' := 29) (lv' := [(0, .inr (.inl (some (gM G)))), (1, .inl x1)]) (st' := [.inl x1, .inr (.inl (some (gA G 32))), .inl v3]) rfl ?_
  refine s_mldI hG C 17 rfl rfl rfl (fun v4 => ?_)
  refine s_blk C 18 3 [1] (pc' := 33) (lv' := [(1, .inl x1)]) (st' := [.inr (.inl (some (gM G))), .inl (v4 + 2), .inl v3]) rfl ?_
  refine s_mR hG C 21 rfl 32 fl_X12_86 rfl ?_
  refine s_blk C 22 1 [] (pc' := 37) (lv' := []) (st' := [.inl x1, .inr (.inl (some (gA G 32))), .inl (v4 + 2), .inl v3]) rfl ?_
  refine s_mldI hG C 23 rfl rfl rfl (fun v5 => ?_)
  refine s_blk C 24 2 [] (pc' := 40) (lv' := []) (st' := [.inl (v5 + 4), .inl (v4 + 2), .inl v3]) rfl ?_
  refine s_RI (CE_EM _ _ _ _ _ _) (st := []) (fun o ho => j_callS (As := [.inl v3, .inl (v4 + 2), .inl (v5 + 4)]) (st := []) C 26 rfl mf_Md_isIn ml_X12_132 rfl (by decide) (by decide) (Nat.le_refl _) rfl (cMd_isIn (CX_tr C) hG σ M n v3 (v4 + 2) (v5 + 4) o ho)) (fun v6 => ?_)
  refine s_ieq C 27 rfl (fun _ => ?_) (fun _ => ?_)
  · refine s_blk C 30 1 [] (pc' := 51) (lv' := []) (st' := [.inl 0]) rfl ?_
    exact s_zret C 31 rfl rfl
  exact wMd_isWarm_j46 hG C htab
theorem cMd_isWarm {l : Launch} {G : GE} (htr : l.stackTraces = false) (hG : gH G = true) (σ : Sg) (M : Mm) (n : Nat) (x1 : Int32) : ∀ o, fMd_isWarm x1 σ = some o → MetX l G yX12_isWarm cX12_isWarm 2 (some .boolean) 3 300 [.inr (.inl (some (gM G))), .inl x1] (σ, M, n) ((eR rvI σ M n) o) :=
  c_ofX (by decide) kMd_isWarm htr rfl rfl fun X _ _ C htab => wMd_isWarm hG C htab x1
def pMd_letter : List BR := [(0, .aload_n 0, 1, 0, 1), (1, .iload_n 1, 1, 0, 2), (2, .invokestatic 228, 3, 0, 5), (5, .ifCond .ne (7), 3, 0, 12), (8, .iconst 1, 1, 1, 9), (9, .goto (12), 3, 0, 21), (12, .iload_n 2, 1, 0, 13), (13, .ifCond .ge (7), 3, 0, 20), (16, .iconst 2, 1, 2, 17), (17, .goto (4), 3, 0, 21), (20, .iconst 0, 1, 0, 21), (21, .invokevirtual 150, 3, 0, 24), (24, .ifCond .ne (6), 3, 0, 30), (27, .bipush 32, 2, 32, 29), (29, .ireturn, 1, 0, 30), (30, .iload_n 2, 1, 0, 31), (31, .iload_n 1, 1, 0, 32), (32, .invokestatic 136, 3, 0, 35), (35, .if_icmp .ge (17), 3, 0, 52), (38, .bipush 97, 2, 97, 40), (40, .iload_n 1, 1, 0, 41), (41, .iload_n 2, 1, 0, 42), (42, .invokestatic 140, 3, 0, 45), (45, .iadd, 1, 0, 46), (46, .iconst 1, 1, 1, 47), (47, .isub, 1, 0, 48), (48, .i2c, 1, 0, 49), (49, .goto (5), 3, 0, 54), (52, .bipush 32, 2, 32, 54), (54, .ireturn, 1, 0, 55)]
theorem kMd_letter : bOK cX12_letter 3 pMd_letter = true := by decide +kernel
def fMd_letter_j21 (x1 : Int32) (x2 : Int32) (s0 : Int32) (σ : Sg) : Option (Int32 × Sg) :=
  bdW (fMd_holds s0 σ) fun v1 σ2 =>
  if v1 = 0 then
    rC 32 (some (32, σ2))
  else
    bdR (fMd_letters x1) fun v3 =>
    if v3 ≤ x2 then
      rC 32 (some (32, σ2))
    else
      bdR (fMd_letterOf x1 x2) fun v4 =>
      rC (((((97 + v4) - 1)).toUInt32 % 65536).toInt32) (some ((((((97 + v4) - 1)).toUInt32 % 65536).toInt32), σ2))
theorem wMd_letter_j21 {X : MC} {G : GE} {n0 : Nat} (hG : gH G = true) (C : CX X G RX12 cX12_letter pMd_letter 3 (some .char) n0) (htab : ∀ z ∈ X.2.2.2.2.2.2.2.2.exceptionTable.toList, False) {M : Mm} {n : Nat} (x1 : Int32) (x2 : Int32) (s0 : Int32) (σ : Sg) : JS X G 3 300 0 n0 (EM X G n0 4 300 (eS rvI M n)) (fMd_letter_j21 x1 x2 s0 σ) (σ, M, n) 21 [(1, .inl x1), (2, .inl x2)] [.inl s0, .inr (.inl (some (gM G)))] := by
  unfold fMd_letter_j21
  refine s_SI (CE_EM _ _ _ _ _ _) (st := []) (fun o ho => j_callV (As := [.inl s0]) (st := []) (b := gM G) C 11 rfl mf_Md_holds ml_X12_150 rfl (recv_M hG C) (by decide) (by decide) (Nat.le_refl _) rfl (cMd_holds (CX_tr C) hG σ M n s0 o ho)) (fun v1 σ2 => ?_)
  refine s_ine C 12 rfl (fun _ => ?_) (fun _ => ?_)
  · refine s_blk C 13 1 [] (pc' := 29) (lv' := []) (st' := [.inl 32]) rfl ?_
    exact s_cret C 14 rfl rfl
  refine s_blk C 15 2 [1, 2] (pc' := 32) (lv' := [(1, .inl x1), (2, .inl x2)]) (st' := [.inl x1, .inl x2]) rfl ?_
  refine s_RI (CE_EM _ _ _ _ _ _) (st := [.inl x2]) (fun o ho => j_callS (As := [.inl x1]) (st := [.inl x2]) C 17 rfl mf_Md_letters ml_X12_136 rfl (by decide) (by decide) (Nat.le_refl _) rfl (cMd_letters (CX_tr C) hG σ2 M n x1 o ho)) (fun v3 => ?_)
  refine s_icge C 18 rfl (fun _ => ?_) (fun _ => ?_)
  · refine s_blk C 28 1 [] (pc' := 54) (lv' := []) (st' := [.inl 32]) rfl ?_
    exact s_cret C 29 rfl rfl
  refine s_blk C 19 3 [] (pc' := 42) (lv' := []) (st' := [.inl x2, .inl x1, .inl 97]) rfl ?_
  refine s_RI (CE_EM _ _ _ _ _ _) (st := [.inl 97]) (fun o ho => j_callS (As := [.inl x1, .inl x2]) (st := [.inl 97]) C 22 rfl mf_Md_letterOf ml_X12_140 rfl (by decide) (by decide) (Nat.le_refl _) rfl (cMd_letterOf (CX_tr C) hG σ2 M n x1 x2 o ho)) (fun v4 => ?_)
  refine s_blk C 23 5 [] (pc' := 54) (lv' := []) (st' := [.inl (((((97 + v4) - 1)).toUInt32 % 65536).toInt32)]) rfl ?_
  exact s_cret C 29 rfl rfl
def fMd_letter (x1 : Int32) (x2 : Int32) (σ : Sg) : Option (Int32 × Sg) :=
  bdR (fMd_isKey x1) fun v1 =>
  if v1 = 0 then
    fMd_letter_j21 x1 x2 1 σ
  else
    if 0 ≤ x2 then
      fMd_letter_j21 x1 x2 0 σ
    else
      fMd_letter_j21 x1 x2 2 σ
theorem wMd_letter {X : MC} {G : GE} {n0 : Nat} (hG : gH G = true) (C : CX X G RX12 cX12_letter pMd_letter 3 (some .char) n0) (htab : ∀ z ∈ X.2.2.2.2.2.2.2.2.exceptionTable.toList, False) {M : Mm} {n : Nat} (x1 : Int32) (x2 : Int32) (σ : Sg) : JS X G 3 300 0 n0 (EM X G n0 4 300 (eS rvI M n)) (fMd_letter x1 x2 σ) (σ, M, n) 0 [(0, .inr (.inl (some (gM G)))), (1, .inl x1), (2, .inl x2)] [] := by
  unfold fMd_letter
  refine s_blk C 0 2 [1, 2] (pc' := 2) (lv' := [(1, .inl x1), (2, .inl x2)]) (st' := [.inl x1, .inr (.inl (some (gM G)))]) rfl ?_
  refine s_RI (CE_EM _ _ _ _ _ _) (st := [.inr (.inl (some (gM G)))]) (fun o ho => j_callS (As := [.inl x1]) (st := [.inr (.inl (some (gM G)))]) C 2 rfl mf_Md_isKey ml_X12_228 rfl (by decide) (by decide) (Nat.le_refl _) rfl (cMd_isKey (CX_tr C) hG σ M n x1 o ho)) (fun v1 => ?_)
  refine s_ine C 3 rfl (fun _ => ?_) (fun _ => ?_)
  · refine s_blk C 4 2 [1, 2] (pc' := 21) (lv' := [(1, .inl x1), (2, .inl x2)]) (st' := [.inl 1, .inr (.inl (some (gM G)))]) rfl ?_
    exact wMd_letter_j21 hG C htab _ _ _ _
  refine s_blk C 6 1 [1, 2] (pc' := 13) (lv' := [(1, .inl x1), (2, .inl x2)]) (st' := [.inl x2, .inr (.inl (some (gM G)))]) rfl ?_
  refine s_ige C 7 rfl (fun _ => ?_) (fun _ => ?_)
  · refine s_blk C 10 1 [1, 2] (pc' := 21) (lv' := [(1, .inl x1), (2, .inl x2)]) (st' := [.inl 0, .inr (.inl (some (gM G)))]) rfl ?_
    exact wMd_letter_j21 hG C htab _ _ _ _
  refine s_blk C 8 2 [1, 2] (pc' := 21) (lv' := [(1, .inl x1), (2, .inl x2)]) (st' := [.inl 2, .inr (.inl (some (gM G)))]) rfl ?_
  exact wMd_letter_j21 hG C htab _ _ _ _
theorem cMd_letter {l : Launch} {G : GE} (htr : l.stackTraces = false) (hG : gH G = true) (σ : Sg) (M : Mm) (n : Nat) (x1 : Int32) (x2 : Int32) : ∀ o, fMd_letter x1 x2 σ = some o → MetX l G yX12_letter cX12_letter 3 (some .char) 4 300 [.inr (.inl (some (gM G))), .inl x1, .inl x2] (σ, M, n) ((eS rvI M n) o) :=
  c_ofX (by decide) kMd_letter htr rfl rfl fun X _ _ C htab => wMd_letter hG C htab x1 x2 _

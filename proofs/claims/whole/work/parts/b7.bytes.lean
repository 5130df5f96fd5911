set_option maxRecDepth 100000
/-! bytes behind bytes; piece -/
section PI
variable {h c n r : Nat} {own : Nat → Nat} {B : BK} {σ σ' : Sg} {M M' : Mm}
theorem c_at {b j : Nat} (k : mK M b = 1) (p : mP M 100 b 0 = some (b + 1)) (rk : mK M (b + 1) = 20) (rl : mL M (b + 1) = 40) (hj : j < 40) : fBytes_at b (i3 j) M = some (mI M 0 (b + 1) j) := by
  simp (disch := (first | assumption | omega | decide | (simp only [mK_uI, mK_uP, mL_uI, mL_uP, mK_wI, mL_wI, mK_nA_e, mL_nA_e] <;> (first | assumption | omega)))) only [i3_le_t, i3_le_f, i3_lt_t, i3_lt_f, i3_eq_t, i3_eq_f, i3_add, i3_mul, i3_sub, i3_div, i3_dec, i3_m1, m1_i3, m1_eq, i3_ge0, m1_lt, i3_le_m1, ↓reduceIte, rZ_0, rZ_1, bdR_s, bdW_s, ifN_n, ifN_s, ↓fgI_s, ↓fgR_s, ↓rk_s, ↓fpI_s, ↓fpR_s, ↓fpZ_0, ↓fpZ_1, ↓alI_i, ↓alP_i, ↓asI_i, ↓asB_i, ↓asZ_0, ↓asZ_1, ↓aln_i, ↓fca_s, ↓fca_n, bdC_li, bdC_ri, mK_uI, mK_uP, mL_uI, mL_uP, mP_uI, mI_uP, mK_wI, mL_wI, mP_wI, mI_uI_e, mI_uI_c, nwO_s, mK_nA_e, mL_nA_e, fBytes_at_E, p, rl]
theorem app_loop {a b D : Nat} {g : Nat → Nat} (ab : a ≠ b) (ab1 : a + 1 ≠ b) (ab2 : b + 1 ≠ a) : ∀ d i A fu (M : Mm), d + i = D → d < fu → mK M a = 1 → mP M 100 a 0 = some (a + 1) → mK M (a + 1) = 20 → mL M (a + 1) = 40 → mK M b = 1 → mP M 100 b 0 = some (b + 1) → mK M (b + 1) = 20 → mL M (b + 1) = 40 → mI M 101 a 0 = i3 (A + i) → mI M 101 b 0 = i3 D → A + D ≤ 40 → (∀ j, j < D → mI M 0 (b + 1) j = i3 (g j) ∧ g j < 128) → ∃ M', fBytes_appendAll_l2 a fu (some b) (i3 i) M = some ((), M') ∧ IOS (fun c x => (c = 101 ∧ x = a) ∨ (c = 0 ∧ x = a + 1)) M M' ∧ mI M' 101 a 0 = i3 (A + D) ∧ ∀ j, mI M' 0 (a + 1) j = if A + i ≤ j ∧ j < A + D then i3 (g (j - A)) else mI M 0 (a + 1) j := by
  intro d
  induction d with
  | zero =>
    intro i A fu M hd hfu ka pa rka rla kb pb rkb rlb ma mb h40 hg
    obtain ⟨f, rfl⟩ : ∃ f, fu = f + 1 := ⟨fu - 1, by omega⟩
    have hi : i = D := by omega
    subst hi
    refine ⟨M, ?_, IOS.refl, ma, fun j => by rw [if_neg (by omega)]⟩
    rw [fBytes_appendAll_l2_S, fBytes_appendAll_b2_E]
    clear hg
    simp (disch := (first | assumption | omega | decide | (simp only [mK_uI, mK_uP, mL_uI, mL_uP, mK_wI, mL_wI, mK_nA_e, mL_nA_e] <;> (first | assumption | omega)))) only [i3_le_t, i3_le_f, i3_lt_t, i3_lt_f, i3_eq_t, i3_eq_f, i3_add, i3_mul, i3_sub, i3_div, i3_dec, i3_m1, m1_i3, m1_eq, i3_ge0, m1_lt, i3_le_m1, ↓reduceIte, rZ_0, rZ_1, bdR_s, bdW_s, ifN_n, ifN_s, ↓fgI_s, ↓fgR_s, ↓rk_s, ↓fpI_s, ↓fpR_s, ↓fpZ_0, ↓fpZ_1, ↓alI_i, ↓alP_i, ↓asI_i, ↓asB_i, ↓asZ_0, ↓asZ_1, ↓aln_i, ↓fca_s, ↓fca_n, bdC_li, bdC_ri, mK_uI, mK_uP, mL_uI, mL_uP, mP_uI, mI_uP, mK_wI, mL_wI, mP_wI, mI_uI_e, mI_uI_c, nwO_s, mK_nA_e, mL_nA_e, mb]
  | succ d ih =>
    intro i A fu M hd hfu ka pa rka rla kb pb rkb rlb ma mb h40 hg
    obtain ⟨f, rfl⟩ : ∃ f, fu = f + 1 := ⟨fu - 1, by omega⟩
    obtain ⟨g1, g2⟩ := hg i (by omega)
    have at1 := c_at kb pb rkb rlb (j := i) (by omega)
    rw [g1] at at1
    have ap := c_append (b := g i) ka pa rka rla ma (by omega) g2
    obtain ⟨M2, hM2⟩ : ∃ M2, M2 = uI (uI M 0 (a + 1) (A + i) (i3 (g i))) 101 a 0 (i3 (A + i + 1)) := ⟨_, rfl⟩
    rw [← hM2] at ap
    have f2 : IOS (fun c x => (c = 101 ∧ x = a) ∨ (c = 0 ∧ x = a + 1)) M M2 := by
      rw [hM2]
      exact ((IOS.uI _ _ _ _).trans (IOS.uI _ _ _ _)).mono fun cc x z => by omega
    have r2 : ∀ j, mI M2 0 (a + 1) j = if j = A + i then i3 (g i) else mI M 0 (a + 1) j := fun j => by
      rw [hM2, mI_uI_c _ _ _ _ (by decide)]
      by_cases e : j = A + i
      · rw [if_pos e, e, mI_uI_e]
      · rw [if_neg e, mI_uI_j _ _ _ _ e]
    have m2 : mI M2 101 a 0 = i3 (A + (i + 1)) := by rw [hM2, mI_uI_e]; rfl
    clear hM2
    obtain ⟨M', e1, e2, e3, e4⟩ := ih (i + 1) A f M2 (by omega) (by omega) ((f2.K _).trans ka) ((f2.P _ _ _).trans pa) ((f2.K _).trans rka) ((f2.L _).trans rla) ((f2.K _).trans kb) ((f2.P _ _ _).trans pb) ((f2.K _).trans rkb) ((f2.L _).trans rlb) m2 ((f2.2 _ _ _ (by omega)).trans mb) h40 (fun j hj => by rw [f2.2 _ _ _ (by omega)]; exact hg j hj)
    refine ⟨M', ?_, f2.then e2, e3, fun j => ?_⟩
    · rw [fBytes_appendAll_l2_S, fBytes_appendAll_b2_E]
      clear ih e2 e4 f2 r2 hg
      simp (disch := (first | assumption | omega | decide | (simp only [mK_uI, mK_uP, mL_uI, mL_uP, mK_wI, mL_wI, mK_nA_e, mL_nA_e] <;> (first | assumption | omega)))) only [i3_le_t, i3_le_f, i3_lt_t, i3_lt_f, i3_eq_t, i3_eq_f, i3_add, i3_mul, i3_sub, i3_div, i3_dec, i3_m1, m1_i3, m1_eq, i3_ge0, m1_lt, i3_le_m1, ↓reduceIte, rZ_0, rZ_1, bdR_s, bdW_s, ifN_n, ifN_s, ↓fgI_s, ↓fgR_s, ↓rk_s, ↓fpI_s, ↓fpR_s, ↓fpZ_0, ↓fpZ_1, ↓alI_i, ↓alP_i, ↓asI_i, ↓asB_i, ↓asZ_0, ↓asZ_1, ↓aln_i, ↓fca_s, ↓fca_n, bdC_li, bdC_ri, mK_uI, mK_uP, mL_uI, mL_uP, mP_uI, mI_uP, mK_wI, mL_wI, mP_wI, mI_uI_e, mI_uI_c, nwO_s, mK_nA_e, mL_nA_e, mb, at1, ap, e1]
    · rw [e4, r2]
      by_cases e : j = A + i
      · subst e
        rw [if_neg (by omega), if_pos rfl, if_pos (by omega), Nat.add_sub_cancel_left]
      · rw [if_neg e]
        by_cases y : A + i ≤ j ∧ j < A + D
        · rw [if_pos (by omega), if_pos y]
        · rw [if_neg (by omega), if_neg y]
theorem c_appendAll {a b D A ta tb : Nat} {g : Nat → Nat} (ba : BYT own M a ta) (bb : BYT own M b tb) (ab : a ≠ b) (ma : mI M 101 a 0 = i3 A) (mb : mI M 101 b 0 = i3 D) (h40 : A + D ≤ 40) (hg : ∀ j, j < D → mI M 0 (b + 1) j = i3 (g j) ∧ g j < 128) : ∃ M', fBytes_appendAll a (some b) M = some ((), M') ∧ IOS (fun c x => (c = 101 ∧ x = a) ∨ (c = 0 ∧ x = a + 1)) M M' ∧ mI M' 101 a 0 = i3 (A + D) ∧ ∀ j, mI M' 0 (a + 1) j = if A ≤ j ∧ j < A + D then i3 (g (j - A)) else mI M 0 (a + 1) j := by
  have ab1 : a + 1 ≠ b := fun e => by have x := ba.rk; rw [e, bb.k] at x; exact absurd x (by decide)
  have ab2 : b + 1 ≠ a := fun e => by have x := bb.rk; rw [e, ba.k] at x; exact absurd x (by decide)
  obtain ⟨M', e1, e2, e3, e4⟩ := app_loop (g := g) ab ab1 ab2 D 0 A FU M (by omega) (FU_S (by omega)) ba.k ba.p ba.rk ba.rl bb.k bb.p bb.rk bb.rl ma mb h40 hg
  refine ⟨M', ?_, e2, e3, e4⟩
  rw [fBytes_appendAll_E]; exact e1
theorem up_cases (R : RR h own B σ M n) (I : IV c σ) (x1 : Int32) : (fHb_openUpload h x1 M n = some (.inr 0, M, n + 1) ∧ fMd_isUpload x1 σ = some (i3 0)) ∨ ∃ u, u < nv (σ 40 0) ∧ u < 12 ∧ x1 = i3 u ∧ fHb_openUpload h x1 M n = some (.inl (some (ul B u)), M, n) ∧ fMd_isUpload x1 σ = some (i3 1) ∧ σ 43 u = i3 0 := by
  have k := R.hb.k
  have w1 := R.hb.p5
  obtain ⟨L, hL12, hL⟩ := I.un.to
  have eL : nv (σ 40 0) = L := by rw [hL]; exact nv_i (by omega)
  have LR := R.us
  rw [eL] at LR
  have w2 := LR.k
  have w3 := LR.size
  have hn : n ≤ n + 1 := Nat.le_succ n
  rcases i3_cases x1 with a | ⟨u, hu, rfl⟩
  · left
    refine ⟨?_, ?_⟩
    · clear R I LR
      simp (disch := (first | assumption | omega | decide | (simp only [mK_uI, mK_uP, mL_uI, mL_uP, mK_wI, mL_wI, mK_nA_e, mL_nA_e] <;> (first | assumption | omega)))) only [i3_le_t, i3_le_f, i3_lt_t, i3_lt_f, i3_eq_t, i3_eq_f, i3_add, i3_mul, i3_sub, i3_div, i3_dec, i3_m1, m1_i3, m1_eq, i3_ge0, m1_lt, i3_le_m1, ↓reduceIte, rZ_0, rZ_1, bdR_s, bdW_s, ifN_n, ifN_s, ↓fgI_s, ↓fgR_s, ↓rk_s, ↓fpI_s, ↓fpR_s, ↓fpZ_0, ↓fpZ_1, ↓alI_i, ↓alP_i, ↓asI_i, ↓asB_i, ↓asZ_0, ↓asZ_1, ↓aln_i, ↓fca_s, ↓fca_n, bdC_li, bdC_ri, mK_uI, mK_uP, mL_uI, mL_uP, mP_uI, mI_uP, mK_wI, mL_wI, mP_wI, mI_uI_e, mI_uI_c, nwO_s, mK_nA_e, mL_nA_e, fHb_openUpload_E, a, fHb_openUpload_j19_E, fHb_openUpload_j20_E, c_idx0]
    · clear R I LR
      simp (disch := (first | assumption | omega | decide | (simp only [mK_uI, mK_uP, mL_uI, mL_uP, mK_wI, mL_wI, mK_nA_e, mL_nA_e] <;> (first | assumption | omega)))) only [i3_le_t, i3_le_f, i3_lt_t, i3_lt_f, i3_eq_t, i3_eq_f, i3_add, i3_mul, i3_sub, i3_div, i3_dec, i3_m1, m1_i3, m1_eq, i3_ge0, m1_lt, i3_le_m1, ↓reduceIte, rZ_0, rZ_1, bdR_s, bdW_s, ifN_n, ifN_s, uS_n, uS_e, uS_d, ↓mgF_s, ↓mpF_s, ↓mgA_2, ↓mgA_4, ↓mgA_6, ↓mgA_7, ↓mgA_9, ↓mgA_10, ↓mgA_12, ↓mgA_14, ↓mgA_15, ↓mgA_16, ↓mgA_17, ↓mgA_18, ↓mgA_19, ↓mgA_20, ↓mgA_21, ↓mgA_22, ↓mgA_23, ↓mgA_24, ↓mgA_25, ↓mgA_26, ↓mgA_27, ↓mgA_28, ↓mgA_29, ↓mgA_30, ↓mgA_31, ↓mgA_32, ↓mgA_33, ↓mgA_34, ↓mgA_35, ↓mgA_36, ↓mgA_37, ↓mgA_38, ↓mgA_39, ↓mgA_41, ↓mgA_42, ↓mgA_43, ↓mgA_44, ↓mgA_45, ↓mgA_46, ↓mpA_2, ↓mpA_4, ↓mpA_6, ↓mpA_7, ↓mpA_9, ↓mpA_10, ↓mpA_12, ↓mpA_14, ↓mpA_15, ↓mpA_16, ↓mpZ_17, ↓mpA_18, ↓mpZ_19, ↓mpA_20, ↓mpA_21, ↓mpA_22, ↓mpA_23, ↓mpA_24, ↓mpZ_25, ↓mpA_26, ↓mpA_27, ↓mpA_28, ↓mpA_29, ↓mpA_30, ↓mpA_31, ↓mpA_32, ↓mpA_33, ↓mpA_34, ↓mpZ_35, ↓mpA_36, ↓mpA_37, ↓mpA_38, ↓mpA_39, ↓mpA_41, ↓mpA_42, ↓mpZ_43, ↓mpA_44, ↓mpA_45, ↓mpA_46, fMd_isUpload_E, hL, fMd_isIn_E, a]
  · by_cases z : u < L
    · have w4 := LR.get z
      have U := R.uo u (by omega)
      have u1 := U.b.k
      have u2 := U.ov
      by_cases y : σ 43 u = i3 0
      · right
        refine ⟨u, by omega, by omega, rfl, ?_, ?_, y⟩
        · clear R I LR U
          simp (disch := (first | assumption | omega | decide | (simp only [mK_uI, mK_uP, mL_uI, mL_uP, mK_wI, mL_wI, mK_nA_e, mL_nA_e] <;> (first | assumption | omega)))) only [i3_le_t, i3_le_f, i3_lt_t, i3_lt_f, i3_eq_t, i3_eq_f, i3_add, i3_mul, i3_sub, i3_div, i3_dec, i3_m1, m1_i3, m1_eq, i3_ge0, m1_lt, i3_le_m1, ↓reduceIte, rZ_0, rZ_1, bdR_s, bdW_s, ifN_n, ifN_s, ↓fgI_s, ↓fgR_s, ↓rk_s, ↓fpI_s, ↓fpR_s, ↓fpZ_0, ↓fpZ_1, ↓alI_i, ↓alP_i, ↓asI_i, ↓asB_i, ↓asZ_0, ↓asZ_1, ↓aln_i, ↓fca_s, ↓fca_n, bdC_li, bdC_ri, mK_uI, mK_uP, mL_uI, mL_uP, mP_uI, mI_uP, mK_wI, mL_wI, mP_wI, mI_uI_e, mI_uI_c, nwO_s, mK_nA_e, mL_nA_e, fHb_openUpload_E, w1, w3, fHb_openUpload_j20_E, c_idx1, w4, u2, y, fHb_openUpload_j47_E]
        · clear R I LR U
          simp (disch := (first | assumption | omega | decide | (simp only [mK_uI, mK_uP, mL_uI, mL_uP, mK_wI, mL_wI, mK_nA_e, mL_nA_e] <;> (first | assumption | omega)))) only [i3_le_t, i3_le_f, i3_lt_t, i3_lt_f, i3_eq_t, i3_eq_f, i3_add, i3_mul, i3_sub, i3_div, i3_dec, i3_m1, m1_i3, m1_eq, i3_ge0, m1_lt, i3_le_m1, ↓reduceIte, rZ_0, rZ_1, bdR_s, bdW_s, ifN_n, ifN_s, uS_n, uS_e, uS_d, ↓mgF_s, ↓mpF_s, ↓mgA_2, ↓mgA_4, ↓mgA_6, ↓mgA_7, ↓mgA_9, ↓mgA_10, ↓mgA_12, ↓mgA_14, ↓mgA_15, ↓mgA_16, ↓mgA_17, ↓mgA_18, ↓mgA_19, ↓mgA_20, ↓mgA_21, ↓mgA_22, ↓mgA_23, ↓mgA_24, ↓mgA_25, ↓mgA_26, ↓mgA_27, ↓mgA_28, ↓mgA_29, ↓mgA_30, ↓mgA_31, ↓mgA_32, ↓mgA_33, ↓mgA_34, ↓mgA_35, ↓mgA_36, ↓mgA_37, ↓mgA_38, ↓mgA_39, ↓mgA_41, ↓mgA_42, ↓mgA_43, ↓mgA_44, ↓mgA_45, ↓mgA_46, ↓mpA_2, ↓mpA_4, ↓mpA_6, ↓mpA_7, ↓mpA_9, ↓mpA_10, ↓mpA_12, ↓mpA_14, ↓mpA_15, ↓mpA_16, ↓mpZ_17, ↓mpA_18, ↓mpZ_19, ↓mpA_20, ↓mpA_21, ↓mpA_22, ↓mpA_23, ↓mpA_24, ↓mpZ_25, ↓mpA_26, ↓mpA_27, ↓mpA_28, ↓mpA_29, ↓mpA_30, ↓mpA_31, ↓mpA_32, ↓mpA_33, ↓mpA_34, ↓mpZ_35, ↓mpA_36, ↓mpA_37, ↓mpA_38, ↓mpA_39, ↓mpA_41, ↓mpA_42, ↓mpZ_43, ↓mpA_44, ↓mpA_45, ↓mpA_46, fMd_isUpload_E, hL, fMd_isIn_E, y]
      · left
        refine ⟨?_, ?_⟩
        · clear R I LR U
          simp (disch := (first | assumption | omega | decide | (simp only [mK_uI, mK_uP, mL_uI, mL_uP, mK_wI, mL_wI, mK_nA_e, mL_nA_e] <;> (first | assumption | omega)))) only [i3_le_t, i3_le_f, i3_lt_t, i3_lt_f, i3_eq_t, i3_eq_f, i3_add, i3_mul, i3_sub, i3_div, i3_dec, i3_m1, m1_i3, m1_eq, i3_ge0, m1_lt, i3_le_m1, ↓reduceIte, rZ_0, rZ_1, bdR_s, bdW_s, ifN_n, ifN_s, ↓fgI_s, ↓fgR_s, ↓rk_s, ↓fpI_s, ↓fpR_s, ↓fpZ_0, ↓fpZ_1, ↓alI_i, ↓alP_i, ↓asI_i, ↓asB_i, ↓asZ_0, ↓asZ_1, ↓aln_i, ↓fca_s, ↓fca_n, bdC_li, bdC_ri, mK_uI, mK_uP, mL_uI, mL_uP, mP_uI, mI_uP, mK_wI, mL_wI, mP_wI, mI_uI_e, mI_uI_c, nwO_s, mK_nA_e, mL_nA_e, fHb_openUpload_E, w1, w3, fHb_openUpload_j20_E, c_idx1, w4, u2, y, fHb_openUpload_j47_E, c_idx0]
        · clear R I LR U
          simp (disch := (first | assumption | omega | decide | (simp only [mK_uI, mK_uP, mL_uI, mL_uP, mK_wI, mL_wI, mK_nA_e, mL_nA_e] <;> (first | assumption | omega)))) only [i3_le_t, i3_le_f, i3_lt_t, i3_lt_f, i3_eq_t, i3_eq_f, i3_add, i3_mul, i3_sub, i3_div, i3_dec, i3_m1, m1_i3, m1_eq, i3_ge0, m1_lt, i3_le_m1, ↓reduceIte, rZ_0, rZ_1, bdR_s, bdW_s, ifN_n, ifN_s, uS_n, uS_e, uS_d, ↓mgF_s, ↓mpF_s, ↓mgA_2, ↓mgA_4, ↓mgA_6, ↓mgA_7, ↓mgA_9, ↓mgA_10, ↓mgA_12, ↓mgA_14, ↓mgA_15, ↓mgA_16, ↓mgA_17, ↓mgA_18, ↓mgA_19, ↓mgA_20, ↓mgA_21, ↓mgA_22, ↓mgA_23, ↓mgA_24, ↓mgA_25, ↓mgA_26, ↓mgA_27, ↓mgA_28, ↓mgA_29, ↓mgA_30, ↓mgA_31, ↓mgA_32, ↓mgA_33, ↓mgA_34, ↓mgA_35, ↓mgA_36, ↓mgA_37, ↓mgA_38, ↓mgA_39, ↓mgA_41, ↓mgA_42, ↓mgA_43, ↓mgA_44, ↓mgA_45, ↓mgA_46, ↓mpA_2, ↓mpA_4, ↓mpA_6, ↓mpA_7, ↓mpA_9, ↓mpA_10, ↓mpA_12, ↓mpA_14, ↓mpA_15, ↓mpA_16, ↓mpZ_17, ↓mpA_18, ↓mpZ_19, ↓mpA_20, ↓mpA_21, ↓mpA_22, ↓mpA_23, ↓mpA_24, ↓mpZ_25, ↓mpA_26, ↓mpA_27, ↓mpA_28, ↓mpA_29, ↓mpA_30, ↓mpA_31, ↓mpA_32, ↓mpA_33, ↓mpA_34, ↓mpZ_35, ↓mpA_36, ↓mpA_37, ↓mpA_38, ↓mpA_39, ↓mpA_41, ↓mpA_42, ↓mpZ_43, ↓mpA_44, ↓mpA_45, ↓mpA_46, fMd_isUpload_E, hL, fMd_isIn_E, y]
    · left
      refine ⟨?_, ?_⟩
      · clear R I LR
        simp (disch := (first | assumption | omega | decide | (simp only [mK_uI, mK_uP, mL_uI, mL_uP, mK_wI, mL_wI, mK_nA_e, mL_nA_e] <;> (first | assumption | omega)))) only [i3_le_t, i3_le_f, i3_lt_t, i3_lt_f, i3_eq_t, i3_eq_f, i3_add, i3_mul, i3_sub, i3_div, i3_dec, i3_m1, m1_i3, m1_eq, i3_ge0, m1_lt, i3_le_m1, ↓reduceIte, rZ_0, rZ_1, bdR_s, bdW_s, ifN_n, ifN_s, ↓fgI_s, ↓fgR_s, ↓rk_s, ↓fpI_s, ↓fpR_s, ↓fpZ_0, ↓fpZ_1, ↓alI_i, ↓alP_i, ↓asI_i, ↓asB_i, ↓asZ_0, ↓asZ_1, ↓aln_i, ↓fca_s, ↓fca_n, bdC_li, bdC_ri, mK_uI, mK_uP, mL_uI, mL_uP, mP_uI, mI_uP, mK_wI, mL_wI, mP_wI, mI_uI_e, mI_uI_c, nwO_s, mK_nA_e, mL_nA_e, fHb_openUpload_E, w1, w3, fHb_openUpload_j19_E, fHb_openUpload_j20_E, c_idx0]
      · clear R I LR
        by_cases y : L = 0
        · subst y
          simp (disch := (first | assumption | omega | decide | (simp only [mK_uI, mK_uP, mL_uI, mL_uP, mK_wI, mL_wI, mK_nA_e, mL_nA_e] <;> (first | assumption | omega)))) only [i3_le_t, i3_le_f, i3_lt_t, i3_lt_f, i3_eq_t, i3_eq_f, i3_add, i3_mul, i3_sub, i3_div, i3_dec, i3_m1, m1_i3, m1_eq, i3_ge0, m1_lt, i3_le_m1, ↓reduceIte, rZ_0, rZ_1, bdR_s, bdW_s, ifN_n, ifN_s, uS_n, uS_e, uS_d, ↓mgF_s, ↓mpF_s, ↓mgA_2, ↓mgA_4, ↓mgA_6, ↓mgA_7, ↓mgA_9, ↓mgA_10, ↓mgA_12, ↓mgA_14, ↓mgA_15, ↓mgA_16, ↓mgA_17, ↓mgA_18, ↓mgA_19, ↓mgA_20, ↓mgA_21, ↓mgA_22, ↓mgA_23, ↓mgA_24, ↓mgA_25, ↓mgA_26, ↓mgA_27, ↓mgA_28, ↓mgA_29, ↓mgA_30, ↓mgA_31, ↓mgA_32, ↓mgA_33, ↓mgA_34, ↓mgA_35, ↓mgA_36, ↓mgA_37, ↓mgA_38, ↓mgA_39, ↓mgA_41, ↓mgA_42, ↓mgA_43, ↓mgA_44, ↓mgA_45, ↓mgA_46, ↓mpA_2, ↓mpA_4, ↓mpA_6, ↓mpA_7, ↓mpA_9, ↓mpA_10, ↓mpA_12, ↓mpA_14, ↓mpA_15, ↓mpA_16, ↓mpZ_17, ↓mpA_18, ↓mpZ_19, ↓mpA_20, ↓mpA_21, ↓mpA_22, ↓mpA_23, ↓mpA_24, ↓mpZ_25, ↓mpA_26, ↓mpA_27, ↓mpA_28, ↓mpA_29, ↓mpA_30, ↓mpA_31, ↓mpA_32, ↓mpA_33, ↓mpA_34, ↓mpZ_35, ↓mpA_36, ↓mpA_37, ↓mpA_38, ↓mpA_39, ↓mpA_41, ↓mpA_42, ↓mpZ_43, ↓mpA_44, ↓mpA_45, ↓mpA_46, fMd_isUpload_E, hL, i3_dec1, fMd_isIn_E]
        · simp (disch := (first | assumption | omega | decide | (simp only [mK_uI, mK_uP, mL_uI, mL_uP, mK_wI, mL_wI, mK_nA_e, mL_nA_e] <;> (first | assumption | omega)))) only [i3_le_t, i3_le_f, i3_lt_t, i3_lt_f, i3_eq_t, i3_eq_f, i3_add, i3_mul, i3_sub, i3_div, i3_dec, i3_m1, m1_i3, m1_eq, i3_ge0, m1_lt, i3_le_m1, ↓reduceIte, rZ_0, rZ_1, bdR_s, bdW_s, ifN_n, ifN_s, uS_n, uS_e, uS_d, ↓mgF_s, ↓mpF_s, ↓mgA_2, ↓mgA_4, ↓mgA_6, ↓mgA_7, ↓mgA_9, ↓mgA_10, ↓mgA_12, ↓mgA_14, ↓mgA_15, ↓mgA_16, ↓mgA_17, ↓mgA_18, ↓mgA_19, ↓mgA_20, ↓mgA_21, ↓mgA_22, ↓mgA_23, ↓mgA_24, ↓mgA_25, ↓mgA_26, ↓mgA_27, ↓mgA_28, ↓mgA_29, ↓mgA_30, ↓mgA_31, ↓mgA_32, ↓mgA_33, ↓mgA_34, ↓mgA_35, ↓mgA_36, ↓mgA_37, ↓mgA_38, ↓mgA_39, ↓mgA_41, ↓mgA_42, ↓mgA_43, ↓mgA_44, ↓mgA_45, ↓mgA_46, ↓mpA_2, ↓mpA_4, ↓mpA_6, ↓mpA_7, ↓mpA_9, ↓mpA_10, ↓mpA_12, ↓mpA_14, ↓mpA_15, ↓mpA_16, ↓mpZ_17, ↓mpA_18, ↓mpZ_19, ↓mpA_20, ↓mpA_21, ↓mpA_22, ↓mpA_23, ↓mpA_24, ↓mpZ_25, ↓mpA_26, ↓mpA_27, ↓mpA_28, ↓mpA_29, ↓mpA_30, ↓mpA_31, ↓mpA_32, ↓mpA_33, ↓mpA_34, ↓mpZ_35, ↓mpA_36, ↓mpA_37, ↓mpA_38, ↓mpA_39, ↓mpA_41, ↓mpA_42, ↓mpZ_43, ↓mpA_44, ↓mpA_45, ↓mpA_46, fMd_isUpload_E, hL, fMd_isIn_E]
theorem add_nv {b a : Nat} {x : Int32} (hx : NB b x) : i3 a + x = i3 (a + nv x) := by
  have e : i3 a + x = i3 a + i3 (nv x) := congrArg (fun y => i3 a + y) hx.1
  rw [e, i3_add]
theorem c_total {u t g : Nat} {key ov : Int32} {pm : Nat → Int32} {pb : Nat → Nat → Int32} (U : UPC own M u t g key ov pm pb) (s44 : Nat → Int32) (v : Nat) (hpm : ∀ k, k < 9 → pm k = s44 (9 * v + k) ∧ NB 40 (s44 (9 * v + k))) : fUpload_total u M = some (i3 (pcsum s44 v 9)) := by
  have k1 := U.b.k
  have p2 := U.b.p2
  have rk := U.b.rk
  have rl := U.b.rl
  have lp : ∀ d k fu, d + k = 9 → d < fu → fUpload_total_l4 u fu (i3 (pcsum s44 v k)) (i3 (k + 1)) M = some (i3 (pcsum s44 v 9)) := by
    intro d
    induction d with
    | zero =>
      intro k fu hd hfu
      obtain ⟨f, rfl⟩ : ∃ f, fu = f + 1 := ⟨fu - 1, by omega⟩
      have hk : k = 9 := by omega
      subst hk
      rw [fUpload_total_l4_S, fUpload_total_b4_E]
      clear U hpm
      simp (disch := (first | assumption | omega | decide | (simp only [mK_uI, mK_uP, mL_uI, mL_uP, mK_wI, mL_wI, mK_nA_e, mL_nA_e] <;> (first | assumption | omega)))) only [i3_le_t, i3_le_f, i3_lt_t, i3_lt_f, i3_eq_t, i3_eq_f, i3_add, i3_mul, i3_sub, i3_div, i3_dec, i3_m1, m1_i3, m1_eq, i3_ge0, m1_lt, i3_le_m1, ↓reduceIte, rZ_0, rZ_1, bdR_s, bdW_s, ifN_n, ifN_s, ↓fgI_s, ↓fgR_s, ↓rk_s, ↓fpI_s, ↓fpR_s, ↓fpZ_0, ↓fpZ_1, ↓alI_i, ↓alP_i, ↓asI_i, ↓asB_i, ↓asZ_0, ↓asZ_1, ↓aln_i, ↓fca_s, ↓fca_n, bdC_li, bdC_ri, mK_uI, mK_uP, mL_uI, mL_uP, mP_uI, mI_uP, mK_wI, mL_wI, mP_wI, mI_uI_e, mI_uI_c, nwO_s, mK_nA_e, mL_nA_e, p2, rl]
    | succ d ih =>
      intro k fu hd hfu
      obtain ⟨f, rfl⟩ : ∃ f, fu = f + 1 := ⟨fu - 1, by omega⟩
      obtain ⟨q1, q2, q3, -⟩ := U.pc k (by omega)
      obtain ⟨q4, q5⟩ := hpm k (by omega)
      have q6 := q2.k
      have ih' := ih (k + 1) f (by omega) (by omega)
      have e1 : pcsum s44 v (k + 1) = pcsum s44 v k + nv (s44 (9 * v + k)) := rfl
      have e2 := add_nv (a := pcsum s44 v k) q5
      rw [← e1] at e2
      have e3 : k + 1 - 1 = k := by omega
      rw [q4] at q3
      rw [fUpload_total_l4_S, fUpload_total_b4_E]
      clear U hpm ih q2
      simp (disch := (first | assumption | omega | decide | (simp only [mK_uI, mK_uP, mL_uI, mL_uP, mK_wI, mL_wI, mK_nA_e, mL_nA_e] <;> (first | assumption | omega)))) only [i3_le_t, i3_le_f, i3_lt_t, i3_lt_f, i3_eq_t, i3_eq_f, i3_add, i3_mul, i3_sub, i3_div, i3_dec, i3_m1, m1_i3, m1_eq, i3_ge0, m1_lt, i3_le_m1, ↓reduceIte, rZ_0, rZ_1, bdR_s, bdW_s, ifN_n, ifN_s, ↓fgI_s, ↓fgR_s, ↓rk_s, ↓fpI_s, ↓fpR_s, ↓fpZ_0, ↓fpZ_1, ↓alI_i, ↓alP_i, ↓asI_i, ↓asB_i, ↓asZ_0, ↓asZ_1, ↓aln_i, ↓fca_s, ↓fca_n, bdC_li, bdC_ri, mK_uI, mK_uP, mL_uI, mL_uP, mP_uI, mI_uP, mK_wI, mL_wI, mP_wI, mI_uI_e, mI_uI_c, nwO_s, mK_nA_e, mL_nA_e, p2, rl, fUpload_manyOf_E, e3, q1, q3, e2, ih']
  rw [fUpload_total_E]
  exact lp 9 0 FU (by omega) (FU_S (by omega))
theorem m_pieced {u : Nat} (hu : u < 12) (hn : ∀ k, k < 9 → NB 40 (σ 44 (9 * u + k))) : fMd_pieced (i3 u) σ = some (i3 (pcsum (σ 44) u 9)) := by
  have lp : ∀ d k fu, d + k = 9 → d < fu → fMd_pieced_l4 fu (i3 u) (i3 (pcsum (σ 44) u k)) (i3 k) σ = some (i3 (pcsum (σ 44) u 9)) := by
    intro d
    induction d with
    | zero =>
      intro k fu hd hfu
      obtain ⟨f, rfl⟩ : ∃ f, fu = f + 1 := ⟨fu - 1, by omega⟩
      have hk : k = 9 := by omega
      subst hk
      rw [fMd_pieced_l4_S, fMd_pieced_b4_E]
      simp (disch := (first | assumption | omega | decide | (simp only [mK_uI, mK_uP, mL_uI, mL_uP, mK_wI, mL_wI, mK_nA_e, mL_nA_e] <;> (first | assumption | omega)))) only [i3_le_t, i3_le_f, i3_lt_t, i3_lt_f, i3_eq_t, i3_eq_f, i3_add, i3_mul, i3_sub, i3_div, i3_dec, i3_m1, m1_i3, m1_eq, i3_ge0, m1_lt, i3_le_m1, ↓reduceIte, rZ_0, rZ_1, bdR_s, bdW_s, ifN_n, ifN_s, uS_n, uS_e, uS_d, ↓mgF_s, ↓mpF_s, ↓mgA_2, ↓mgA_4, ↓mgA_6, ↓mgA_7, ↓mgA_9, ↓mgA_10, ↓mgA_12, ↓mgA_14, ↓mgA_15, ↓mgA_16, ↓mgA_17, ↓mgA_18, ↓mgA_19, ↓mgA_20, ↓mgA_21, ↓mgA_22, ↓mgA_23, ↓mgA_24, ↓mgA_25, ↓mgA_26, ↓mgA_27, ↓mgA_28, ↓mgA_29, ↓mgA_30, ↓mgA_31, ↓mgA_32, ↓mgA_33, ↓mgA_34, ↓mgA_35, ↓mgA_36, ↓mgA_37, ↓mgA_38, ↓mgA_39, ↓mgA_41, ↓mgA_42, ↓mgA_43, ↓mgA_44, ↓mgA_45, ↓mgA_46, ↓mpA_2, ↓mpA_4, ↓mpA_6, ↓mpA_7, ↓mpA_9, ↓mpA_10, ↓mpA_12, ↓mpA_14, ↓mpA_15, ↓mpA_16, ↓mpZ_17, ↓mpA_18, ↓mpZ_19, ↓mpA_20, ↓mpA_21, ↓mpA_22, ↓mpA_23, ↓mpA_24, ↓mpZ_25, ↓mpA_26, ↓mpA_27, ↓mpA_28, ↓mpA_29, ↓mpA_30, ↓mpA_31, ↓mpA_32, ↓mpA_33, ↓mpA_34, ↓mpZ_35, ↓mpA_36, ↓mpA_37, ↓mpA_38, ↓mpA_39, ↓mpA_41, ↓mpA_42, ↓mpZ_43, ↓mpA_44, ↓mpA_45, ↓mpA_46]
    | succ d ih =>
      intro k fu hd hfu
      obtain ⟨f, rfl⟩ : ∃ f, fu = f + 1 := ⟨fu - 1, by omega⟩
      have q5 := hn k (by omega)
      have ih' := ih (k + 1) f (by omega) (by omega)
      have e1 : pcsum (σ 44) u (k + 1) = pcsum (σ 44) u k + nv (σ 44 (9 * u + k)) := rfl
      have e2 := add_nv (a := pcsum (σ 44) u k) q5
      rw [← e1] at e2
      rw [fMd_pieced_l4_S, fMd_pieced_b4_E]
      clear ih hn
      simp (disch := (first | assumption | omega | decide | (simp only [mK_uI, mK_uP, mL_uI, mL_uP, mK_wI, mL_wI, mK_nA_e, mL_nA_e] <;> (first | assumption | omega)))) only [i3_le_t, i3_le_f, i3_lt_t, i3_lt_f, i3_eq_t, i3_eq_f, i3_add, i3_mul, i3_sub, i3_div, i3_dec, i3_m1, m1_i3, m1_eq, i3_ge0, m1_lt, i3_le_m1, ↓reduceIte, rZ_0, rZ_1, bdR_s, bdW_s, ifN_n, ifN_s, uS_n, uS_e, uS_d, ↓mgF_s, ↓mpF_s, ↓mgA_2, ↓mgA_4, ↓mgA_6, ↓mgA_7, ↓mgA_9, ↓mgA_10, ↓mgA_12, ↓mgA_14, ↓mgA_15, ↓mgA_16, ↓mgA_17, ↓mgA_18, ↓mgA_19, ↓mgA_20, ↓mgA_21, ↓mgA_22, ↓mgA_23, ↓mgA_24, ↓mgA_25, ↓mgA_26, ↓mgA_27, ↓mgA_28, ↓mgA_29, ↓mgA_30, ↓mgA_31, ↓mgA_32, ↓mgA_33, ↓mgA_34, ↓mgA_35, ↓mgA_36, ↓mgA_37, ↓mgA_38, ↓mgA_39, ↓mgA_41, ↓mgA_42, ↓mgA_43, ↓mgA_44, ↓mgA_45, ↓mgA_46, ↓mpA_2, ↓mpA_4, ↓mpA_6, ↓mpA_7, ↓mpA_9, ↓mpA_10, ↓mpA_12, ↓mpA_14, ↓mpA_15, ↓mpA_16, ↓mpZ_17, ↓mpA_18, ↓mpZ_19, ↓mpA_20, ↓mpA_21, ↓mpA_22, ↓mpA_23, ↓mpA_24, ↓mpZ_25, ↓mpA_26, ↓mpA_27, ↓mpA_28, ↓mpA_29, ↓mpA_30, ↓mpA_31, ↓mpA_32, ↓mpA_33, ↓mpA_34, ↓mpZ_35, ↓mpA_36, ↓mpA_37, ↓mpA_38, ↓mpA_39, ↓mpA_41, ↓mpA_42, ↓mpZ_43, ↓mpA_44, ↓mpA_45, ↓mpA_46, e2, ih']
  rw [fMd_pieced_E]
  exact lp 9 0 FU (by omega) (FU_S (by omega))
theorem pcsum_eq {s s' : Nat → Int32} {u : Nat} : ∀ m, (∀ k, k < m → s' (9 * u + k) = s (9 * u + k)) → pcsum s' u m = pcsum s u m := by
  intro m
  induction m with
  | zero => intro _; rfl
  | succ m ih =>
    intro hh
    unfold pcsum
    rw [ih fun k hk => hh k (by omega), hh m (by omega)]
theorem pcsum_set {s s' : Nat → Int32} {u k : Nat} {v : Int32} (h1 : s' (9 * u + k) = v) (h2 : ∀ j, j ≠ 9 * u + k → s' j = s j) : ∀ d, pcsum s' u (k + 1 + d) + nv (s (9 * u + k)) = pcsum s u (k + 1 + d) + nv v := by
  intro d
  induction d with
  | zero =>
    show pcsum s' u k + nv (s' (9 * u + k)) + nv (s (9 * u + k)) = pcsum s u k + nv (s (9 * u + k)) + nv v
    rw [h1, pcsum_eq k fun i hi => h2 _ (by omega)]
    omega
  | succ d ih =>
    show pcsum s' u (k + 1 + d) + nv (s' (9 * u + (k + 1 + d))) + nv (s (9 * u + k)) = pcsum s u (k + 1 + d) + nv (s (9 * u + (k + 1 + d))) + nv v
    rw [h2 _ (by omega)]
    omega
/-- the draft, laid as a piece -/
def pcg (σ : Sg) (a i D : Nat) : Nat → Int32 := fun j => if 40 * a + i ≤ j ∧ j < 40 * a + D then σ 2 (j - 40 * a) else σ 45 j
theorem m_piece_l {u a D : Nat} (ha : a < 108) (hD40 : D ≤ 40) : ∀ d i fu (σ : Sg), d + i = D → d < fu → σ 1 0 = i3 D → fMd_piece_l123 fu (i3 u) (i3 a) (i3 i) σ = bdR (fMd_pieced (i3 u) (uS (sF σ 45 (pcg σ a i D)) 1 0 (i3 0))) fun v => some (v, uS (sF σ 45 (pcg σ a i D)) 1 0 (i3 0)) := by
  intro d
  induction d with
  | zero =>
    intro i fu σ hd hfu hD
    obtain ⟨f, rfl⟩ : ∃ f, fu = f + 1 := ⟨fu - 1, by omega⟩
    have e : sF σ 45 (pcg σ a i D) = σ := funext fun k => by
      by_cases z : k = 45
      · subst z
        rw [sF_e]
        exact funext fun j => if_neg (by omega)
      · rw [sF_n _ _ z]
    rw [fMd_piece_l123_S, fMd_piece_b123_E, e]
    simp (disch := (first | assumption | omega | decide | (simp only [mK_uI, mK_uP, mL_uI, mL_uP, mK_wI, mL_wI, mK_nA_e, mL_nA_e] <;> (first | assumption | omega)))) only [i3_le_t, i3_le_f, i3_lt_t, i3_lt_f, i3_eq_t, i3_eq_f, i3_add, i3_mul, i3_sub, i3_div, i3_dec, i3_m1, m1_i3, m1_eq, i3_ge0, m1_lt, i3_le_m1, ↓reduceIte, rZ_0, rZ_1, bdR_s, bdW_s, ifN_n, ifN_s, uS_n, uS_e, uS_d, ↓mgF_s, ↓mpF_s, ↓mgA_2, ↓mgA_4, ↓mgA_6, ↓mgA_7, ↓mgA_9, ↓mgA_10, ↓mgA_12, ↓mgA_14, ↓mgA_15, ↓mgA_16, ↓mgA_17, ↓mgA_18, ↓mgA_19, ↓mgA_20, ↓mgA_21, ↓mgA_22, ↓mgA_23, ↓mgA_24, ↓mgA_25, ↓mgA_26, ↓mgA_27, ↓mgA_28, ↓mgA_29, ↓mgA_30, ↓mgA_31, ↓mgA_32, ↓mgA_33, ↓mgA_34, ↓mgA_35, ↓mgA_36, ↓mgA_37, ↓mgA_38, ↓mgA_39, ↓mgA_41, ↓mgA_42, ↓mgA_43, ↓mgA_44, ↓mgA_45, ↓mgA_46, ↓mpA_2, ↓mpA_4, ↓mpA_6, ↓mpA_7, ↓mpA_9, ↓mpA_10, ↓mpA_12, ↓mpA_14, ↓mpA_15, ↓mpA_16, ↓mpZ_17, ↓mpA_18, ↓mpZ_19, ↓mpA_20, ↓mpA_21, ↓mpA_22, ↓mpA_23, ↓mpA_24, ↓mpZ_25, ↓mpA_26, ↓mpA_27, ↓mpA_28, ↓mpA_29, ↓mpA_30, ↓mpA_31, ↓mpA_32, ↓mpA_33, ↓mpA_34, ↓mpZ_35, ↓mpA_36, ↓mpA_37, ↓mpA_38, ↓mpA_39, ↓mpA_41, ↓mpA_42, ↓mpZ_43, ↓mpA_44, ↓mpA_45, ↓mpA_46, hD]
  | succ d ih =>
    intro i fu σ hd hfu hD
    obtain ⟨f, rfl⟩ : ∃ f, fu = f + 1 := ⟨fu - 1, by omega⟩
    have ih' := ih (i + 1) f (uS σ 45 (40 * a + i) (σ 2 i)) (by omega) (by omega) hD
    have e : sF (uS σ 45 (40 * a + i) (σ 2 i)) 45 (pcg (uS σ 45 (40 * a + i) (σ 2 i)) a (i + 1) D) = sF σ 45 (pcg σ a i D) := funext fun k => by
      by_cases z : k = 45
      · subst z
        rw [sF_e, sF_e]
        refine funext fun j => ?_
        show (if 40 * a + (i + 1) ≤ j ∧ j < 40 * a + D then σ 2 (j - 40 * a) else (if 45 = 45 ∧ j = 40 * a + i then σ 2 i else σ 45 j)) = (if 40 * a + i ≤ j ∧ j < 40 * a + D then σ 2 (j - 40 * a) else σ 45 j)
        by_cases y : j = 40 * a + i
        · subst y
          rw [if_neg (by omega), if_pos ⟨rfl, rfl⟩, if_pos (by omega), Nat.add_sub_cancel_left]
        · by_cases x : 40 * a + i ≤ j ∧ j < 40 * a + D
          · rw [if_pos (by omega), if_pos x]
          · rw [if_neg (by omega), if_neg (by omega), if_neg x]
      · rw [sF_n _ _ z, sF_n _ _ z, uS_n _ _ _ z]
    rw [e] at ih'
    rw [fMd_piece_l123_S, fMd_piece_b123_E]
    clear ih e
    simp (disch := (first | assumption | omega | decide | (simp only [mK_uI, mK_uP, mL_uI, mL_uP, mK_wI, mL_wI, mK_nA_e, mL_nA_e] <;> (first | assumption | omega)))) only [i3_le_t, i3_le_f, i3_lt_t, i3_lt_f, i3_eq_t, i3_eq_f, i3_add, i3_mul, i3_sub, i3_div, i3_dec, i3_m1, m1_i3, m1_eq, i3_ge0, m1_lt, i3_le_m1, ↓reduceIte, rZ_0, rZ_1, bdR_s, bdW_s, ifN_n, ifN_s, uS_n, uS_e, uS_d, ↓mgF_s, ↓mpF_s, ↓mgA_2, ↓mgA_4, ↓mgA_6, ↓mgA_7, ↓mgA_9, ↓mgA_10, ↓mgA_12, ↓mgA_14, ↓mgA_15, ↓mgA_16, ↓mgA_17, ↓mgA_18, ↓mgA_19, ↓mgA_20, ↓mgA_21, ↓mgA_22, ↓mgA_23, ↓mgA_24, ↓mgA_25, ↓mgA_26, ↓mgA_27, ↓mgA_28, ↓mgA_29, ↓mgA_30, ↓mgA_31, ↓mgA_32, ↓mgA_33, ↓mgA_34, ↓mgA_35, ↓mgA_36, ↓mgA_37, ↓mgA_38, ↓mgA_39, ↓mgA_41, ↓mgA_42, ↓mgA_43, ↓mgA_44, ↓mgA_45, ↓mgA_46, ↓mpA_2, ↓mpA_4, ↓mpA_6, ↓mpA_7, ↓mpA_9, ↓mpA_10, ↓mpA_12, ↓mpA_14, ↓mpA_15, ↓mpA_16, ↓mpZ_17, ↓mpA_18, ↓mpZ_19, ↓mpA_20, ↓mpA_21, ↓mpA_22, ↓mpA_23, ↓mpA_24, ↓mpZ_25, ↓mpA_26, ↓mpA_27, ↓mpA_28, ↓mpA_29, ↓mpA_30, ↓mpA_31, ↓mpA_32, ↓mpA_33, ↓mpA_34, ↓mpZ_35, ↓mpA_36, ↓mpA_37, ↓mpA_38, ↓mpA_39, ↓mpA_41, ↓mpA_42, ↓mpZ_43, ↓mpA_44, ↓mpA_45, ↓mpA_46, hD, ih']
end PI
